theorem dX5_init_0 : decode cX5_init 0 = .ok (.aload_n 0, 1) := by decide +kernel
theorem dX5_init_1 : decode cX5_init 1 = .ok (.invokespecial 1, 3) := by decide +kernel
theorem dX5_init_4 : decode cX5_init 4 = .ok (.aload_n 0, 1) := by decide +kernel
theorem dX5_init_5 : decode cX5_init 5 = .ok (.new 7, 3) := by decide +kernel
theorem dX5_init_8 : decode cX5_init 8 = .ok (.dup, 1) := by decide +kernel
theorem dX5_init_9 : decode cX5_init 9 = .ok (.invokespecial 9, 3) := by decide +kernel
theorem dX5_init_12 : decode cX5_init 12 = .ok (.putfield 10, 3) := by decide +kernel
theorem dX5_init_15 : decode cX5_init 15 = .ok (.aload_n 0, 1) := by decide +kernel
theorem dX5_init_16 : decode cX5_init 16 = .ok (.new 16, 3) := by decide +kernel
theorem dX5_init_19 : decode cX5_init 19 = .ok (.dup, 1) := by decide +kernel
theorem dX5_init_20 : decode cX5_init 20 = .ok (.invokespecial 18, 3) := by decide +kernel
theorem dX5_init_23 : decode cX5_init 23 = .ok (.putfield 19, 3) := by decide +kernel
theorem dX5_init_26 : decode cX5_init 26 = .ok (.aload_n 0, 1) := by decide +kernel
theorem dX5_init_27 : decode cX5_init 27 = .ok (.new 23, 3) := by decide +kernel
theorem dX5_init_30 : decode cX5_init 30 = .ok (.dup, 1) := by decide +kernel
theorem dX5_init_31 : decode cX5_init 31 = .ok (.invokespecial 25, 3) := by decide +kernel
theorem dX5_init_34 : decode cX5_init 34 = .ok (.putfield 26, 3) := by decide +kernel
theorem dX5_init_37 : decode cX5_init 37 = .ok (.aload_n 0, 1) := by decide +kernel
theorem dX5_init_38 : decode cX5_init 38 = .ok (.new 30, 3) := by decide +kernel
theorem dX5_init_41 : decode cX5_init 41 = .ok (.dup, 1) := by decide +kernel
theorem dX5_init_42 : decode cX5_init 42 = .ok (.invokespecial 32, 3) := by decide +kernel
theorem dX5_init_45 : decode cX5_init 45 = .ok (.putfield 33, 3) := by decide +kernel
theorem dX5_init_48 : decode cX5_init 48 = .ok (.aload_n 0, 1) := by decide +kernel
theorem dX5_init_49 : decode cX5_init 49 = .ok (.new 37, 3) := by decide +kernel
theorem dX5_init_52 : decode cX5_init 52 = .ok (.dup, 1) := by decide +kernel
theorem dX5_init_53 : decode cX5_init 53 = .ok (.invokespecial 39, 3) := by decide +kernel
theorem dX5_init_56 : decode cX5_init 56 = .ok (.putfield 40, 3) := by decide +kernel
theorem dX5_init_59 : decode cX5_init 59 = .ok (.aload_n 0, 1) := by decide +kernel
theorem dX5_init_60 : decode cX5_init 60 = .ok (.iconst 0, 1) := by decide +kernel
theorem dX5_init_61 : decode cX5_init 61 = .ok (.putfield 44, 3) := by decide +kernel
theorem dX5_init_64 : decode cX5_init 64 = .ok (.return_, 1) := by decide +kernel
theorem dX5_ring_0 : decode cX5_ring 0 = .ok (.aload_n 0, 1) := by decide +kernel
theorem dX5_ring_1 : decode cX5_ring 1 = .ok (.iload_n 1, 1) := by decide +kernel
theorem dX5_ring_2 : decode cX5_ring 2 = .ok (.iconst 1, 1) := by decide +kernel
theorem dX5_ring_3 : decode cX5_ring 3 = .ok (.if_icmp .lt 9, 3) := by decide +kernel
theorem dX5_ring_6 : decode cX5_ring 6 = .ok (.iload_n 1, 1) := by decide +kernel
theorem dX5_ring_7 : decode cX5_ring 7 = .ok (.bipush 60, 2) := by decide +kernel
theorem dX5_ring_9 : decode cX5_ring 9 = .ok (.if_icmp .le 7, 3) := by decide +kernel
theorem dX5_ring_12 : decode cX5_ring 12 = .ok (.iconst 1, 1) := by decide +kernel
theorem dX5_ring_13 : decode cX5_ring 13 = .ok (.goto 4, 3) := by decide +kernel
theorem dX5_ring_16 : decode cX5_ring 16 = .ok (.iconst 0, 1) := by decide +kernel
theorem dX5_ring_17 : decode cX5_ring 17 = .ok (.invokevirtual 48, 3) := by decide +kernel
theorem dX5_ring_20 : decode cX5_ring 20 = .ok (.ifCond .eq 5, 3) := by decide +kernel
theorem dX5_ring_23 : decode cX5_ring 23 = .ok (.iconst 0, 1) := by decide +kernel
theorem dX5_ring_24 : decode cX5_ring 24 = .ok (.ireturn, 1) := by decide +kernel
theorem dX5_ring_25 : decode cX5_ring 25 = .ok (.aload_n 0, 1) := by decide +kernel
theorem dX5_ring_26 : decode cX5_ring 26 = .ok (.iload_n 1, 1) := by decide +kernel
theorem dX5_ring_27 : decode cX5_ring 27 = .ok (.invokevirtual 52, 3) := by decide +kernel
theorem dX5_ring_30 : decode cX5_ring 30 = .ok (.iconst 1, 1) := by decide +kernel
theorem dX5_ring_31 : decode cX5_ring 31 = .ok (.ireturn, 1) := by decide +kernel
theorem dX5_sheet_0 : decode cX5_sheet 0 = .ok (.aload_n 0, 1) := by decide +kernel
theorem dX5_sheet_1 : decode cX5_sheet 1 = .ok (.iload_n 1, 1) := by decide +kernel
theorem dX5_sheet_2 : decode cX5_sheet 2 = .ok (.iload_n 2, 1) := by decide +kernel
theorem dX5_sheet_3 : decode cX5_sheet 3 = .ok (.invokestatic 56, 3) := by decide +kernel
theorem dX5_sheet_6 : decode cX5_sheet 6 = .ok (.invokevirtual 48, 3) := by decide +kernel
theorem dX5_sheet_9 : decode cX5_sheet 9 = .ok (.ifCond .eq 5, 3) := by decide +kernel
theorem dX5_sheet_12 : decode cX5_sheet 12 = .ok (.iconst (-1), 1) := by decide +kernel
theorem dX5_sheet_13 : decode cX5_sheet 13 = .ok (.ireturn, 1) := by decide +kernel
theorem dX5_sheet_14 : decode cX5_sheet 14 = .ok (.aload_n 0, 1) := by decide +kernel
theorem dX5_sheet_15 : decode cX5_sheet 15 = .ok (.getfield 19, 3) := by decide +kernel
theorem dX5_sheet_18 : decode cX5_sheet 18 = .ok (.iload_n 1, 1) := by decide +kernel
theorem dX5_sheet_19 : decode cX5_sheet 19 = .ok (.iload_n 1, 1) := by decide +kernel
theorem dX5_sheet_20 : decode cX5_sheet 20 = .ok (.iconst 3, 1) := by decide +kernel
theorem dX5_sheet_21 : decode cX5_sheet 21 = .ok (.if_icmp .ne 7, 3) := by decide +kernel
theorem dX5_sheet_24 : decode cX5_sheet 24 = .ok (.iconst 0, 1) := by decide +kernel
theorem dX5_sheet_25 : decode cX5_sheet 25 = .ok (.goto 4, 3) := by decide +kernel
theorem dX5_sheet_28 : decode cX5_sheet 28 = .ok (.iload_n 2, 1) := by decide +kernel
theorem dX5_sheet_29 : decode cX5_sheet 29 = .ok (.invokevirtual 60, 3) := by decide +kernel
theorem dX5_sheet_32 : decode cX5_sheet 32 = .ok (.aload_n 0, 1) := by decide +kernel
theorem dX5_sheet_33 : decode cX5_sheet 33 = .ok (.getfield 19, 3) := by decide +kernel
theorem dX5_sheet_36 : decode cX5_sheet 36 = .ok (.getfield 64, 3) := by decide +kernel
theorem dX5_sheet_39 : decode cX5_sheet 39 = .ok (.ireturn, 1) := by decide +kernel
theorem dX5_entry_0 : decode cX5_entry 0 = .ok (.aload_n 0, 1) := by decide +kernel
theorem dX5_entry_1 : decode cX5_entry 1 = .ok (.getfield 19, 3) := by decide +kernel
theorem dX5_entry_4 : decode cX5_entry 4 = .ok (.getfield 67, 3) := by decide +kernel
theorem dX5_entry_7 : decode cX5_entry 7 = .ok (.iconst (-1), 1) := by decide +kernel
theorem dX5_entry_8 : decode cX5_entry 8 = .ok (.if_icmp .eq 14, 3) := by decide +kernel
theorem dX5_entry_11 : decode cX5_entry 11 = .ok (.aload_n 0, 1) := by decide +kernel
theorem dX5_entry_12 : decode cX5_entry 12 = .ok (.getfield 19, 3) := by decide +kernel
theorem dX5_entry_15 : decode cX5_entry 15 = .ok (.getfield 67, 3) := by decide +kernel
theorem dX5_entry_18 : decode cX5_entry 18 = .ok (.iconst 3, 1) := by decide +kernel
theorem dX5_entry_19 : decode cX5_entry 19 = .ok (.if_icmp .ne 7, 3) := by decide +kernel
theorem dX5_entry_22 : decode cX5_entry 22 = .ok (.iconst 2, 1) := by decide +kernel
theorem dX5_entry_23 : decode cX5_entry 23 = .ok (.goto 23, 3) := by decide +kernel
theorem dX5_entry_26 : decode cX5_entry 26 = .ok (.iload_n 1, 1) := by decide +kernel
theorem dX5_entry_27 : decode cX5_entry 27 = .ok (.ifCond .lt 14, 3) := by decide +kernel
theorem dX5_entry_30 : decode cX5_entry 30 = .ok (.iload_n 1, 1) := by decide +kernel
theorem dX5_entry_31 : decode cX5_entry 31 = .ok (.aload_n 0, 1) := by decide +kernel
theorem dX5_entry_32 : decode cX5_entry 32 = .ok (.getfield 19, 3) := by decide +kernel
theorem dX5_entry_35 : decode cX5_entry 35 = .ok (.getfield 64, 3) := by decide +kernel
theorem dX5_entry_38 : decode cX5_entry 38 = .ok (.if_icmp .lt 7, 3) := by decide +kernel
theorem dX5_entry_41 : decode cX5_entry 41 = .ok (.iconst 1, 1) := by decide +kernel
theorem dX5_entry_42 : decode cX5_entry 42 = .ok (.goto 4, 3) := by decide +kernel
theorem dX5_entry_45 : decode cX5_entry 45 = .ok (.iconst 0, 1) := by decide +kernel
theorem dX5_entry_46 : decode cX5_entry 46 = .ok (.istore_n 3, 1) := by decide +kernel
theorem dX5_entry_47 : decode cX5_entry 47 = .ok (.aload_n 0, 1) := by decide +kernel
theorem dX5_entry_48 : decode cX5_entry 48 = .ok (.iload_n 3, 1) := by decide +kernel
theorem dX5_entry_49 : decode cX5_entry 49 = .ok (.invokevirtual 48, 3) := by decide +kernel
theorem dX5_entry_52 : decode cX5_entry 52 = .ok (.ifCond .eq 5, 3) := by decide +kernel
theorem dX5_entry_55 : decode cX5_entry 55 = .ok (.iconst 0, 1) := by decide +kernel
theorem dX5_entry_56 : decode cX5_entry 56 = .ok (.ireturn, 1) := by decide +kernel
theorem dX5_entry_57 : decode cX5_entry 57 = .ok (.aload_n 0, 1) := by decide +kernel
theorem dX5_entry_58 : decode cX5_entry 58 = .ok (.getfield 19, 3) := by decide +kernel
theorem dX5_entry_61 : decode cX5_entry 61 = .ok (.iload_n 1, 1) := by decide +kernel
theorem dX5_entry_62 : decode cX5_entry 62 = .ok (.iload_n 2, 1) := by decide +kernel
theorem dX5_entry_63 : decode cX5_entry 63 = .ok (.invokevirtual 70, 3) := by decide +kernel
theorem dX5_entry_66 : decode cX5_entry 66 = .ok (.iconst 1, 1) := by decide +kernel
theorem dX5_entry_67 : decode cX5_entry 67 = .ok (.ireturn, 1) := by decide +kernel
theorem dX5_lay_0 : decode cX5_lay 0 = .ok (.aload_n 0, 1) := by decide +kernel
theorem dX5_lay_1 : decode cX5_lay 1 = .ok (.aload_n 0, 1) := by decide +kernel
theorem dX5_lay_2 : decode cX5_lay 2 = .ok (.iload_n 1, 1) := by decide +kernel
theorem dX5_lay_3 : decode cX5_lay 3 = .ok (.invokevirtual 73, 3) := by decide +kernel
theorem dX5_lay_6 : decode cX5_lay 6 = .ok (.invokevirtual 48, 3) := by decide +kernel
theorem dX5_lay_9 : decode cX5_lay 9 = .ok (.ifCond .eq 5, 3) := by decide +kernel
theorem dX5_lay_12 : decode cX5_lay 12 = .ok (.iconst 0, 1) := by decide +kernel
theorem dX5_lay_13 : decode cX5_lay 13 = .ok (.ireturn, 1) := by decide +kernel
theorem dX5_lay_14 : decode cX5_lay 14 = .ok (.iconst 0, 1) := by decide +kernel
theorem dX5_lay_15 : decode cX5_lay 15 = .ok (.istore_n 2, 1) := by decide +kernel
theorem dX5_lay_16 : decode cX5_lay 16 = .ok (.iload_n 2, 1) := by decide +kernel
theorem dX5_lay_17 : decode cX5_lay 17 = .ok (.aload_n 0, 1) := by decide +kernel
theorem dX5_lay_18 : decode cX5_lay 18 = .ok (.getfield 10, 3) := by decide +kernel
theorem dX5_lay_21 : decode cX5_lay 21 = .ok (.getfield 77, 3) := by decide +kernel
theorem dX5_lay_24 : decode cX5_lay 24 = .ok (.if_icmp .ge 26, 3) := by decide +kernel
theorem dX5_lay_27 : decode cX5_lay 27 = .ok (.aload_n 0, 1) := by decide +kernel
theorem dX5_lay_28 : decode cX5_lay 28 = .ok (.getfield 10, 3) := by decide +kernel
theorem dX5_lay_31 : decode cX5_lay 31 = .ok (.iload_n 1, 1) := by decide +kernel
theorem dX5_lay_32 : decode cX5_lay 32 = .ok (.iload_n 2, 1) := by decide +kernel
theorem dX5_lay_33 : decode cX5_lay 33 = .ok (.aload_n 0, 1) := by decide +kernel
theorem dX5_lay_34 : decode cX5_lay 34 = .ok (.getfield 19, 3) := by decide +kernel
theorem dX5_lay_37 : decode cX5_lay 37 = .ok (.iload_n 2, 1) := by decide +kernel
theorem dX5_lay_38 : decode cX5_lay 38 = .ok (.invokevirtual 80, 3) := by decide +kernel
theorem dX5_lay_41 : decode cX5_lay 41 = .ok (.invokevirtual 83, 3) := by decide +kernel
theorem dX5_lay_44 : decode cX5_lay 44 = .ok (.iinc 2 1, 3) := by decide +kernel
theorem dX5_lay_47 : decode cX5_lay 47 = .ok (.goto (-31), 3) := by decide +kernel
theorem dX5_lay_50 : decode cX5_lay 50 = .ok (.aload_n 0, 1) := by decide +kernel
theorem dX5_lay_51 : decode cX5_lay 51 = .ok (.getfield 19, 3) := by decide +kernel
theorem dX5_lay_54 : decode cX5_lay 54 = .ok (.invokevirtual 87, 3) := by decide +kernel
theorem dX5_lay_57 : decode cX5_lay 57 = .ok (.aload_n 0, 1) := by decide +kernel
theorem dX5_lay_58 : decode cX5_lay 58 = .ok (.iload_n 1, 1) := by decide +kernel
theorem dX5_lay_59 : decode cX5_lay 59 = .ok (.invokevirtual 90, 3) := by decide +kernel
theorem dX5_lay_62 : decode cX5_lay 62 = .ok (.iconst 1, 1) := by decide +kernel
theorem dX5_lay_63 : decode cX5_lay 63 = .ok (.ireturn, 1) := by decide +kernel
theorem dX5_set_0 : decode cX5_set 0 = .ok (.iload_n 1, 1) := by decide +kernel
theorem dX5_set_1 : decode cX5_set 1 = .ok (.invokestatic 93, 3) := by decide +kernel
theorem dX5_set_4 : decode cX5_set 4 = .ok (.ifCond .eq 26, 3) := by decide +kernel
theorem dX5_set_7 : decode cX5_set 7 = .ok (.aload_n 0, 1) := by decide +kernel
theorem dX5_set_8 : decode cX5_set 8 = .ok (.getfield 10, 3) := by decide +kernel
theorem dX5_set_11 : decode cX5_set 11 = .ok (.iload_n 2, 1) := by decide +kernel
theorem dX5_set_12 : decode cX5_set 12 = .ok (.invokevirtual 96, 3) := by decide +kernel
theorem dX5_set_15 : decode cX5_set 15 = .ok (.ifCond .eq 15, 3) := by decide +kernel
theorem dX5_set_18 : decode cX5_set 18 = .ok (.iload_n 1, 1) := by decide +kernel
theorem dX5_set_19 : decode cX5_set 19 = .ok (.iload_n 3, 1) := by decide +kernel
theorem dX5_set_20 : decode cX5_set 20 = .ok (.invokestatic 99, 3) := by decide +kernel
theorem dX5_set_23 : decode cX5_set 23 = .ok (.ifCond .eq 7, 3) := by decide +kernel
theorem dX5_set_26 : decode cX5_set 26 = .ok (.iconst 1, 1) := by decide +kernel
theorem dX5_set_27 : decode cX5_set 27 = .ok (.goto 4, 3) := by decide +kernel
theorem dX5_set_30 : decode cX5_set 30 = .ok (.iconst 0, 1) := by decide +kernel
theorem dX5_set_31 : decode cX5_set 31 = .ok (.istore 4, 2) := by decide +kernel
theorem dX5_set_33 : decode cX5_set 33 = .ok (.aload_n 0, 1) := by decide +kernel
theorem dX5_set_34 : decode cX5_set 34 = .ok (.iload 4, 2) := by decide +kernel
theorem dX5_set_36 : decode cX5_set 36 = .ok (.ifCond .eq 7, 3) := by decide +kernel
theorem dX5_set_39 : decode cX5_set 39 = .ok (.iconst 0, 1) := by decide +kernel
theorem dX5_set_40 : decode cX5_set 40 = .ok (.goto 4, 3) := by decide +kernel
theorem dX5_set_43 : decode cX5_set 43 = .ok (.iconst 1, 1) := by decide +kernel
theorem dX5_set_44 : decode cX5_set 44 = .ok (.invokevirtual 48, 3) := by decide +kernel
theorem dX5_set_47 : decode cX5_set 47 = .ok (.ifCond .eq 5, 3) := by decide +kernel
theorem dX5_set_50 : decode cX5_set 50 = .ok (.iconst 0, 1) := by decide +kernel
theorem dX5_set_51 : decode cX5_set 51 = .ok (.ireturn, 1) := by decide +kernel
theorem dX5_set_52 : decode cX5_set 52 = .ok (.aload_n 0, 1) := by decide +kernel
theorem dX5_set_53 : decode cX5_set 53 = .ok (.getfield 10, 3) := by decide +kernel
theorem dX5_set_56 : decode cX5_set 56 = .ok (.iload_n 1, 1) := by decide +kernel
theorem dX5_set_57 : decode cX5_set 57 = .ok (.iload_n 2, 1) := by decide +kernel
theorem dX5_set_58 : decode cX5_set 58 = .ok (.iload_n 3, 1) := by decide +kernel
theorem dX5_set_59 : decode cX5_set 59 = .ok (.invokevirtual 83, 3) := by decide +kernel
theorem dX5_set_62 : decode cX5_set 62 = .ok (.aload_n 0, 1) := by decide +kernel
theorem dX5_set_63 : decode cX5_set 63 = .ok (.iload_n 1, 1) := by decide +kernel
theorem dX5_set_64 : decode cX5_set 64 = .ok (.invokevirtual 90, 3) := by decide +kernel
theorem dX5_set_67 : decode cX5_set 67 = .ok (.iconst 1, 1) := by decide +kernel
theorem dX5_set_68 : decode cX5_set 68 = .ok (.ireturn, 1) := by decide +kernel
theorem dX5_miss_0 : decode cX5_miss 0 = .ok (.aload_n 0, 1) := by decide +kernel
theorem dX5_miss_1 : decode cX5_miss 1 = .ok (.aload_n 0, 1) := by decide +kernel
theorem dX5_miss_2 : decode cX5_miss 2 = .ok (.getfield 10, 3) := by decide +kernel
theorem dX5_miss_5 : decode cX5_miss 5 = .ok (.iload_n 1, 1) := by decide +kernel
theorem dX5_miss_6 : decode cX5_miss 6 = .ok (.invokevirtual 96, 3) := by decide +kernel
theorem dX5_miss_9 : decode cX5_miss 9 = .ok (.ifCond .eq 7, 3) := by decide +kernel
theorem dX5_miss_12 : decode cX5_miss 12 = .ok (.iconst 0, 1) := by decide +kernel
theorem dX5_miss_13 : decode cX5_miss 13 = .ok (.goto 4, 3) := by decide +kernel
theorem dX5_miss_16 : decode cX5_miss 16 = .ok (.iconst 1, 1) := by decide +kernel
theorem dX5_miss_17 : decode cX5_miss 17 = .ok (.invokevirtual 48, 3) := by decide +kernel
theorem dX5_miss_20 : decode cX5_miss 20 = .ok (.ifCond .eq 5, 3) := by decide +kernel
theorem dX5_miss_23 : decode cX5_miss 23 = .ok (.iconst 0, 1) := by decide +kernel
theorem dX5_miss_24 : decode cX5_miss 24 = .ok (.ireturn, 1) := by decide +kernel
theorem dX5_miss_25 : decode cX5_miss 25 = .ok (.aload_n 0, 1) := by decide +kernel
theorem dX5_miss_26 : decode cX5_miss 26 = .ok (.getfield 10, 3) := by decide +kernel
theorem dX5_miss_29 : decode cX5_miss 29 = .ok (.iconst 2, 1) := by decide +kernel
theorem dX5_miss_30 : decode cX5_miss 30 = .ok (.iload_n 1, 1) := by decide +kernel
theorem dX5_miss_31 : decode cX5_miss 31 = .ok (.ldc 103, 2) := by decide +kernel
theorem dX5_miss_33 : decode cX5_miss 33 = .ok (.invokevirtual 83, 3) := by decide +kernel
theorem dX5_miss_36 : decode cX5_miss 36 = .ok (.iconst 1, 1) := by decide +kernel
theorem dX5_miss_37 : decode cX5_miss 37 = .ok (.ireturn, 1) := by decide +kernel
theorem dX5_at_0 : decode cX5_at 0 = .ok (.iload_n 1, 1) := by decide +kernel
theorem dX5_at_1 : decode cX5_at 1 = .ok (.invokestatic 93, 3) := by decide +kernel
theorem dX5_at_4 : decode cX5_at 4 = .ok (.ifCond .eq 14, 3) := by decide +kernel
theorem dX5_at_7 : decode cX5_at 7 = .ok (.aload_n 0, 1) := by decide +kernel
theorem dX5_at_8 : decode cX5_at 8 = .ok (.getfield 10, 3) := by decide +kernel
theorem dX5_at_11 : decode cX5_at 11 = .ok (.iload_n 2, 1) := by decide +kernel
theorem dX5_at_12 : decode cX5_at 12 = .ok (.invokevirtual 96, 3) := by decide +kernel
theorem dX5_at_15 : decode cX5_at 15 = .ok (.ifCond .ne 13, 3) := by decide +kernel
theorem dX5_at_18 : decode cX5_at 18 = .ok (.new 104, 3) := by decide +kernel
theorem dX5_at_21 : decode cX5_at 21 = .ok (.dup, 1) := by decide +kernel
theorem dX5_at_22 : decode cX5_at 22 = .ok (.ldc 106, 2) := by decide +kernel
theorem dX5_at_24 : decode cX5_at 24 = .ok (.invokespecial 108, 3) := by decide +kernel
theorem dX5_at_27 : decode cX5_at 27 = .ok (.athrow, 1) := by decide +kernel
theorem dX5_at_28 : decode cX5_at 28 = .ok (.aload_n 0, 1) := by decide +kernel
theorem dX5_at_29 : decode cX5_at 29 = .ok (.getfield 10, 3) := by decide +kernel
theorem dX5_at_32 : decode cX5_at 32 = .ok (.iload_n 1, 1) := by decide +kernel
theorem dX5_at_33 : decode cX5_at 33 = .ok (.iload_n 2, 1) := by decide +kernel
theorem dX5_at_34 : decode cX5_at 34 = .ok (.invokevirtual 111, 3) := by decide +kernel
theorem dX5_at_37 : decode cX5_at 37 = .ok (.istore_n 3, 1) := by decide +kernel
theorem dX5_at_38 : decode cX5_at 38 = .ok (.iload_n 3, 1) := by decide +kernel
theorem dX5_at_39 : decode cX5_at 39 = .ok (.ldc 103, 2) := by decide +kernel
theorem dX5_at_41 : decode cX5_at 41 = .ok (.if_icmp .ne 13, 3) := by decide +kernel
theorem dX5_at_44 : decode cX5_at 44 = .ok (.new 104, 3) := by decide +kernel
theorem dX5_at_47 : decode cX5_at 47 = .ok (.dup, 1) := by decide +kernel
theorem dX5_at_48 : decode cX5_at 48 = .ok (.ldc 114, 2) := by decide +kernel
theorem dX5_at_50 : decode cX5_at 50 = .ok (.invokespecial 108, 3) := by decide +kernel
theorem dX5_at_53 : decode cX5_at 53 = .ok (.athrow, 1) := by decide +kernel
theorem dX5_at_54 : decode cX5_at 54 = .ok (.iload_n 3, 1) := by decide +kernel
theorem dX5_at_55 : decode cX5_at 55 = .ok (.ireturn, 1) := by decide +kernel
theorem dX5_count_0 : decode cX5_count 0 = .ok (.aload_n 0, 1) := by decide +kernel
theorem dX5_count_1 : decode cX5_count 1 = .ok (.iload_n 1, 1) := by decide +kernel
theorem dX5_count_2 : decode cX5_count 2 = .ok (.ifCond .lt 9, 3) := by decide +kernel
theorem dX5_count_5 : decode cX5_count 5 = .ok (.iload_n 1, 1) := by decide +kernel
theorem dX5_count_6 : decode cX5_count 6 = .ok (.bipush 7, 2) := by decide +kernel
theorem dX5_count_8 : decode cX5_count 8 = .ok (.if_icmp .le 7, 3) := by decide +kernel
theorem dX5_count_11 : decode cX5_count 11 = .ok (.iconst 1, 1) := by decide +kernel
theorem dX5_count_12 : decode cX5_count 12 = .ok (.goto 4, 3) := by decide +kernel
theorem dX5_count_15 : decode cX5_count 15 = .ok (.iconst 0, 1) := by decide +kernel
theorem dX5_count_16 : decode cX5_count 16 = .ok (.invokevirtual 48, 3) := by decide +kernel
theorem dX5_count_19 : decode cX5_count 19 = .ok (.ifCond .eq 5, 3) := by decide +kernel
theorem dX5_count_22 : decode cX5_count 22 = .ok (.iconst (-1), 1) := by decide +kernel
theorem dX5_count_23 : decode cX5_count 23 = .ok (.ireturn, 1) := by decide +kernel
theorem dX5_count_24 : decode cX5_count 24 = .ok (.iload_n 1, 1) := by decide +kernel
theorem dX5_count_25 : decode cX5_count 25 = .ok (.tableswitch 144 0 6 #[43, 51, 61, 71, 82, 99, 121], 43) := by decide +kernel
theorem dX5_count_68 : decode cX5_count 68 = .ok (.aload_n 0, 1) := by decide +kernel
theorem dX5_count_69 : decode cX5_count 69 = .ok (.getfield 10, 3) := by decide +kernel
theorem dX5_count_72 : decode cX5_count 72 = .ok (.getfield 77, 3) := by decide +kernel
theorem dX5_count_75 : decode cX5_count 75 = .ok (.ireturn, 1) := by decide +kernel
theorem dX5_count_76 : decode cX5_count 76 = .ok (.aload_n 0, 1) := by decide +kernel
theorem dX5_count_77 : decode cX5_count 77 = .ok (.getfield 10, 3) := by decide +kernel
theorem dX5_count_80 : decode cX5_count 80 = .ok (.iconst 0, 1) := by decide +kernel
theorem dX5_count_81 : decode cX5_count 81 = .ok (.iconst 1, 1) := by decide +kernel
theorem dX5_count_82 : decode cX5_count 82 = .ok (.invokevirtual 116, 3) := by decide +kernel
theorem dX5_count_85 : decode cX5_count 85 = .ok (.ireturn, 1) := by decide +kernel
theorem dX5_count_86 : decode cX5_count 86 = .ok (.aload_n 0, 1) := by decide +kernel
theorem dX5_count_87 : decode cX5_count 87 = .ok (.getfield 10, 3) := by decide +kernel
theorem dX5_count_90 : decode cX5_count 90 = .ok (.iconst 0, 1) := by decide +kernel
theorem dX5_count_91 : decode cX5_count 91 = .ok (.iconst (-1), 1) := by decide +kernel
theorem dX5_count_92 : decode cX5_count 92 = .ok (.invokevirtual 116, 3) := by decide +kernel
theorem dX5_count_95 : decode cX5_count 95 = .ok (.ireturn, 1) := by decide +kernel
theorem dX5_count_96 : decode cX5_count 96 = .ok (.aload_n 0, 1) := by decide +kernel
theorem dX5_count_97 : decode cX5_count 97 = .ok (.getfield 10, 3) := by decide +kernel
theorem dX5_count_100 : decode cX5_count 100 = .ok (.iconst 2, 1) := by decide +kernel
theorem dX5_count_101 : decode cX5_count 101 = .ok (.ldc 103, 2) := by decide +kernel
theorem dX5_count_103 : decode cX5_count 103 = .ok (.invokevirtual 116, 3) := by decide +kernel
theorem dX5_count_106 : decode cX5_count 106 = .ok (.ireturn, 1) := by decide +kernel
theorem dX5_count_107 : decode cX5_count 107 = .ok (.aload_n 0, 1) := by decide +kernel
theorem dX5_count_108 : decode cX5_count 108 = .ok (.getfield 10, 3) := by decide +kernel
theorem dX5_count_111 : decode cX5_count 111 = .ok (.invokevirtual 119, 3) := by decide +kernel
theorem dX5_count_114 : decode cX5_count 114 = .ok (.iconst (-1), 1) := by decide +kernel
theorem dX5_count_115 : decode cX5_count 115 = .ok (.if_icmp .ne 7, 3) := by decide +kernel
theorem dX5_count_118 : decode cX5_count 118 = .ok (.iconst 1, 1) := by decide +kernel
theorem dX5_count_119 : decode cX5_count 119 = .ok (.goto 4, 3) := by decide +kernel
theorem dX5_count_122 : decode cX5_count 122 = .ok (.iconst 0, 1) := by decide +kernel
theorem dX5_count_123 : decode cX5_count 123 = .ok (.ireturn, 1) := by decide +kernel
theorem dX5_count_124 : decode cX5_count 124 = .ok (.aload_n 0, 1) := by decide +kernel
theorem dX5_count_125 : decode cX5_count 125 = .ok (.getfield 40, 3) := by decide +kernel
theorem dX5_count_128 : decode cX5_count 128 = .ok (.getfield 123, 3) := by decide +kernel
theorem dX5_count_131 : decode cX5_count 131 = .ok (.ifCond .ne 7, 3) := by decide +kernel
theorem dX5_count_134 : decode cX5_count 134 = .ok (.iconst (-1), 1) := by decide +kernel
theorem dX5_count_135 : decode cX5_count 135 = .ok (.goto 10, 3) := by decide +kernel
theorem dX5_count_138 : decode cX5_count 138 = .ok (.aload_n 0, 1) := by decide +kernel
theorem dX5_count_139 : decode cX5_count 139 = .ok (.getfield 40, 3) := by decide +kernel
theorem dX5_count_142 : decode cX5_count 142 = .ok (.getfield 123, 3) := by decide +kernel
theorem dX5_count_145 : decode cX5_count 145 = .ok (.ireturn, 1) := by decide +kernel
theorem dX5_count_146 : decode cX5_count 146 = .ok (.aload_n 0, 1) := by decide +kernel
theorem dX5_count_147 : decode cX5_count 147 = .ok (.getfield 19, 3) := by decide +kernel
theorem dX5_count_150 : decode cX5_count 150 = .ok (.getfield 67, 3) := by decide +kernel
theorem dX5_count_153 : decode cX5_count 153 = .ok (.iconst (-1), 1) := by decide +kernel
theorem dX5_count_154 : decode cX5_count 154 = .ok (.if_icmp .ne 7, 3) := by decide +kernel
theorem dX5_count_157 : decode cX5_count 157 = .ok (.iconst (-1), 1) := by decide +kernel
theorem dX5_count_158 : decode cX5_count 158 = .ok (.goto 10, 3) := by decide +kernel
theorem dX5_count_161 : decode cX5_count 161 = .ok (.aload_n 0, 1) := by decide +kernel
theorem dX5_count_162 : decode cX5_count 162 = .ok (.getfield 19, 3) := by decide +kernel
theorem dX5_count_165 : decode cX5_count 165 = .ok (.getfield 64, 3) := by decide +kernel
theorem dX5_count_168 : decode cX5_count 168 = .ok (.ireturn, 1) := by decide +kernel
theorem dX5_count_169 : decode cX5_count 169 = .ok (.aload_n 0, 1) := by decide +kernel
theorem dX5_count_170 : decode cX5_count 170 = .ok (.getfield 33, 3) := by decide +kernel
theorem dX5_count_173 : decode cX5_count 173 = .ok (.getfield 126, 3) := by decide +kernel
theorem dX5_count_176 : decode cX5_count 176 = .ok (.ireturn, 1) := by decide +kernel
theorem dX5_shadow_0 : decode cX5_shadow 0 = .ok (.aload_n 0, 1) := by decide +kernel
theorem dX5_shadow_1 : decode cX5_shadow 1 = .ok (.aload_n 0, 1) := by decide +kernel
theorem dX5_shadow_2 : decode cX5_shadow 2 = .ok (.getfield 10, 3) := by decide +kernel
theorem dX5_shadow_5 : decode cX5_shadow 5 = .ok (.iload_n 1, 1) := by decide +kernel
theorem dX5_shadow_6 : decode cX5_shadow 6 = .ok (.invokevirtual 96, 3) := by decide +kernel
theorem dX5_shadow_9 : decode cX5_shadow 9 = .ok (.ifCond .eq 7, 3) := by decide +kernel
theorem dX5_shadow_12 : decode cX5_shadow 12 = .ok (.iconst 0, 1) := by decide +kernel
theorem dX5_shadow_13 : decode cX5_shadow 13 = .ok (.goto 4, 3) := by decide +kernel
theorem dX5_shadow_16 : decode cX5_shadow 16 = .ok (.iconst 1, 1) := by decide +kernel
theorem dX5_shadow_17 : decode cX5_shadow 17 = .ok (.invokevirtual 48, 3) := by decide +kernel
theorem dX5_shadow_20 : decode cX5_shadow 20 = .ok (.ifCond .eq 5, 3) := by decide +kernel
theorem dX5_shadow_23 : decode cX5_shadow 23 = .ok (.iconst 0, 1) := by decide +kernel
theorem dX5_shadow_24 : decode cX5_shadow 24 = .ok (.ireturn, 1) := by decide +kernel
theorem dX5_shadow_25 : decode cX5_shadow 25 = .ok (.aload_n 0, 1) := by decide +kernel
theorem dX5_shadow_26 : decode cX5_shadow 26 = .ok (.getfield 10, 3) := by decide +kernel
theorem dX5_shadow_29 : decode cX5_shadow 29 = .ok (.iload_n 1, 1) := by decide +kernel
theorem dX5_shadow_30 : decode cX5_shadow 30 = .ok (.invokevirtual 129, 3) := by decide +kernel
theorem dX5_shadow_33 : decode cX5_shadow 33 = .ok (.ireturn, 1) := by decide +kernel
theorem dX5_cast_0 : decode cX5_cast 0 = .ok (.aload_n 0, 1) := by decide +kernel
theorem dX5_cast_1 : decode cX5_cast 1 = .ok (.iconst 0, 1) := by decide +kernel
theorem dX5_cast_2 : decode cX5_cast 2 = .ok (.putfield 44, 3) := by decide +kernel
theorem dX5_cast_5 : decode cX5_cast 5 = .ok (.iconst 0, 1) := by decide +kernel
theorem dX5_cast_6 : decode cX5_cast 6 = .ok (.istore_n 1, 1) := by decide +kernel
theorem dX5_cast_7 : decode cX5_cast 7 = .ok (.iload_n 1, 1) := by decide +kernel
theorem dX5_cast_8 : decode cX5_cast 8 = .ok (.aload_n 0, 1) := by decide +kernel
theorem dX5_cast_9 : decode cX5_cast 9 = .ok (.getfield 10, 3) := by decide +kernel
theorem dX5_cast_12 : decode cX5_cast 12 = .ok (.getfield 77, 3) := by decide +kernel
theorem dX5_cast_15 : decode cX5_cast 15 = .ok (.if_icmp .ge 26, 3) := by decide +kernel
theorem dX5_cast_18 : decode cX5_cast 18 = .ok (.aload_n 0, 1) := by decide +kernel
theorem dX5_cast_19 : decode cX5_cast 19 = .ok (.getfield 10, 3) := by decide +kernel
theorem dX5_cast_22 : decode cX5_cast 22 = .ok (.iconst 2, 1) := by decide +kernel
theorem dX5_cast_23 : decode cX5_cast 23 = .ok (.iload_n 1, 1) := by decide +kernel
theorem dX5_cast_24 : decode cX5_cast 24 = .ok (.aload_n 0, 1) := by decide +kernel
theorem dX5_cast_25 : decode cX5_cast 25 = .ok (.getfield 10, 3) := by decide +kernel
theorem dX5_cast_28 : decode cX5_cast 28 = .ok (.iload_n 1, 1) := by decide +kernel
theorem dX5_cast_29 : decode cX5_cast 29 = .ok (.invokevirtual 129, 3) := by decide +kernel
theorem dX5_cast_32 : decode cX5_cast 32 = .ok (.invokevirtual 83, 3) := by decide +kernel
theorem dX5_cast_35 : decode cX5_cast 35 = .ok (.iinc 1 1, 3) := by decide +kernel
theorem dX5_cast_38 : decode cX5_cast 38 = .ok (.goto (-31), 3) := by decide +kernel
theorem dX5_cast_41 : decode cX5_cast 41 = .ok (.iconst 1, 1) := by decide +kernel
theorem dX5_cast_42 : decode cX5_cast 42 = .ok (.ireturn, 1) := by decide +kernel
theorem dX5_meets_0 : decode cX5_meets 0 = .ok (.aload_n 0, 1) := by decide +kernel
theorem dX5_meets_1 : decode cX5_meets 1 = .ok (.aload_n 0, 1) := by decide +kernel
theorem dX5_meets_2 : decode cX5_meets 2 = .ok (.getfield 10, 3) := by decide +kernel
theorem dX5_meets_5 : decode cX5_meets 5 = .ok (.iload_n 1, 1) := by decide +kernel
theorem dX5_meets_6 : decode cX5_meets 6 = .ok (.invokevirtual 96, 3) := by decide +kernel
theorem dX5_meets_9 : decode cX5_meets 9 = .ok (.ifCond .eq 7, 3) := by decide +kernel
theorem dX5_meets_12 : decode cX5_meets 12 = .ok (.iconst 0, 1) := by decide +kernel
theorem dX5_meets_13 : decode cX5_meets 13 = .ok (.goto 4, 3) := by decide +kernel
theorem dX5_meets_16 : decode cX5_meets 16 = .ok (.iconst 1, 1) := by decide +kernel
theorem dX5_meets_17 : decode cX5_meets 17 = .ok (.invokevirtual 48, 3) := by decide +kernel
theorem dX5_meets_20 : decode cX5_meets 20 = .ok (.ifCond .eq 5, 3) := by decide +kernel
theorem dX5_meets_23 : decode cX5_meets 23 = .ok (.iconst 0, 1) := by decide +kernel
theorem dX5_meets_24 : decode cX5_meets 24 = .ok (.ireturn, 1) := by decide +kernel
theorem dX5_meets_25 : decode cX5_meets 25 = .ok (.aload_n 0, 1) := by decide +kernel
theorem dX5_meets_26 : decode cX5_meets 26 = .ok (.getfield 10, 3) := by decide +kernel
theorem dX5_meets_29 : decode cX5_meets 29 = .ok (.iload_n 1, 1) := by decide +kernel
theorem dX5_meets_30 : decode cX5_meets 30 = .ok (.invokevirtual 132, 3) := by decide +kernel
theorem dX5_meets_33 : decode cX5_meets 33 = .ok (.ireturn, 1) := by decide +kernel
theorem dX5_off_0 : decode cX5_off 0 = .ok (.aload_n 0, 1) := by decide +kernel
theorem dX5_off_1 : decode cX5_off 1 = .ok (.iconst 0, 1) := by decide +kernel
theorem dX5_off_2 : decode cX5_off 2 = .ok (.putfield 44, 3) := by decide +kernel
theorem dX5_off_5 : decode cX5_off 5 = .ok (.aload_n 0, 1) := by decide +kernel
theorem dX5_off_6 : decode cX5_off 6 = .ok (.getfield 10, 3) := by decide +kernel
theorem dX5_off_9 : decode cX5_off 9 = .ok (.invokevirtual 119, 3) := by decide +kernel
theorem dX5_off_12 : decode cX5_off 12 = .ok (.ireturn, 1) := by decide +kernel
theorem dX5_turn_0 : decode cX5_turn 0 = .ok (.aload_n 0, 1) := by decide +kernel
theorem dX5_turn_1 : decode cX5_turn 1 = .ok (.iconst 0, 1) := by decide +kernel
theorem dX5_turn_2 : decode cX5_turn 2 = .ok (.putfield 44, 3) := by decide +kernel
theorem dX5_turn_5 : decode cX5_turn 5 = .ok (.aload_n 0, 1) := by decide +kernel
theorem dX5_turn_6 : decode cX5_turn 6 = .ok (.getfield 10, 3) := by decide +kernel
theorem dX5_turn_9 : decode cX5_turn 9 = .ok (.iload_n 1, 1) := by decide +kernel
theorem dX5_turn_10 : decode cX5_turn 10 = .ok (.invokevirtual 135, 3) := by decide +kernel
theorem dX5_turn_13 : decode cX5_turn 13 = .ok (.aload_n 0, 1) := by decide +kernel
theorem dX5_turn_14 : decode cX5_turn 14 = .ok (.getfield 26, 3) := by decide +kernel
theorem dX5_turn_17 : decode cX5_turn 17 = .ok (.iconst 0, 1) := by decide +kernel
theorem dX5_turn_18 : decode cX5_turn 18 = .ok (.putfield 138, 3) := by decide +kernel
theorem dX5_turn_21 : decode cX5_turn 21 = .ok (.iconst 1, 1) := by decide +kernel
theorem dX5_turn_22 : decode cX5_turn 22 = .ok (.ireturn, 1) := by decide +kernel
theorem dX5_anti_0 : decode cX5_anti 0 = .ok (.aload_n 0, 1) := by decide +kernel
theorem dX5_anti_1 : decode cX5_anti 1 = .ok (.aload_n 0, 1) := by decide +kernel
theorem dX5_anti_2 : decode cX5_anti 2 = .ok (.getfield 10, 3) := by decide +kernel
theorem dX5_anti_5 : decode cX5_anti 5 = .ok (.iconst 0, 1) := by decide +kernel
theorem dX5_anti_6 : decode cX5_anti 6 = .ok (.iconst (-1), 1) := by decide +kernel
theorem dX5_anti_7 : decode cX5_anti 7 = .ok (.invokevirtual 116, 3) := by decide +kernel
theorem dX5_anti_10 : decode cX5_anti 10 = .ok (.ifCond .le 7, 3) := by decide +kernel
theorem dX5_anti_13 : decode cX5_anti 13 = .ok (.iconst 1, 1) := by decide +kernel
theorem dX5_anti_14 : decode cX5_anti 14 = .ok (.goto 4, 3) := by decide +kernel
theorem dX5_anti_17 : decode cX5_anti 17 = .ok (.iconst 0, 1) := by decide +kernel
theorem dX5_anti_18 : decode cX5_anti 18 = .ok (.invokevirtual 48, 3) := by decide +kernel
theorem dX5_anti_21 : decode cX5_anti 21 = .ok (.ifCond .eq 5, 3) := by decide +kernel
theorem dX5_anti_24 : decode cX5_anti 24 = .ok (.iconst 0, 1) := by decide +kernel
theorem dX5_anti_25 : decode cX5_anti 25 = .ok (.ireturn, 1) := by decide +kernel
theorem dX5_anti_26 : decode cX5_anti 26 = .ok (.iconst 0, 1) := by decide +kernel
theorem dX5_anti_27 : decode cX5_anti 27 = .ok (.istore_n 1, 1) := by decide +kernel
theorem dX5_anti_28 : decode cX5_anti 28 = .ok (.iload_n 1, 1) := by decide +kernel
theorem dX5_anti_29 : decode cX5_anti 29 = .ok (.aload_n 0, 1) := by decide +kernel
theorem dX5_anti_30 : decode cX5_anti 30 = .ok (.getfield 10, 3) := by decide +kernel
theorem dX5_anti_33 : decode cX5_anti 33 = .ok (.getfield 77, 3) := by decide +kernel
theorem dX5_anti_36 : decode cX5_anti 36 = .ok (.if_icmp .ge 29, 3) := by decide +kernel
theorem dX5_anti_39 : decode cX5_anti 39 = .ok (.aload_n 0, 1) := by decide +kernel
theorem dX5_anti_40 : decode cX5_anti 40 = .ok (.getfield 10, 3) := by decide +kernel
theorem dX5_anti_43 : decode cX5_anti 43 = .ok (.iconst 0, 1) := by decide +kernel
theorem dX5_anti_44 : decode cX5_anti 44 = .ok (.iload_n 1, 1) := by decide +kernel
theorem dX5_anti_45 : decode cX5_anti 45 = .ok (.iconst 1, 1) := by decide +kernel
theorem dX5_anti_46 : decode cX5_anti 46 = .ok (.aload_n 0, 1) := by decide +kernel
theorem dX5_anti_47 : decode cX5_anti 47 = .ok (.getfield 10, 3) := by decide +kernel
theorem dX5_anti_50 : decode cX5_anti 50 = .ok (.iconst 0, 1) := by decide +kernel
theorem dX5_anti_51 : decode cX5_anti 51 = .ok (.iload_n 1, 1) := by decide +kernel
theorem dX5_anti_52 : decode cX5_anti 52 = .ok (.invokevirtual 111, 3) := by decide +kernel
theorem dX5_anti_55 : decode cX5_anti 55 = .ok (.isub, 1) := by decide +kernel
theorem dX5_anti_56 : decode cX5_anti 56 = .ok (.invokevirtual 83, 3) := by decide +kernel
theorem dX5_anti_59 : decode cX5_anti 59 = .ok (.iinc 1 1, 3) := by decide +kernel
theorem dX5_anti_62 : decode cX5_anti 62 = .ok (.goto (-34), 3) := by decide +kernel
theorem dX5_anti_65 : decode cX5_anti 65 = .ok (.aload_n 0, 1) := by decide +kernel
theorem dX5_anti_66 : decode cX5_anti 66 = .ok (.getfield 26, 3) := by decide +kernel
theorem dX5_anti_69 : decode cX5_anti 69 = .ok (.iconst 0, 1) := by decide +kernel
theorem dX5_anti_70 : decode cX5_anti 70 = .ok (.putfield 138, 3) := by decide +kernel
theorem dX5_anti_73 : decode cX5_anti 73 = .ok (.iconst 1, 1) := by decide +kernel
theorem dX5_anti_74 : decode cX5_anti 74 = .ok (.ireturn, 1) := by decide +kernel
theorem dX5_fold_0 : decode cX5_fold 0 = .ok (.aload_n 0, 1) := by decide +kernel
theorem dX5_fold_1 : decode cX5_fold 1 = .ok (.aload_n 0, 1) := by decide +kernel
theorem dX5_fold_2 : decode cX5_fold 2 = .ok (.iload_n 1, 1) := by decide +kernel
theorem dX5_fold_3 : decode cX5_fold 3 = .ok (.iload_n 2, 1) := by decide +kernel
theorem dX5_fold_4 : decode cX5_fold 4 = .ok (.iload_n 3, 1) := by decide +kernel
theorem dX5_fold_5 : decode cX5_fold 5 = .ok (.iload 4, 2) := by decide +kernel
theorem dX5_fold_7 : decode cX5_fold 7 = .ok (.invokevirtual 142, 3) := by decide +kernel
theorem dX5_fold_10 : decode cX5_fold 10 = .ok (.ifCond .eq 7, 3) := by decide +kernel
theorem dX5_fold_13 : decode cX5_fold 13 = .ok (.iconst 0, 1) := by decide +kernel
theorem dX5_fold_14 : decode cX5_fold 14 = .ok (.goto 4, 3) := by decide +kernel
theorem dX5_fold_17 : decode cX5_fold 17 = .ok (.iconst 1, 1) := by decide +kernel
theorem dX5_fold_18 : decode cX5_fold 18 = .ok (.invokevirtual 48, 3) := by decide +kernel
theorem dX5_fold_21 : decode cX5_fold 21 = .ok (.ifCond .eq 5, 3) := by decide +kernel
theorem dX5_fold_24 : decode cX5_fold 24 = .ok (.iconst 0, 1) := by decide +kernel
theorem dX5_fold_25 : decode cX5_fold 25 = .ok (.ireturn, 1) := by decide +kernel
theorem dX5_fold_26 : decode cX5_fold 26 = .ok (.iconst 0, 1) := by decide +kernel
theorem dX5_fold_27 : decode cX5_fold 27 = .ok (.istore 5, 2) := by decide +kernel
theorem dX5_fold_29 : decode cX5_fold 29 = .ok (.iload 5, 2) := by decide +kernel
theorem dX5_fold_31 : decode cX5_fold 31 = .ok (.aload_n 0, 1) := by decide +kernel
theorem dX5_fold_32 : decode cX5_fold 32 = .ok (.getfield 10, 3) := by decide +kernel
theorem dX5_fold_35 : decode cX5_fold 35 = .ok (.getfield 77, 3) := by decide +kernel
theorem dX5_fold_38 : decode cX5_fold 38 = .ok (.if_icmp .ge 37, 3) := by decide +kernel
theorem dX5_fold_41 : decode cX5_fold 41 = .ok (.iload 5, 2) := by decide +kernel
theorem dX5_fold_43 : decode cX5_fold 43 = .ok (.iload_n 1, 1) := by decide +kernel
theorem dX5_fold_44 : decode cX5_fold 44 = .ok (.irem, 1) := by decide +kernel
theorem dX5_fold_45 : decode cX5_fold 45 = .ok (.iload_n 3, 1) := by decide +kernel
theorem dX5_fold_46 : decode cX5_fold 46 = .ok (.if_icmp .ne 23, 3) := by decide +kernel
theorem dX5_fold_49 : decode cX5_fold 49 = .ok (.iload 5, 2) := by decide +kernel
theorem dX5_fold_51 : decode cX5_fold 51 = .ok (.iload_n 2, 1) := by decide +kernel
theorem dX5_fold_52 : decode cX5_fold 52 = .ok (.irem, 1) := by decide +kernel
theorem dX5_fold_53 : decode cX5_fold 53 = .ok (.iload 4, 2) := by decide +kernel
theorem dX5_fold_55 : decode cX5_fold 55 = .ok (.if_icmp .ne 14, 3) := by decide +kernel
theorem dX5_fold_58 : decode cX5_fold 58 = .ok (.aload_n 0, 1) := by decide +kernel
theorem dX5_fold_59 : decode cX5_fold 59 = .ok (.getfield 10, 3) := by decide +kernel
theorem dX5_fold_62 : decode cX5_fold 62 = .ok (.iconst 0, 1) := by decide +kernel
theorem dX5_fold_63 : decode cX5_fold 63 = .ok (.iload 5, 2) := by decide +kernel
theorem dX5_fold_65 : decode cX5_fold 65 = .ok (.invokevirtual 111, 3) := by decide +kernel
theorem dX5_fold_68 : decode cX5_fold 68 = .ok (.ireturn, 1) := by decide +kernel
theorem dX5_fold_69 : decode cX5_fold 69 = .ok (.iinc 5 1, 3) := by decide +kernel
theorem dX5_fold_72 : decode cX5_fold 72 = .ok (.goto (-43), 3) := by decide +kernel
theorem dX5_fold_75 : decode cX5_fold 75 = .ok (.iconst 0, 1) := by decide +kernel
theorem dX5_fold_76 : decode cX5_fold 76 = .ok (.ireturn, 1) := by decide +kernel
theorem dX5_rests_0 : decode cX5_rests 0 = .ok (.aload_n 0, 1) := by decide +kernel
theorem dX5_rests_1 : decode cX5_rests 1 = .ok (.iload_n 1, 1) := by decide +kernel
theorem dX5_rests_2 : decode cX5_rests 2 = .ok (.invokestatic 146, 3) := by decide +kernel
theorem dX5_rests_5 : decode cX5_rests 5 = .ok (.ifCond .eq 7, 3) := by decide +kernel
theorem dX5_rests_8 : decode cX5_rests 8 = .ok (.iconst 0, 1) := by decide +kernel
theorem dX5_rests_9 : decode cX5_rests 9 = .ok (.goto 4, 3) := by decide +kernel
theorem dX5_rests_12 : decode cX5_rests 12 = .ok (.iconst 1, 1) := by decide +kernel
theorem dX5_rests_13 : decode cX5_rests 13 = .ok (.invokevirtual 48, 3) := by decide +kernel
theorem dX5_rests_16 : decode cX5_rests 16 = .ok (.ifCond .eq 5, 3) := by decide +kernel
theorem dX5_rests_19 : decode cX5_rests 19 = .ok (.iconst (-1), 1) := by decide +kernel
theorem dX5_rests_20 : decode cX5_rests 20 = .ok (.ireturn, 1) := by decide +kernel
theorem dX5_rests_21 : decode cX5_rests 21 = .ok (.aload_n 0, 1) := by decide +kernel
theorem dX5_rests_22 : decode cX5_rests 22 = .ok (.iload_n 1, 1) := by decide +kernel
theorem dX5_rests_23 : decode cX5_rests 23 = .ok (.invokevirtual 52, 3) := by decide +kernel
theorem dX5_rests_26 : decode cX5_rests 26 = .ok (.iconst 0, 1) := by decide +kernel
theorem dX5_rests_27 : decode cX5_rests 27 = .ok (.istore_n 2, 1) := by decide +kernel
theorem dX5_rests_28 : decode cX5_rests 28 = .ok (.iload_n 2, 1) := by decide +kernel
theorem dX5_rests_29 : decode cX5_rests 29 = .ok (.iload_n 1, 1) := by decide +kernel
theorem dX5_rests_30 : decode cX5_rests 30 = .ok (.if_icmp .ge 31, 3) := by decide +kernel
theorem dX5_rests_33 : decode cX5_rests 33 = .ok (.aload_n 0, 1) := by decide +kernel
theorem dX5_rests_34 : decode cX5_rests 34 = .ok (.getfield 10, 3) := by decide +kernel
theorem dX5_rests_37 : decode cX5_rests 37 = .ok (.iconst 0, 1) := by decide +kernel
theorem dX5_rests_38 : decode cX5_rests 38 = .ok (.iload_n 2, 1) := by decide +kernel
theorem dX5_rests_39 : decode cX5_rests 39 = .ok (.iload_n 2, 1) := by decide +kernel
theorem dX5_rests_40 : decode cX5_rests 40 = .ok (.iload_n 1, 1) := by decide +kernel
theorem dX5_rests_41 : decode cX5_rests 41 = .ok (.invokestatic 149, 3) := by decide +kernel
theorem dX5_rests_44 : decode cX5_rests 44 = .ok (.ifCond .eq 7, 3) := by decide +kernel
theorem dX5_rests_47 : decode cX5_rests 47 = .ok (.iconst 1, 1) := by decide +kernel
theorem dX5_rests_48 : decode cX5_rests 48 = .ok (.goto 4, 3) := by decide +kernel
theorem dX5_rests_51 : decode cX5_rests 51 = .ok (.iconst 0, 1) := by decide +kernel
theorem dX5_rests_52 : decode cX5_rests 52 = .ok (.invokevirtual 83, 3) := by decide +kernel
theorem dX5_rests_55 : decode cX5_rests 55 = .ok (.iinc 2 1, 3) := by decide +kernel
theorem dX5_rests_58 : decode cX5_rests 58 = .ok (.goto (-30), 3) := by decide +kernel
theorem dX5_rests_61 : decode cX5_rests 61 = .ok (.aload_n 0, 1) := by decide +kernel
theorem dX5_rests_62 : decode cX5_rests 62 = .ok (.getfield 10, 3) := by decide +kernel
theorem dX5_rests_65 : decode cX5_rests 65 = .ok (.iconst 0, 1) := by decide +kernel
theorem dX5_rests_66 : decode cX5_rests 66 = .ok (.iconst 1, 1) := by decide +kernel
theorem dX5_rests_67 : decode cX5_rests 67 = .ok (.invokevirtual 116, 3) := by decide +kernel
theorem dX5_rests_70 : decode cX5_rests 70 = .ok (.ireturn, 1) := by decide +kernel
theorem dX5_twins_0 : decode cX5_twins 0 = .ok (.aload_n 0, 1) := by decide +kernel
theorem dX5_twins_1 : decode cX5_twins 1 = .ok (.iload_n 1, 1) := by decide +kernel
theorem dX5_twins_2 : decode cX5_twins 2 = .ok (.invokestatic 152, 3) := by decide +kernel
theorem dX5_twins_5 : decode cX5_twins 5 = .ok (.ifCond .eq 7, 3) := by decide +kernel
theorem dX5_twins_8 : decode cX5_twins 8 = .ok (.iconst 0, 1) := by decide +kernel
theorem dX5_twins_9 : decode cX5_twins 9 = .ok (.goto 4, 3) := by decide +kernel
theorem dX5_twins_12 : decode cX5_twins 12 = .ok (.iconst 1, 1) := by decide +kernel
theorem dX5_twins_13 : decode cX5_twins 13 = .ok (.invokevirtual 48, 3) := by decide +kernel
theorem dX5_twins_16 : decode cX5_twins 16 = .ok (.ifCond .eq 5, 3) := by decide +kernel
theorem dX5_twins_19 : decode cX5_twins 19 = .ok (.iconst (-1), 1) := by decide +kernel
theorem dX5_twins_20 : decode cX5_twins 20 = .ok (.ireturn, 1) := by decide +kernel
theorem dX5_twins_21 : decode cX5_twins 21 = .ok (.iload_n 1, 1) := by decide +kernel
theorem dX5_twins_22 : decode cX5_twins 22 = .ok (.iconst 2, 1) := by decide +kernel
theorem dX5_twins_23 : decode cX5_twins 23 = .ok (.iadd, 1) := by decide +kernel
theorem dX5_twins_24 : decode cX5_twins 24 = .ok (.istore_n 2, 1) := by decide +kernel
theorem dX5_twins_25 : decode cX5_twins 25 = .ok (.aload_n 0, 1) := by decide +kernel
theorem dX5_twins_26 : decode cX5_twins 26 = .ok (.iload_n 1, 1) := by decide +kernel
theorem dX5_twins_27 : decode cX5_twins 27 = .ok (.iload_n 2, 1) := by decide +kernel
theorem dX5_twins_28 : decode cX5_twins 28 = .ok (.imul, 1) := by decide +kernel
theorem dX5_twins_29 : decode cX5_twins 29 = .ok (.invokevirtual 52, 3) := by decide +kernel
theorem dX5_twins_32 : decode cX5_twins 32 = .ok (.iconst 0, 1) := by decide +kernel
theorem dX5_twins_33 : decode cX5_twins 33 = .ok (.istore_n 3, 1) := by decide +kernel
theorem dX5_twins_34 : decode cX5_twins 34 = .ok (.iload_n 3, 1) := by decide +kernel
theorem dX5_twins_35 : decode cX5_twins 35 = .ok (.iload_n 1, 1) := by decide +kernel
theorem dX5_twins_36 : decode cX5_twins 36 = .ok (.iload_n 2, 1) := by decide +kernel
theorem dX5_twins_37 : decode cX5_twins 37 = .ok (.imul, 1) := by decide +kernel
theorem dX5_twins_38 : decode cX5_twins 38 = .ok (.if_icmp .ge 60, 3) := by decide +kernel
theorem dX5_twins_41 : decode cX5_twins 41 = .ok (.iload_n 3, 1) := by decide +kernel
theorem dX5_twins_42 : decode cX5_twins 42 = .ok (.iload_n 1, 1) := by decide +kernel
theorem dX5_twins_43 : decode cX5_twins 43 = .ok (.irem, 1) := by decide +kernel
theorem dX5_twins_44 : decode cX5_twins 44 = .ok (.ifCond .eq 20, 3) := by decide +kernel
theorem dX5_twins_47 : decode cX5_twins 47 = .ok (.iload_n 3, 1) := by decide +kernel
theorem dX5_twins_48 : decode cX5_twins 48 = .ok (.iload_n 1, 1) := by decide +kernel
theorem dX5_twins_49 : decode cX5_twins 49 = .ok (.invokestatic 149, 3) := by decide +kernel
theorem dX5_twins_52 : decode cX5_twins 52 = .ok (.iload_n 3, 1) := by decide +kernel
theorem dX5_twins_53 : decode cX5_twins 53 = .ok (.iload_n 2, 1) := by decide +kernel
theorem dX5_twins_54 : decode cX5_twins 54 = .ok (.invokestatic 149, 3) := by decide +kernel
theorem dX5_twins_57 : decode cX5_twins 57 = .ok (.if_icmp .ne 7, 3) := by decide +kernel
theorem dX5_twins_60 : decode cX5_twins 60 = .ok (.iconst 1, 1) := by decide +kernel
theorem dX5_twins_61 : decode cX5_twins 61 = .ok (.goto 4, 3) := by decide +kernel
theorem dX5_twins_64 : decode cX5_twins 64 = .ok (.iconst 0, 1) := by decide +kernel
theorem dX5_twins_65 : decode cX5_twins 65 = .ok (.istore 4, 2) := by decide +kernel
theorem dX5_twins_67 : decode cX5_twins 67 = .ok (.aload_n 0, 1) := by decide +kernel
theorem dX5_twins_68 : decode cX5_twins 68 = .ok (.getfield 10, 3) := by decide +kernel
theorem dX5_twins_71 : decode cX5_twins 71 = .ok (.iconst 0, 1) := by decide +kernel
theorem dX5_twins_72 : decode cX5_twins 72 = .ok (.iload_n 3, 1) := by decide +kernel
theorem dX5_twins_73 : decode cX5_twins 73 = .ok (.iload_n 3, 1) := by decide +kernel
theorem dX5_twins_74 : decode cX5_twins 74 = .ok (.iload_n 2, 1) := by decide +kernel
theorem dX5_twins_75 : decode cX5_twins 75 = .ok (.irem, 1) := by decide +kernel
theorem dX5_twins_76 : decode cX5_twins 76 = .ok (.ifCond .eq 8, 3) := by decide +kernel
theorem dX5_twins_79 : decode cX5_twins 79 = .ok (.iload 4, 2) := by decide +kernel
theorem dX5_twins_81 : decode cX5_twins 81 = .ok (.ifCond .eq 7, 3) := by decide +kernel
theorem dX5_twins_84 : decode cX5_twins 84 = .ok (.iconst 1, 1) := by decide +kernel
theorem dX5_twins_85 : decode cX5_twins 85 = .ok (.goto 4, 3) := by decide +kernel
theorem dX5_twins_88 : decode cX5_twins 88 = .ok (.iconst 0, 1) := by decide +kernel
theorem dX5_twins_89 : decode cX5_twins 89 = .ok (.invokevirtual 83, 3) := by decide +kernel
theorem dX5_twins_92 : decode cX5_twins 92 = .ok (.iinc 3 1, 3) := by decide +kernel
theorem dX5_twins_95 : decode cX5_twins 95 = .ok (.goto (-61), 3) := by decide +kernel
theorem dX5_twins_98 : decode cX5_twins 98 = .ok (.aload_n 0, 1) := by decide +kernel
theorem dX5_twins_99 : decode cX5_twins 99 = .ok (.getfield 10, 3) := by decide +kernel
theorem dX5_twins_102 : decode cX5_twins 102 = .ok (.iconst 0, 1) := by decide +kernel
theorem dX5_twins_103 : decode cX5_twins 103 = .ok (.iconst 1, 1) := by decide +kernel
theorem dX5_twins_104 : decode cX5_twins 104 = .ok (.invokevirtual 116, 3) := by decide +kernel
theorem dX5_twins_107 : decode cX5_twins 107 = .ok (.ireturn, 1) := by decide +kernel
theorem dX5_shift_0 : decode cX5_shift 0 = .ok (.aload_n 0, 1) := by decide +kernel
theorem dX5_shift_1 : decode cX5_shift 1 = .ok (.iload_n 1, 1) := by decide +kernel
theorem dX5_shift_2 : decode cX5_shift 2 = .ok (.iconst 2, 1) := by decide +kernel
theorem dX5_shift_3 : decode cX5_shift 3 = .ok (.if_icmp .lt 8, 3) := by decide +kernel
theorem dX5_shift_6 : decode cX5_shift 6 = .ok (.iload_n 1, 1) := by decide +kernel
theorem dX5_shift_7 : decode cX5_shift 7 = .ok (.iconst 5, 1) := by decide +kernel
theorem dX5_shift_8 : decode cX5_shift 8 = .ok (.if_icmp .le 7, 3) := by decide +kernel
theorem dX5_shift_11 : decode cX5_shift 11 = .ok (.iconst 1, 1) := by decide +kernel
theorem dX5_shift_12 : decode cX5_shift 12 = .ok (.goto 4, 3) := by decide +kernel
theorem dX5_shift_15 : decode cX5_shift 15 = .ok (.iconst 0, 1) := by decide +kernel
theorem dX5_shift_16 : decode cX5_shift 16 = .ok (.invokevirtual 48, 3) := by decide +kernel
theorem dX5_shift_19 : decode cX5_shift 19 = .ok (.ifCond .eq 5, 3) := by decide +kernel
theorem dX5_shift_22 : decode cX5_shift 22 = .ok (.iconst (-1), 1) := by decide +kernel
theorem dX5_shift_23 : decode cX5_shift 23 = .ok (.ireturn, 1) := by decide +kernel
theorem dX5_shift_24 : decode cX5_shift 24 = .ok (.iconst 1, 1) := by decide +kernel
theorem dX5_shift_25 : decode cX5_shift 25 = .ok (.iload_n 1, 1) := by decide +kernel
theorem dX5_shift_26 : decode cX5_shift 26 = .ok (.ishl, 1) := by decide +kernel
theorem dX5_shift_27 : decode cX5_shift 27 = .ok (.iconst 1, 1) := by decide +kernel
theorem dX5_shift_28 : decode cX5_shift 28 = .ok (.isub, 1) := by decide +kernel
theorem dX5_shift_29 : decode cX5_shift 29 = .ok (.istore_n 2, 1) := by decide +kernel
theorem dX5_shift_30 : decode cX5_shift 30 = .ok (.iload_n 1, 1) := by decide +kernel
theorem dX5_shift_31 : decode cX5_shift 31 = .ok (.iload_n 2, 1) := by decide +kernel
theorem dX5_shift_32 : decode cX5_shift 32 = .ok (.invokestatic 155, 3) := by decide +kernel
theorem dX5_shift_35 : decode cX5_shift 35 = .ok (.istore_n 3, 1) := by decide +kernel
theorem dX5_shift_36 : decode cX5_shift 36 = .ok (.aload_n 0, 1) := by decide +kernel
theorem dX5_shift_37 : decode cX5_shift 37 = .ok (.iload_n 2, 1) := by decide +kernel
theorem dX5_shift_38 : decode cX5_shift 38 = .ok (.invokevirtual 52, 3) := by decide +kernel
theorem dX5_shift_41 : decode cX5_shift 41 = .ok (.iconst 1, 1) := by decide +kernel
theorem dX5_shift_42 : decode cX5_shift 42 = .ok (.iload_n 1, 1) := by decide +kernel
theorem dX5_shift_43 : decode cX5_shift 43 = .ok (.iconst 1, 1) := by decide +kernel
theorem dX5_shift_44 : decode cX5_shift 44 = .ok (.isub, 1) := by decide +kernel
theorem dX5_shift_45 : decode cX5_shift 45 = .ok (.ishl, 1) := by decide +kernel
theorem dX5_shift_46 : decode cX5_shift 46 = .ok (.istore 4, 2) := by decide +kernel
theorem dX5_shift_48 : decode cX5_shift 48 = .ok (.iconst 0, 1) := by decide +kernel
theorem dX5_shift_49 : decode cX5_shift 49 = .ok (.istore 5, 2) := by decide +kernel
theorem dX5_shift_51 : decode cX5_shift 51 = .ok (.iload 5, 2) := by decide +kernel
theorem dX5_shift_53 : decode cX5_shift 53 = .ok (.iload_n 2, 1) := by decide +kernel
theorem dX5_shift_54 : decode cX5_shift 54 = .ok (.if_icmp .ge 32, 3) := by decide +kernel
theorem dX5_shift_57 : decode cX5_shift 57 = .ok (.aload_n 0, 1) := by decide +kernel
theorem dX5_shift_58 : decode cX5_shift 58 = .ok (.getfield 10, 3) := by decide +kernel
theorem dX5_shift_61 : decode cX5_shift 61 = .ok (.iconst 0, 1) := by decide +kernel
theorem dX5_shift_62 : decode cX5_shift 62 = .ok (.iload 5, 2) := by decide +kernel
theorem dX5_shift_64 : decode cX5_shift 64 = .ok (.iload 4, 2) := by decide +kernel
theorem dX5_shift_66 : decode cX5_shift 66 = .ok (.iconst 1, 1) := by decide +kernel
theorem dX5_shift_67 : decode cX5_shift 67 = .ok (.iand, 1) := by decide +kernel
theorem dX5_shift_68 : decode cX5_shift 68 = .ok (.invokevirtual 83, 3) := by decide +kernel
theorem dX5_shift_71 : decode cX5_shift 71 = .ok (.iload 4, 2) := by decide +kernel
theorem dX5_shift_73 : decode cX5_shift 73 = .ok (.iload_n 3, 1) := by decide +kernel
theorem dX5_shift_74 : decode cX5_shift 74 = .ok (.iload_n 1, 1) := by decide +kernel
theorem dX5_shift_75 : decode cX5_shift 75 = .ok (.invokestatic 158, 3) := by decide +kernel
theorem dX5_shift_78 : decode cX5_shift 78 = .ok (.istore 4, 2) := by decide +kernel
theorem dX5_shift_80 : decode cX5_shift 80 = .ok (.iinc 5 1, 3) := by decide +kernel
theorem dX5_shift_83 : decode cX5_shift 83 = .ok (.goto (-32), 3) := by decide +kernel
theorem dX5_shift_86 : decode cX5_shift 86 = .ok (.iload_n 3, 1) := by decide +kernel
theorem dX5_shift_87 : decode cX5_shift 87 = .ok (.ireturn, 1) := by decide +kernel
theorem dX5_undo_0 : decode cX5_undo 0 = .ok (.aload_n 0, 1) := by decide +kernel
theorem dX5_undo_1 : decode cX5_undo 1 = .ok (.aload_n 0, 1) := by decide +kernel
theorem dX5_undo_2 : decode cX5_undo 2 = .ok (.invokevirtual 162, 3) := by decide +kernel
theorem dX5_undo_5 : decode cX5_undo 5 = .ok (.invokevirtual 48, 3) := by decide +kernel
theorem dX5_undo_8 : decode cX5_undo 8 = .ok (.ifCond .eq 7, 3) := by decide +kernel
theorem dX5_undo_11 : decode cX5_undo 11 = .ok (.ldc2_w 165, 3) := by decide +kernel
theorem dX5_undo_14 : decode cX5_undo 14 = .ok (.lreturn, 1) := by decide +kernel
theorem dX5_undo_15 : decode cX5_undo 15 = .ok (.aload_n 0, 1) := by decide +kernel
theorem dX5_undo_16 : decode cX5_undo 16 = .ok (.getfield 26, 3) := by decide +kernel
theorem dX5_undo_19 : decode cX5_undo 19 = .ok (.aload_n 0, 1) := by decide +kernel
theorem dX5_undo_20 : decode cX5_undo 20 = .ok (.getfield 26, 3) := by decide +kernel
theorem dX5_undo_23 : decode cX5_undo 23 = .ok (.aload_n 0, 1) := by decide +kernel
theorem dX5_undo_24 : decode cX5_undo 24 = .ok (.getfield 10, 3) := by decide +kernel
theorem dX5_undo_27 : decode cX5_undo 27 = .ok (.invokevirtual 167, 3) := by decide +kernel
theorem dX5_undo_30 : decode cX5_undo 30 = .ok (.putfield 138, 3) := by decide +kernel
theorem dX5_undo_33 : decode cX5_undo 33 = .ok (.aload_n 0, 1) := by decide +kernel
theorem dX5_undo_34 : decode cX5_undo 34 = .ok (.getfield 26, 3) := by decide +kernel
theorem dX5_undo_37 : decode cX5_undo 37 = .ok (.getfield 138, 3) := by decide +kernel
theorem dX5_undo_40 : decode cX5_undo 40 = .ok (.ifCond .eq 13, 3) := by decide +kernel
theorem dX5_undo_43 : decode cX5_undo 43 = .ok (.aload_n 0, 1) := by decide +kernel
theorem dX5_undo_44 : decode cX5_undo 44 = .ok (.getfield 26, 3) := by decide +kernel
theorem dX5_undo_47 : decode cX5_undo 47 = .ok (.getfield 171, 3) := by decide +kernel
theorem dX5_undo_50 : decode cX5_undo 50 = .ok (.goto 4, 3) := by decide +kernel
theorem dX5_undo_53 : decode cX5_undo 53 = .ok (.lconst 0, 1) := by decide +kernel
theorem dX5_undo_54 : decode cX5_undo 54 = .ok (.lreturn, 1) := by decide +kernel
theorem dX5_back_0 : decode cX5_back 0 = .ok (.aload_n 0, 1) := by decide +kernel
theorem dX5_back_1 : decode cX5_back 1 = .ok (.aload_n 0, 1) := by decide +kernel
theorem dX5_back_2 : decode cX5_back 2 = .ok (.getfield 10, 3) := by decide +kernel
theorem dX5_back_5 : decode cX5_back 5 = .ok (.iload_n 1, 1) := by decide +kernel
theorem dX5_back_6 : decode cX5_back 6 = .ok (.invokevirtual 96, 3) := by decide +kernel
theorem dX5_back_9 : decode cX5_back 9 = .ok (.ifCond .ne 7, 3) := by decide +kernel
theorem dX5_back_12 : decode cX5_back 12 = .ok (.iconst 1, 1) := by decide +kernel
theorem dX5_back_13 : decode cX5_back 13 = .ok (.goto 18, 3) := by decide +kernel
theorem dX5_back_16 : decode cX5_back 16 = .ok (.aload_n 0, 1) := by decide +kernel
theorem dX5_back_17 : decode cX5_back 17 = .ok (.getfield 26, 3) := by decide +kernel
theorem dX5_back_20 : decode cX5_back 20 = .ok (.getfield 138, 3) := by decide +kernel
theorem dX5_back_23 : decode cX5_back 23 = .ok (.ifCond .eq 7, 3) := by decide +kernel
theorem dX5_back_26 : decode cX5_back 26 = .ok (.iconst 0, 1) := by decide +kernel
theorem dX5_back_27 : decode cX5_back 27 = .ok (.goto 4, 3) := by decide +kernel
theorem dX5_back_30 : decode cX5_back 30 = .ok (.iconst 2, 1) := by decide +kernel
theorem dX5_back_31 : decode cX5_back 31 = .ok (.invokevirtual 48, 3) := by decide +kernel
theorem dX5_back_34 : decode cX5_back 34 = .ok (.ifCond .eq 5, 3) := by decide +kernel
theorem dX5_back_37 : decode cX5_back 37 = .ok (.lconst 0, 1) := by decide +kernel
theorem dX5_back_38 : decode cX5_back 38 = .ok (.lreturn, 1) := by decide +kernel
theorem dX5_back_39 : decode cX5_back 39 = .ok (.aload_n 0, 1) := by decide +kernel
theorem dX5_back_40 : decode cX5_back 40 = .ok (.getfield 26, 3) := by decide +kernel
theorem dX5_back_43 : decode cX5_back 43 = .ok (.iload_n 1, 1) := by decide +kernel
theorem dX5_back_44 : decode cX5_back 44 = .ok (.invokevirtual 175, 3) := by decide +kernel
theorem dX5_back_47 : decode cX5_back 47 = .ok (.lreturn, 1) := by decide +kernel
theorem dX5_noise_0 : decode cX5_noise 0 = .ok (.aload_n 0, 1) := by decide +kernel
theorem dX5_noise_1 : decode cX5_noise 1 = .ok (.iload_n 1, 1) := by decide +kernel
theorem dX5_noise_2 : decode cX5_noise 2 = .ok (.ifCond .lt 8, 3) := by decide +kernel
theorem dX5_noise_5 : decode cX5_noise 5 = .ok (.iload_n 1, 1) := by decide +kernel
theorem dX5_noise_6 : decode cX5_noise 6 = .ok (.iconst 1, 1) := by decide +kernel
theorem dX5_noise_7 : decode cX5_noise 7 = .ok (.if_icmp .le 7, 3) := by decide +kernel
theorem dX5_noise_10 : decode cX5_noise 10 = .ok (.iconst 1, 1) := by decide +kernel
theorem dX5_noise_11 : decode cX5_noise 11 = .ok (.goto 18, 3) := by decide +kernel
theorem dX5_noise_14 : decode cX5_noise 14 = .ok (.aload_n 0, 1) := by decide +kernel
theorem dX5_noise_15 : decode cX5_noise 15 = .ok (.getfield 26, 3) := by decide +kernel
theorem dX5_noise_18 : decode cX5_noise 18 = .ok (.getfield 138, 3) := by decide +kernel
theorem dX5_noise_21 : decode cX5_noise 21 = .ok (.ifCond .eq 7, 3) := by decide +kernel
theorem dX5_noise_24 : decode cX5_noise 24 = .ok (.iconst 0, 1) := by decide +kernel
theorem dX5_noise_25 : decode cX5_noise 25 = .ok (.goto 4, 3) := by decide +kernel
theorem dX5_noise_28 : decode cX5_noise 28 = .ok (.iconst 2, 1) := by decide +kernel
theorem dX5_noise_29 : decode cX5_noise 29 = .ok (.invokevirtual 48, 3) := by decide +kernel
theorem dX5_noise_32 : decode cX5_noise 32 = .ok (.ifCond .eq 5, 3) := by decide +kernel
theorem dX5_noise_35 : decode cX5_noise 35 = .ok (.lconst 0, 1) := by decide +kernel
theorem dX5_noise_36 : decode cX5_noise 36 = .ok (.lreturn, 1) := by decide +kernel
theorem dX5_noise_37 : decode cX5_noise 37 = .ok (.aload_n 0, 1) := by decide +kernel
theorem dX5_noise_38 : decode cX5_noise 38 = .ok (.getfield 26, 3) := by decide +kernel
theorem dX5_noise_41 : decode cX5_noise 41 = .ok (.iload_n 1, 1) := by decide +kernel
theorem dX5_noise_42 : decode cX5_noise 42 = .ok (.ifCond .ne 7, 3) := by decide +kernel
theorem dX5_noise_45 : decode cX5_noise 45 = .ok (.iconst 1, 1) := by decide +kernel
theorem dX5_noise_46 : decode cX5_noise 46 = .ok (.goto 4, 3) := by decide +kernel
theorem dX5_noise_49 : decode cX5_noise 49 = .ok (.iconst 0, 1) := by decide +kernel
theorem dX5_noise_50 : decode cX5_noise 50 = .ok (.aload_n 0, 1) := by decide +kernel
theorem dX5_noise_51 : decode cX5_noise 51 = .ok (.getfield 10, 3) := by decide +kernel
theorem dX5_noise_54 : decode cX5_noise 54 = .ok (.getfield 77, 3) := by decide +kernel
theorem dX5_noise_57 : decode cX5_noise 57 = .ok (.invokevirtual 179, 3) := by decide +kernel
theorem dX5_noise_60 : decode cX5_noise 60 = .ok (.lreturn, 1) := by decide +kernel
theorem dX5_rank_0 : decode cX5_rank 0 = .ok (.aload_n 0, 1) := by decide +kernel
theorem dX5_rank_1 : decode cX5_rank 1 = .ok (.aload_n 0, 1) := by decide +kernel
theorem dX5_rank_2 : decode cX5_rank 2 = .ok (.invokevirtual 162, 3) := by decide +kernel
theorem dX5_rank_5 : decode cX5_rank 5 = .ok (.invokevirtual 48, 3) := by decide +kernel
theorem dX5_rank_8 : decode cX5_rank 8 = .ok (.ifCond .eq 5, 3) := by decide +kernel
theorem dX5_rank_11 : decode cX5_rank 11 = .ok (.iconst (-1), 1) := by decide +kernel
theorem dX5_rank_12 : decode cX5_rank 12 = .ok (.ireturn, 1) := by decide +kernel
theorem dX5_rank_13 : decode cX5_rank 13 = .ok (.aload_n 0, 1) := by decide +kernel
theorem dX5_rank_14 : decode cX5_rank 14 = .ok (.getfield 26, 3) := by decide +kernel
theorem dX5_rank_17 : decode cX5_rank 17 = .ok (.aload_n 0, 1) := by decide +kernel
theorem dX5_rank_18 : decode cX5_rank 18 = .ok (.getfield 10, 3) := by decide +kernel
theorem dX5_rank_21 : decode cX5_rank 21 = .ok (.invokevirtual 183, 3) := by decide +kernel
theorem dX5_rank_24 : decode cX5_rank 24 = .ok (.ireturn, 1) := by decide +kernel
theorem dX5_lost_0 : decode cX5_lost 0 = .ok (.aload_n 0, 1) := by decide +kernel
theorem dX5_lost_1 : decode cX5_lost 1 = .ok (.aload_n 0, 1) := by decide +kernel
theorem dX5_lost_2 : decode cX5_lost 2 = .ok (.invokevirtual 162, 3) := by decide +kernel
theorem dX5_lost_5 : decode cX5_lost 5 = .ok (.invokevirtual 48, 3) := by decide +kernel
theorem dX5_lost_8 : decode cX5_lost 8 = .ok (.ifCond .eq 5, 3) := by decide +kernel
theorem dX5_lost_11 : decode cX5_lost 11 = .ok (.iconst (-1), 1) := by decide +kernel
theorem dX5_lost_12 : decode cX5_lost 12 = .ok (.ireturn, 1) := by decide +kernel
theorem dX5_lost_13 : decode cX5_lost 13 = .ok (.aload_n 0, 1) := by decide +kernel
theorem dX5_lost_14 : decode cX5_lost 14 = .ok (.getfield 26, 3) := by decide +kernel
theorem dX5_lost_17 : decode cX5_lost 17 = .ok (.aload_n 0, 1) := by decide +kernel
theorem dX5_lost_18 : decode cX5_lost 18 = .ok (.getfield 10, 3) := by decide +kernel
theorem dX5_lost_21 : decode cX5_lost 21 = .ok (.invokevirtual 183, 3) := by decide +kernel
theorem dX5_lost_24 : decode cX5_lost 24 = .ok (.istore_n 1, 1) := by decide +kernel
theorem dX5_lost_25 : decode cX5_lost 25 = .ok (.iload_n 1, 1) := by decide +kernel
theorem dX5_lost_26 : decode cX5_lost 26 = .ok (.aload_n 0, 1) := by decide +kernel
theorem dX5_lost_27 : decode cX5_lost 27 = .ok (.getfield 10, 3) := by decide +kernel
theorem dX5_lost_30 : decode cX5_lost 30 = .ok (.getfield 77, 3) := by decide +kernel
theorem dX5_lost_33 : decode cX5_lost 33 = .ok (.if_icmp .lt 5, 3) := by decide +kernel
theorem dX5_lost_36 : decode cX5_lost 36 = .ok (.iconst (-1), 1) := by decide +kernel
theorem dX5_lost_37 : decode cX5_lost 37 = .ok (.ireturn, 1) := by decide +kernel
theorem dX5_lost_38 : decode cX5_lost 38 = .ok (.aload_n 0, 1) := by decide +kernel
theorem dX5_lost_39 : decode cX5_lost 39 = .ok (.getfield 26, 3) := by decide +kernel
theorem dX5_lost_42 : decode cX5_lost 42 = .ok (.aload_n 0, 1) := by decide +kernel
theorem dX5_lost_43 : decode cX5_lost 43 = .ok (.getfield 10, 3) := by decide +kernel
theorem dX5_lost_46 : decode cX5_lost 46 = .ok (.iload_n 1, 1) := by decide +kernel
theorem dX5_lost_47 : decode cX5_lost 47 = .ok (.invokevirtual 187, 3) := by decide +kernel
theorem dX5_lost_50 : decode cX5_lost 50 = .ok (.iload_n 1, 1) := by decide +kernel
theorem dX5_lost_51 : decode cX5_lost 51 = .ok (.ireturn, 1) := by decide +kernel
theorem dX5_solve_0 : decode cX5_solve 0 = .ok (.aload_n 0, 1) := by decide +kernel
theorem dX5_solve_1 : decode cX5_solve 1 = .ok (.getfield 10, 3) := by decide +kernel
theorem dX5_solve_4 : decode cX5_solve 4 = .ok (.iconst 2, 1) := by decide +kernel
theorem dX5_solve_5 : decode cX5_solve 5 = .ok (.ldc 103, 2) := by decide +kernel
theorem dX5_solve_7 : decode cX5_solve 7 = .ok (.invokevirtual 116, 3) := by decide +kernel
theorem dX5_solve_10 : decode cX5_solve 10 = .ok (.ifCond .le 7, 3) := by decide +kernel
theorem dX5_solve_13 : decode cX5_solve 13 = .ok (.iconst 1, 1) := by decide +kernel
theorem dX5_solve_14 : decode cX5_solve 14 = .ok (.goto 4, 3) := by decide +kernel
theorem dX5_solve_17 : decode cX5_solve 17 = .ok (.iconst 0, 1) := by decide +kernel
theorem dX5_solve_18 : decode cX5_solve 18 = .ok (.istore_n 1, 1) := by decide +kernel
theorem dX5_solve_19 : decode cX5_solve 19 = .ok (.aload_n 0, 1) := by decide +kernel
theorem dX5_solve_20 : decode cX5_solve 20 = .ok (.iload_n 1, 1) := by decide +kernel
theorem dX5_solve_21 : decode cX5_solve 21 = .ok (.ifCond .eq 7, 3) := by decide +kernel
theorem dX5_solve_24 : decode cX5_solve 24 = .ok (.iconst 1, 1) := by decide +kernel
theorem dX5_solve_25 : decode cX5_solve 25 = .ok (.goto 7, 3) := by decide +kernel
theorem dX5_solve_28 : decode cX5_solve 28 = .ok (.aload_n 0, 1) := by decide +kernel
theorem dX5_solve_29 : decode cX5_solve 29 = .ok (.invokevirtual 162, 3) := by decide +kernel
theorem dX5_solve_32 : decode cX5_solve 32 = .ok (.invokevirtual 48, 3) := by decide +kernel
theorem dX5_solve_35 : decode cX5_solve 35 = .ok (.ifCond .eq 5, 3) := by decide +kernel
theorem dX5_solve_38 : decode cX5_solve 38 = .ok (.iconst (-1), 1) := by decide +kernel
theorem dX5_solve_39 : decode cX5_solve 39 = .ok (.ireturn, 1) := by decide +kernel
theorem dX5_solve_40 : decode cX5_solve 40 = .ok (.aload_n 0, 1) := by decide +kernel
theorem dX5_solve_41 : decode cX5_solve 41 = .ok (.getfield 26, 3) := by decide +kernel
theorem dX5_solve_44 : decode cX5_solve 44 = .ok (.aload_n 0, 1) := by decide +kernel
theorem dX5_solve_45 : decode cX5_solve 45 = .ok (.getfield 10, 3) := by decide +kernel
theorem dX5_solve_48 : decode cX5_solve 48 = .ok (.invokevirtual 167, 3) := by decide +kernel
theorem dX5_solve_51 : decode cX5_solve 51 = .ok (.ifCond .ne 5, 3) := by decide +kernel
theorem dX5_solve_54 : decode cX5_solve 54 = .ok (.iconst 0, 1) := by decide +kernel
theorem dX5_solve_55 : decode cX5_solve 55 = .ok (.ireturn, 1) := by decide +kernel
theorem dX5_solve_56 : decode cX5_solve 56 = .ok (.aload_n 0, 1) := by decide +kernel
theorem dX5_solve_57 : decode cX5_solve 57 = .ok (.getfield 26, 3) := by decide +kernel
theorem dX5_solve_60 : decode cX5_solve 60 = .ok (.aload_n 0, 1) := by decide +kernel
theorem dX5_solve_61 : decode cX5_solve 61 = .ok (.getfield 10, 3) := by decide +kernel
theorem dX5_solve_64 : decode cX5_solve 64 = .ok (.invokevirtual 191, 3) := by decide +kernel
theorem dX5_solve_67 : decode cX5_solve 67 = .ok (.ifCond .eq 7, 3) := by decide +kernel
theorem dX5_solve_70 : decode cX5_solve 70 = .ok (.iconst 1, 1) := by decide +kernel
theorem dX5_solve_71 : decode cX5_solve 71 = .ok (.goto 5, 3) := by decide +kernel
theorem dX5_solve_74 : decode cX5_solve 74 = .ok (.bipush (-2), 2) := by decide +kernel
theorem dX5_solve_76 : decode cX5_solve 76 = .ok (.ireturn, 1) := by decide +kernel
theorem dX5_sure_0 : decode cX5_sure 0 = .ok (.aload_n 0, 1) := by decide +kernel
theorem dX5_sure_1 : decode cX5_sure 1 = .ok (.aload_n 0, 1) := by decide +kernel
theorem dX5_sure_2 : decode cX5_sure 2 = .ok (.invokevirtual 162, 3) := by decide +kernel
theorem dX5_sure_5 : decode cX5_sure 5 = .ok (.invokevirtual 48, 3) := by decide +kernel
theorem dX5_sure_8 : decode cX5_sure 8 = .ok (.ifCond .eq 5, 3) := by decide +kernel
theorem dX5_sure_11 : decode cX5_sure 11 = .ok (.iconst (-1), 1) := by decide +kernel
theorem dX5_sure_12 : decode cX5_sure 12 = .ok (.ireturn, 1) := by decide +kernel
theorem dX5_sure_13 : decode cX5_sure 13 = .ok (.aload_n 0, 1) := by decide +kernel
theorem dX5_sure_14 : decode cX5_sure 14 = .ok (.getfield 10, 3) := by decide +kernel
theorem dX5_sure_17 : decode cX5_sure 17 = .ok (.iconst 2, 1) := by decide +kernel
theorem dX5_sure_18 : decode cX5_sure 18 = .ok (.ldc 103, 2) := by decide +kernel
theorem dX5_sure_20 : decode cX5_sure 20 = .ok (.invokevirtual 116, 3) := by decide +kernel
theorem dX5_sure_23 : decode cX5_sure 23 = .ok (.ifCond .ne 7, 3) := by decide +kernel
theorem dX5_sure_26 : decode cX5_sure 26 = .ok (.iconst 1, 1) := by decide +kernel
theorem dX5_sure_27 : decode cX5_sure 27 = .ok (.goto 4, 3) := by decide +kernel
theorem dX5_sure_30 : decode cX5_sure 30 = .ok (.iconst 0, 1) := by decide +kernel
theorem dX5_sure_31 : decode cX5_sure 31 = .ok (.istore_n 1, 1) := by decide +kernel
theorem dX5_sure_32 : decode cX5_sure 32 = .ok (.iload_n 1, 1) := by decide +kernel
theorem dX5_sure_33 : decode cX5_sure 33 = .ok (.ifCond .eq 28, 3) := by decide +kernel
theorem dX5_sure_36 : decode cX5_sure 36 = .ok (.aload_n 0, 1) := by decide +kernel
theorem dX5_sure_37 : decode cX5_sure 37 = .ok (.getfield 26, 3) := by decide +kernel
theorem dX5_sure_40 : decode cX5_sure 40 = .ok (.aload_n 0, 1) := by decide +kernel
theorem dX5_sure_41 : decode cX5_sure 41 = .ok (.getfield 10, 3) := by decide +kernel
theorem dX5_sure_44 : decode cX5_sure 44 = .ok (.invokevirtual 183, 3) := by decide +kernel
theorem dX5_sure_47 : decode cX5_sure 47 = .ok (.aload_n 0, 1) := by decide +kernel
theorem dX5_sure_48 : decode cX5_sure 48 = .ok (.getfield 10, 3) := by decide +kernel
theorem dX5_sure_51 : decode cX5_sure 51 = .ok (.getfield 77, 3) := by decide +kernel
theorem dX5_sure_54 : decode cX5_sure 54 = .ok (.if_icmp .ne 7, 3) := by decide +kernel
theorem dX5_sure_57 : decode cX5_sure 57 = .ok (.iconst 1, 1) := by decide +kernel
theorem dX5_sure_58 : decode cX5_sure 58 = .ok (.goto 4, 3) := by decide +kernel
theorem dX5_sure_61 : decode cX5_sure 61 = .ok (.iconst 0, 1) := by decide +kernel
theorem dX5_sure_62 : decode cX5_sure 62 = .ok (.ireturn, 1) := by decide +kernel
theorem dX5_points_0 : decode cX5_points 0 = .ok (.aload_n 0, 1) := by decide +kernel
theorem dX5_points_1 : decode cX5_points 1 = .ok (.iload_n 1, 1) := by decide +kernel
theorem dX5_points_2 : decode cX5_points 2 = .ok (.ifCond .lt 10, 3) := by decide +kernel
theorem dX5_points_5 : decode cX5_points 5 = .ok (.iload_n 1, 1) := by decide +kernel
theorem dX5_points_6 : decode cX5_points 6 = .ok (.sipush 1000, 3) := by decide +kernel
theorem dX5_points_9 : decode cX5_points 9 = .ok (.if_icmp .le 7, 3) := by decide +kernel
theorem dX5_points_12 : decode cX5_points 12 = .ok (.iconst 1, 1) := by decide +kernel
theorem dX5_points_13 : decode cX5_points 13 = .ok (.goto 4, 3) := by decide +kernel
theorem dX5_points_16 : decode cX5_points 16 = .ok (.iconst 0, 1) := by decide +kernel
theorem dX5_points_17 : decode cX5_points 17 = .ok (.invokevirtual 48, 3) := by decide +kernel
theorem dX5_points_20 : decode cX5_points 20 = .ok (.ifCond .eq 5, 3) := by decide +kernel
theorem dX5_points_23 : decode cX5_points 23 = .ok (.iconst (-1), 1) := by decide +kernel
theorem dX5_points_24 : decode cX5_points 24 = .ok (.ireturn, 1) := by decide +kernel
theorem dX5_points_25 : decode cX5_points 25 = .ok (.aload_n 0, 1) := by decide +kernel
theorem dX5_points_26 : decode cX5_points 26 = .ok (.getfield 33, 3) := by decide +kernel
theorem dX5_points_29 : decode cX5_points 29 = .ok (.aload_n 0, 1) := by decide +kernel
theorem dX5_points_30 : decode cX5_points 30 = .ok (.getfield 10, 3) := by decide +kernel
theorem dX5_points_33 : decode cX5_points 33 = .ok (.iload_n 1, 1) := by decide +kernel
theorem dX5_points_34 : decode cX5_points 34 = .ok (.invokevirtual 194, 3) := by decide +kernel
theorem dX5_points_37 : decode cX5_points 37 = .ok (.aload_n 0, 1) := by decide +kernel
theorem dX5_points_38 : decode cX5_points 38 = .ok (.getfield 33, 3) := by decide +kernel
theorem dX5_points_41 : decode cX5_points 41 = .ok (.getfield 126, 3) := by decide +kernel
theorem dX5_points_44 : decode cX5_points 44 = .ok (.ireturn, 1) := by decide +kernel
theorem dX5_point_0 : decode cX5_point 0 = .ok (.aload_n 0, 1) := by decide +kernel
theorem dX5_point_1 : decode cX5_point 1 = .ok (.iconst 0, 1) := by decide +kernel
theorem dX5_point_2 : decode cX5_point 2 = .ok (.putfield 44, 3) := by decide +kernel
theorem dX5_point_5 : decode cX5_point 5 = .ok (.aload_n 0, 1) := by decide +kernel
theorem dX5_point_6 : decode cX5_point 6 = .ok (.getfield 33, 3) := by decide +kernel
theorem dX5_point_9 : decode cX5_point 9 = .ok (.iload_n 1, 1) := by decide +kernel
theorem dX5_point_10 : decode cX5_point 10 = .ok (.iload_n 2, 1) := by decide +kernel
theorem dX5_point_11 : decode cX5_point 11 = .ok (.invokevirtual 197, 3) := by decide +kernel
theorem dX5_point_14 : decode cX5_point 14 = .ok (.ireturn, 1) := by decide +kernel
theorem dX5_table_0 : decode cX5_table 0 = .ok (.iload_n 1, 1) := by decide +kernel
theorem dX5_table_1 : decode cX5_table 1 = .ok (.ifCond .ne 16, 3) := by decide +kernel
theorem dX5_table_4 : decode cX5_table 4 = .ok (.iload_n 2, 1) := by decide +kernel
theorem dX5_table_5 : decode cX5_table 5 = .ok (.ifCond .lt 12, 3) := by decide +kernel
theorem dX5_table_8 : decode cX5_table 8 = .ok (.iload_n 2, 1) := by decide +kernel
theorem dX5_table_9 : decode cX5_table 9 = .ok (.iconst 5, 1) := by decide +kernel
theorem dX5_table_10 : decode cX5_table 10 = .ok (.if_icmp .gt 7, 3) := by decide +kernel
theorem dX5_table_13 : decode cX5_table 13 = .ok (.iconst 1, 1) := by decide +kernel
theorem dX5_table_14 : decode cX5_table 14 = .ok (.goto 4, 3) := by decide +kernel
theorem dX5_table_17 : decode cX5_table 17 = .ok (.iconst 0, 1) := by decide +kernel
theorem dX5_table_18 : decode cX5_table 18 = .ok (.istore_n 3, 1) := by decide +kernel
theorem dX5_table_19 : decode cX5_table 19 = .ok (.iload_n 1, 1) := by decide +kernel
theorem dX5_table_20 : decode cX5_table 20 = .ok (.iconst 1, 1) := by decide +kernel
theorem dX5_table_21 : decode cX5_table 21 = .ok (.if_icmp .ne 20, 3) := by decide +kernel
theorem dX5_table_24 : decode cX5_table 24 = .ok (.iload_n 2, 1) := by decide +kernel
theorem dX5_table_25 : decode cX5_table 25 = .ok (.invokestatic 146, 3) := by decide +kernel
theorem dX5_table_28 : decode cX5_table 28 = .ok (.ifCond .eq 13, 3) := by decide +kernel
theorem dX5_table_31 : decode cX5_table 31 = .ok (.iload_n 2, 1) := by decide +kernel
theorem dX5_table_32 : decode cX5_table 32 = .ok (.bipush 32, 2) := by decide +kernel
theorem dX5_table_34 : decode cX5_table 34 = .ok (.if_icmp .ge 7, 3) := by decide +kernel
theorem dX5_table_37 : decode cX5_table 37 = .ok (.iconst 1, 1) := by decide +kernel
theorem dX5_table_38 : decode cX5_table 38 = .ok (.goto 4, 3) := by decide +kernel
theorem dX5_table_41 : decode cX5_table 41 = .ok (.iconst 0, 1) := by decide +kernel
theorem dX5_table_42 : decode cX5_table 42 = .ok (.istore 4, 2) := by decide +kernel
theorem dX5_table_44 : decode cX5_table 44 = .ok (.aload_n 0, 1) := by decide +kernel
theorem dX5_table_45 : decode cX5_table 45 = .ok (.iload_n 3, 1) := by decide +kernel
theorem dX5_table_46 : decode cX5_table 46 = .ok (.ifCond .ne 8, 3) := by decide +kernel
theorem dX5_table_49 : decode cX5_table 49 = .ok (.iload 4, 2) := by decide +kernel
theorem dX5_table_51 : decode cX5_table 51 = .ok (.ifCond .eq 7, 3) := by decide +kernel
theorem dX5_table_54 : decode cX5_table 54 = .ok (.iconst 0, 1) := by decide +kernel
theorem dX5_table_55 : decode cX5_table 55 = .ok (.goto 4, 3) := by decide +kernel
theorem dX5_table_58 : decode cX5_table 58 = .ok (.iconst 1, 1) := by decide +kernel
theorem dX5_table_59 : decode cX5_table 59 = .ok (.invokevirtual 48, 3) := by decide +kernel
theorem dX5_table_62 : decode cX5_table 62 = .ok (.ifCond .eq 5, 3) := by decide +kernel
theorem dX5_table_65 : decode cX5_table 65 = .ok (.iconst (-1), 1) := by decide +kernel
theorem dX5_table_66 : decode cX5_table 66 = .ok (.ireturn, 1) := by decide +kernel
theorem dX5_table_67 : decode cX5_table 67 = .ok (.iload_n 3, 1) := by decide +kernel
theorem dX5_table_68 : decode cX5_table 68 = .ok (.ifCond .eq 14, 3) := by decide +kernel
theorem dX5_table_71 : decode cX5_table 71 = .ok (.aload_n 0, 1) := by decide +kernel
theorem dX5_table_72 : decode cX5_table 72 = .ok (.getfield 40, 3) := by decide +kernel
theorem dX5_table_75 : decode cX5_table 75 = .ok (.iload_n 2, 1) := by decide +kernel
theorem dX5_table_76 : decode cX5_table 76 = .ok (.invokevirtual 200, 3) := by decide +kernel
theorem dX5_table_79 : decode cX5_table 79 = .ok (.goto 11, 3) := by decide +kernel
theorem dX5_table_82 : decode cX5_table 82 = .ok (.aload_n 0, 1) := by decide +kernel
theorem dX5_table_83 : decode cX5_table 83 = .ok (.getfield 40, 3) := by decide +kernel
theorem dX5_table_86 : decode cX5_table 86 = .ok (.iload_n 2, 1) := by decide +kernel
theorem dX5_table_87 : decode cX5_table 87 = .ok (.invokevirtual 203, 3) := by decide +kernel
theorem dX5_table_90 : decode cX5_table 90 = .ok (.aload_n 0, 1) := by decide +kernel
theorem dX5_table_91 : decode cX5_table 91 = .ok (.getfield 40, 3) := by decide +kernel
theorem dX5_table_94 : decode cX5_table 94 = .ok (.getfield 123, 3) := by decide +kernel
theorem dX5_table_97 : decode cX5_table 97 = .ok (.ireturn, 1) := by decide +kernel
theorem dX5_twice_0 : decode cX5_twice 0 = .ok (.aload_n 0, 1) := by decide +kernel
theorem dX5_twice_1 : decode cX5_twice 1 = .ok (.getfield 40, 3) := by decide +kernel
theorem dX5_twice_4 : decode cX5_twice 4 = .ok (.getfield 123, 3) := by decide +kernel
theorem dX5_twice_7 : decode cX5_twice 7 = .ok (.ifCond .ne 7, 3) := by decide +kernel
theorem dX5_twice_10 : decode cX5_twice 10 = .ok (.iconst 2, 1) := by decide +kernel
theorem dX5_twice_11 : decode cX5_twice 11 = .ok (.goto 22, 3) := by decide +kernel
theorem dX5_twice_14 : decode cX5_twice 14 = .ok (.iconst 2, 1) := by decide +kernel
theorem dX5_twice_15 : decode cX5_twice 15 = .ok (.aload_n 0, 1) := by decide +kernel
theorem dX5_twice_16 : decode cX5_twice 16 = .ok (.getfield 40, 3) := by decide +kernel
theorem dX5_twice_19 : decode cX5_twice 19 = .ok (.getfield 123, 3) := by decide +kernel
theorem dX5_twice_22 : decode cX5_twice 22 = .ok (.imul, 1) := by decide +kernel
theorem dX5_twice_23 : decode cX5_twice 23 = .ok (.bipush 32, 2) := by decide +kernel
theorem dX5_twice_25 : decode cX5_twice 25 = .ok (.if_icmp .le 7, 3) := by decide +kernel
theorem dX5_twice_28 : decode cX5_twice 28 = .ok (.iconst 3, 1) := by decide +kernel
theorem dX5_twice_29 : decode cX5_twice 29 = .ok (.goto 4, 3) := by decide +kernel
theorem dX5_twice_32 : decode cX5_twice 32 = .ok (.iconst 0, 1) := by decide +kernel
theorem dX5_twice_33 : decode cX5_twice 33 = .ok (.istore_n 1, 1) := by decide +kernel
theorem dX5_twice_34 : decode cX5_twice 34 = .ok (.aload_n 0, 1) := by decide +kernel
theorem dX5_twice_35 : decode cX5_twice 35 = .ok (.iload_n 1, 1) := by decide +kernel
theorem dX5_twice_36 : decode cX5_twice 36 = .ok (.invokevirtual 48, 3) := by decide +kernel
theorem dX5_twice_39 : decode cX5_twice 39 = .ok (.ifCond .eq 5, 3) := by decide +kernel
theorem dX5_twice_42 : decode cX5_twice 42 = .ok (.iconst (-1), 1) := by decide +kernel
theorem dX5_twice_43 : decode cX5_twice 43 = .ok (.ireturn, 1) := by decide +kernel
theorem dX5_twice_44 : decode cX5_twice 44 = .ok (.aload_n 0, 1) := by decide +kernel
theorem dX5_twice_45 : decode cX5_twice 45 = .ok (.getfield 40, 3) := by decide +kernel
theorem dX5_twice_48 : decode cX5_twice 48 = .ok (.invokevirtual 206, 3) := by decide +kernel
theorem dX5_twice_51 : decode cX5_twice 51 = .ok (.aload_n 0, 1) := by decide +kernel
theorem dX5_twice_52 : decode cX5_twice 52 = .ok (.getfield 40, 3) := by decide +kernel
theorem dX5_twice_55 : decode cX5_twice 55 = .ok (.getfield 123, 3) := by decide +kernel
theorem dX5_twice_58 : decode cX5_twice 58 = .ok (.ireturn, 1) := by decide +kernel
theorem dX5_swap_0 : decode cX5_swap 0 = .ok (.aload_n 0, 1) := by decide +kernel
theorem dX5_swap_1 : decode cX5_swap 1 = .ok (.aload_n 0, 1) := by decide +kernel
theorem dX5_swap_2 : decode cX5_swap 2 = .ok (.iload_n 1, 1) := by decide +kernel
theorem dX5_swap_3 : decode cX5_swap 3 = .ok (.iload_n 2, 1) := by decide +kernel
theorem dX5_swap_4 : decode cX5_swap 4 = .ok (.invokevirtual 209, 3) := by decide +kernel
theorem dX5_swap_7 : decode cX5_swap 7 = .ok (.invokevirtual 48, 3) := by decide +kernel
theorem dX5_swap_10 : decode cX5_swap 10 = .ok (.ifCond .eq 5, 3) := by decide +kernel
theorem dX5_swap_13 : decode cX5_swap 13 = .ok (.iconst 0, 1) := by decide +kernel
theorem dX5_swap_14 : decode cX5_swap 14 = .ok (.ireturn, 1) := by decide +kernel
theorem dX5_swap_15 : decode cX5_swap 15 = .ok (.aload_n 0, 1) := by decide +kernel
theorem dX5_swap_16 : decode cX5_swap 16 = .ok (.getfield 40, 3) := by decide +kernel
theorem dX5_swap_19 : decode cX5_swap 19 = .ok (.iload_n 1, 1) := by decide +kernel
theorem dX5_swap_20 : decode cX5_swap 20 = .ok (.iload_n 2, 1) := by decide +kernel
theorem dX5_swap_21 : decode cX5_swap 21 = .ok (.invokevirtual 212, 3) := by decide +kernel
theorem dX5_swap_24 : decode cX5_swap 24 = .ok (.iconst 1, 1) := by decide +kernel
theorem dX5_swap_25 : decode cX5_swap 25 = .ok (.ireturn, 1) := by decide +kernel
theorem dX5_sign_0 : decode cX5_sign 0 = .ok (.aload_n 0, 1) := by decide +kernel
theorem dX5_sign_1 : decode cX5_sign 1 = .ok (.iconst 0, 1) := by decide +kernel
theorem dX5_sign_2 : decode cX5_sign 2 = .ok (.putfield 44, 3) := by decide +kernel
theorem dX5_sign_5 : decode cX5_sign 5 = .ok (.aload_n 0, 1) := by decide +kernel
theorem dX5_sign_6 : decode cX5_sign 6 = .ok (.getfield 40, 3) := by decide +kernel
theorem dX5_sign_9 : decode cX5_sign 9 = .ok (.iload_n 1, 1) := by decide +kernel
theorem dX5_sign_10 : decode cX5_sign 10 = .ok (.invokevirtual 215, 3) := by decide +kernel
theorem dX5_sign_13 : decode cX5_sign 13 = .ok (.ifCond .eq 26, 3) := by decide +kernel
theorem dX5_sign_16 : decode cX5_sign 16 = .ok (.aload_n 0, 1) := by decide +kernel
theorem dX5_sign_17 : decode cX5_sign 17 = .ok (.getfield 40, 3) := by decide +kernel
theorem dX5_sign_20 : decode cX5_sign 20 = .ok (.iload_n 2, 1) := by decide +kernel
theorem dX5_sign_21 : decode cX5_sign 21 = .ok (.invokevirtual 215, 3) := by decide +kernel
theorem dX5_sign_24 : decode cX5_sign 24 = .ok (.ifCond .eq 15, 3) := by decide +kernel
theorem dX5_sign_27 : decode cX5_sign 27 = .ok (.aload_n 0, 1) := by decide +kernel
theorem dX5_sign_28 : decode cX5_sign 28 = .ok (.getfield 40, 3) := by decide +kernel
theorem dX5_sign_31 : decode cX5_sign 31 = .ok (.iload_n 1, 1) := by decide +kernel
theorem dX5_sign_32 : decode cX5_sign 32 = .ok (.iload_n 2, 1) := by decide +kernel
theorem dX5_sign_33 : decode cX5_sign 33 = .ok (.invokevirtual 216, 3) := by decide +kernel
theorem dX5_sign_36 : decode cX5_sign 36 = .ok (.goto 4, 3) := by decide +kernel
theorem dX5_sign_39 : decode cX5_sign 39 = .ok (.iconst 0, 1) := by decide +kernel
theorem dX5_sign_40 : decode cX5_sign 40 = .ok (.ireturn, 1) := by decide +kernel
theorem dX5_product_0 : decode cX5_product 0 = .ok (.aload_n 0, 1) := by decide +kernel
theorem dX5_product_1 : decode cX5_product 1 = .ok (.aload_n 0, 1) := by decide +kernel
theorem dX5_product_2 : decode cX5_product 2 = .ok (.iload_n 1, 1) := by decide +kernel
theorem dX5_product_3 : decode cX5_product 3 = .ok (.iload_n 2, 1) := by decide +kernel
theorem dX5_product_4 : decode cX5_product 4 = .ok (.invokevirtual 209, 3) := by decide +kernel
theorem dX5_product_7 : decode cX5_product 7 = .ok (.invokevirtual 48, 3) := by decide +kernel
theorem dX5_product_10 : decode cX5_product 10 = .ok (.ifCond .eq 5, 3) := by decide +kernel
theorem dX5_product_13 : decode cX5_product 13 = .ok (.iconst 0, 1) := by decide +kernel
theorem dX5_product_14 : decode cX5_product 14 = .ok (.ireturn, 1) := by decide +kernel
theorem dX5_product_15 : decode cX5_product 15 = .ok (.aload_n 0, 1) := by decide +kernel
theorem dX5_product_16 : decode cX5_product 16 = .ok (.getfield 40, 3) := by decide +kernel
theorem dX5_product_19 : decode cX5_product 19 = .ok (.iload_n 1, 1) := by decide +kernel
theorem dX5_product_20 : decode cX5_product 20 = .ok (.iload_n 2, 1) := by decide +kernel
theorem dX5_product_21 : decode cX5_product 21 = .ok (.invokevirtual 219, 3) := by decide +kernel
theorem dX5_product_24 : decode cX5_product 24 = .ok (.ireturn, 1) := by decide +kernel
theorem dX5_look_0 : decode cX5_look 0 = .ok (.aload_n 0, 1) := by decide +kernel
theorem dX5_look_1 : decode cX5_look 1 = .ok (.aload_n 0, 1) := by decide +kernel
theorem dX5_look_2 : decode cX5_look 2 = .ok (.iload_n 1, 1) := by decide +kernel
theorem dX5_look_3 : decode cX5_look 3 = .ok (.iload_n 1, 1) := by decide +kernel
theorem dX5_look_4 : decode cX5_look 4 = .ok (.invokevirtual 209, 3) := by decide +kernel
theorem dX5_look_7 : decode cX5_look 7 = .ok (.invokevirtual 48, 3) := by decide +kernel
theorem dX5_look_10 : decode cX5_look 10 = .ok (.ifCond .eq 5, 3) := by decide +kernel
theorem dX5_look_13 : decode cX5_look 13 = .ok (.iconst 0, 1) := by decide +kernel
theorem dX5_look_14 : decode cX5_look 14 = .ok (.ireturn, 1) := by decide +kernel
theorem dX5_look_15 : decode cX5_look 15 = .ok (.aload_n 0, 1) := by decide +kernel
theorem dX5_look_16 : decode cX5_look 16 = .ok (.getfield 40, 3) := by decide +kernel
theorem dX5_look_19 : decode cX5_look 19 = .ok (.getfield 123, 3) := by decide +kernel
theorem dX5_look_22 : decode cX5_look 22 = .ok (.aload_n 0, 1) := by decide +kernel
theorem dX5_look_23 : decode cX5_look 23 = .ok (.getfield 10, 3) := by decide +kernel
theorem dX5_look_26 : decode cX5_look 26 = .ok (.getfield 77, 3) := by decide +kernel
theorem dX5_look_29 : decode cX5_look 29 = .ok (.invokestatic 222, 3) := by decide +kernel
theorem dX5_look_32 : decode cX5_look 32 = .ok (.istore_n 2, 1) := by decide +kernel
theorem dX5_look_33 : decode cX5_look 33 = .ok (.iconst 0, 1) := by decide +kernel
theorem dX5_look_34 : decode cX5_look 34 = .ok (.istore_n 3, 1) := by decide +kernel
theorem dX5_look_35 : decode cX5_look 35 = .ok (.iconst 0, 1) := by decide +kernel
theorem dX5_look_36 : decode cX5_look 36 = .ok (.istore 4, 2) := by decide +kernel
theorem dX5_look_38 : decode cX5_look 38 = .ok (.iload 4, 2) := by decide +kernel
theorem dX5_look_40 : decode cX5_look 40 = .ok (.iload_n 2, 1) := by decide +kernel
theorem dX5_look_41 : decode cX5_look 41 = .ok (.if_icmp .ge 33, 3) := by decide +kernel
theorem dX5_look_44 : decode cX5_look 44 = .ok (.iload_n 3, 1) := by decide +kernel
theorem dX5_look_45 : decode cX5_look 45 = .ok (.aload_n 0, 1) := by decide +kernel
theorem dX5_look_46 : decode cX5_look 46 = .ok (.getfield 10, 3) := by decide +kernel
theorem dX5_look_49 : decode cX5_look 49 = .ok (.iconst 1, 1) := by decide +kernel
theorem dX5_look_50 : decode cX5_look 50 = .ok (.iload 4, 2) := by decide +kernel
theorem dX5_look_52 : decode cX5_look 52 = .ok (.invokevirtual 111, 3) := by decide +kernel
theorem dX5_look_55 : decode cX5_look 55 = .ok (.aload_n 0, 1) := by decide +kernel
theorem dX5_look_56 : decode cX5_look 56 = .ok (.getfield 40, 3) := by decide +kernel
theorem dX5_look_59 : decode cX5_look 59 = .ok (.iload_n 1, 1) := by decide +kernel
theorem dX5_look_60 : decode cX5_look 60 = .ok (.iload 4, 2) := by decide +kernel
theorem dX5_look_62 : decode cX5_look 62 = .ok (.invokevirtual 216, 3) := by decide +kernel
theorem dX5_look_65 : decode cX5_look 65 = .ok (.imul, 1) := by decide +kernel
theorem dX5_look_66 : decode cX5_look 66 = .ok (.iadd, 1) := by decide +kernel
theorem dX5_look_67 : decode cX5_look 67 = .ok (.istore_n 3, 1) := by decide +kernel
theorem dX5_look_68 : decode cX5_look 68 = .ok (.iinc 4 1, 3) := by decide +kernel
theorem dX5_look_71 : decode cX5_look 71 = .ok (.goto (-33), 3) := by decide +kernel
theorem dX5_look_74 : decode cX5_look 74 = .ok (.iload_n 3, 1) := by decide +kernel
theorem dX5_look_75 : decode cX5_look 75 = .ok (.ireturn, 1) := by decide +kernel
theorem dX5_fault_0 : decode cX5_fault 0 = .ok (.aload_n 0, 1) := by decide +kernel
theorem dX5_fault_1 : decode cX5_fault 1 = .ok (.getfield 44, 3) := by decide +kernel
theorem dX5_fault_4 : decode cX5_fault 4 = .ok (.ireturn, 1) := by decide +kernel
theorem dX5_refuses_0 : decode cX5_refuses 0 = .ok (.aload_n 0, 1) := by decide +kernel
theorem dX5_refuses_1 : decode cX5_refuses 1 = .ok (.iload_n 1, 1) := by decide +kernel
theorem dX5_refuses_2 : decode cX5_refuses 2 = .ok (.putfield 44, 3) := by decide +kernel
theorem dX5_refuses_5 : decode cX5_refuses 5 = .ok (.iload_n 1, 1) := by decide +kernel
theorem dX5_refuses_6 : decode cX5_refuses 6 = .ok (.ifCond .eq 7, 3) := by decide +kernel
theorem dX5_refuses_9 : decode cX5_refuses 9 = .ok (.iconst 1, 1) := by decide +kernel
theorem dX5_refuses_10 : decode cX5_refuses 10 = .ok (.goto 4, 3) := by decide +kernel
theorem dX5_refuses_13 : decode cX5_refuses 13 = .ok (.iconst 0, 1) := by decide +kernel
theorem dX5_refuses_14 : decode cX5_refuses 14 = .ok (.ireturn, 1) := by decide +kernel
theorem dX5_startRing_0 : decode cX5_startRing 0 = .ok (.aload_n 0, 1) := by decide +kernel
theorem dX5_startRing_1 : decode cX5_startRing 1 = .ok (.getfield 10, 3) := by decide +kernel
theorem dX5_startRing_4 : decode cX5_startRing 4 = .ok (.iload_n 1, 1) := by decide +kernel
theorem dX5_startRing_5 : decode cX5_startRing 5 = .ok (.invokevirtual 227, 3) := by decide +kernel
theorem dX5_startRing_8 : decode cX5_startRing 8 = .ok (.aload_n 0, 1) := by decide +kernel
theorem dX5_startRing_9 : decode cX5_startRing 9 = .ok (.getfield 26, 3) := by decide +kernel
theorem dX5_startRing_12 : decode cX5_startRing 12 = .ok (.iconst 0, 1) := by decide +kernel
theorem dX5_startRing_13 : decode cX5_startRing 13 = .ok (.putfield 138, 3) := by decide +kernel
theorem dX5_startRing_16 : decode cX5_startRing 16 = .ok (.return_, 1) := by decide +kernel
theorem dX5_forgetBackOf_0 : decode cX5_forgetBackOf 0 = .ok (.iload_n 1, 1) := by decide +kernel
theorem dX5_forgetBackOf_1 : decode cX5_forgetBackOf 1 = .ok (.ifCond .ne 11, 3) := by decide +kernel
theorem dX5_forgetBackOf_4 : decode cX5_forgetBackOf 4 = .ok (.aload_n 0, 1) := by decide +kernel
theorem dX5_forgetBackOf_5 : decode cX5_forgetBackOf 5 = .ok (.getfield 26, 3) := by decide +kernel
theorem dX5_forgetBackOf_8 : decode cX5_forgetBackOf 8 = .ok (.iconst 0, 1) := by decide +kernel
theorem dX5_forgetBackOf_9 : decode cX5_forgetBackOf 9 = .ok (.putfield 138, 3) := by decide +kernel
theorem dX5_forgetBackOf_12 : decode cX5_forgetBackOf 12 = .ok (.return_, 1) := by decide +kernel
theorem dX5_sheetFault_0 : decode cX5_sheetFault 0 = .ok (.iload_n 0, 1) := by decide +kernel
theorem dX5_sheetFault_1 : decode cX5_sheetFault 1 = .ok (.ifCond .lt 8, 3) := by decide +kernel
theorem dX5_sheetFault_4 : decode cX5_sheetFault 4 = .ok (.iload_n 0, 1) := by decide +kernel
theorem dX5_sheetFault_5 : decode cX5_sheetFault 5 = .ok (.iconst 3, 1) := by decide +kernel
theorem dX5_sheetFault_6 : decode cX5_sheetFault 6 = .ok (.if_icmp .le 5, 3) := by decide +kernel
theorem dX5_sheetFault_9 : decode cX5_sheetFault 9 = .ok (.iconst 1, 1) := by decide +kernel
theorem dX5_sheetFault_10 : decode cX5_sheetFault 10 = .ok (.ireturn, 1) := by decide +kernel
theorem dX5_sheetFault_11 : decode cX5_sheetFault 11 = .ok (.iload_n 0, 1) := by decide +kernel
theorem dX5_sheetFault_12 : decode cX5_sheetFault 12 = .ok (.iconst 3, 1) := by decide +kernel
theorem dX5_sheetFault_13 : decode cX5_sheetFault 13 = .ok (.if_icmp .ne 5, 3) := by decide +kernel
theorem dX5_sheetFault_16 : decode cX5_sheetFault 16 = .ok (.iconst 0, 1) := by decide +kernel
theorem dX5_sheetFault_17 : decode cX5_sheetFault 17 = .ok (.ireturn, 1) := by decide +kernel
theorem dX5_sheetFault_18 : decode cX5_sheetFault 18 = .ok (.iload_n 1, 1) := by decide +kernel
theorem dX5_sheetFault_19 : decode cX5_sheetFault 19 = .ok (.bipush 60, 2) := by decide +kernel
theorem dX5_sheetFault_21 : decode cX5_sheetFault 21 = .ok (.if_icmp .le 5, 3) := by decide +kernel
theorem dX5_sheetFault_24 : decode cX5_sheetFault 24 = .ok (.iconst 1, 1) := by decide +kernel
theorem dX5_sheetFault_25 : decode cX5_sheetFault 25 = .ok (.ireturn, 1) := by decide +kernel
theorem dX5_sheetFault_26 : decode cX5_sheetFault 26 = .ok (.iload_n 1, 1) := by decide +kernel
theorem dX5_sheetFault_27 : decode cX5_sheetFault 27 = .ok (.ifCond .ge 7, 3) := by decide +kernel
theorem dX5_sheetFault_30 : decode cX5_sheetFault 30 = .ok (.iconst 4, 1) := by decide +kernel
theorem dX5_sheetFault_31 : decode cX5_sheetFault 31 = .ok (.goto 4, 3) := by decide +kernel
theorem dX5_sheetFault_34 : decode cX5_sheetFault 34 = .ok (.iconst 0, 1) := by decide +kernel
theorem dX5_sheetFault_35 : decode cX5_sheetFault 35 = .ok (.ireturn, 1) := by decide +kernel
theorem dX5_layFault_0 : decode cX5_layFault 0 = .ok (.iload_n 1, 1) := by decide +kernel
theorem dX5_layFault_1 : decode cX5_layFault 1 = .ok (.invokestatic 93, 3) := by decide +kernel
theorem dX5_layFault_4 : decode cX5_layFault 4 = .ok (.ifCond .ne 5, 3) := by decide +kernel
theorem dX5_layFault_7 : decode cX5_layFault 7 = .ok (.iconst 1, 1) := by decide +kernel
theorem dX5_layFault_8 : decode cX5_layFault 8 = .ok (.ireturn, 1) := by decide +kernel
theorem dX5_layFault_9 : decode cX5_layFault 9 = .ok (.aload_n 0, 1) := by decide +kernel
theorem dX5_layFault_10 : decode cX5_layFault 10 = .ok (.getfield 19, 3) := by decide +kernel
theorem dX5_layFault_13 : decode cX5_layFault 13 = .ok (.getfield 67, 3) := by decide +kernel
theorem dX5_layFault_16 : decode cX5_layFault 16 = .ok (.iconst (-1), 1) := by decide +kernel
theorem dX5_layFault_17 : decode cX5_layFault 17 = .ok (.if_icmp .ne 5, 3) := by decide +kernel
theorem dX5_layFault_20 : decode cX5_layFault 20 = .ok (.iconst 2, 1) := by decide +kernel
theorem dX5_layFault_21 : decode cX5_layFault 21 = .ok (.ireturn, 1) := by decide +kernel
theorem dX5_layFault_22 : decode cX5_layFault 22 = .ok (.iconst 0, 1) := by decide +kernel
theorem dX5_layFault_23 : decode cX5_layFault 23 = .ok (.istore_n 2, 1) := by decide +kernel
theorem dX5_layFault_24 : decode cX5_layFault 24 = .ok (.iload_n 2, 1) := by decide +kernel
theorem dX5_layFault_25 : decode cX5_layFault 25 = .ok (.aload_n 0, 1) := by decide +kernel
theorem dX5_layFault_26 : decode cX5_layFault 26 = .ok (.getfield 10, 3) := by decide +kernel
theorem dX5_layFault_29 : decode cX5_layFault 29 = .ok (.getfield 77, 3) := by decide +kernel
theorem dX5_layFault_32 : decode cX5_layFault 32 = .ok (.if_icmp .ge 26, 3) := by decide +kernel
theorem dX5_layFault_35 : decode cX5_layFault 35 = .ok (.iload_n 1, 1) := by decide +kernel
theorem dX5_layFault_36 : decode cX5_layFault 36 = .ok (.aload_n 0, 1) := by decide +kernel
theorem dX5_layFault_37 : decode cX5_layFault 37 = .ok (.getfield 19, 3) := by decide +kernel
theorem dX5_layFault_40 : decode cX5_layFault 40 = .ok (.iload_n 2, 1) := by decide +kernel
theorem dX5_layFault_41 : decode cX5_layFault 41 = .ok (.invokevirtual 80, 3) := by decide +kernel
theorem dX5_layFault_44 : decode cX5_layFault 44 = .ok (.invokestatic 99, 3) := by decide +kernel
theorem dX5_layFault_47 : decode cX5_layFault 47 = .ok (.ifCond .ne 5, 3) := by decide +kernel
theorem dX5_layFault_50 : decode cX5_layFault 50 = .ok (.iconst 1, 1) := by decide +kernel
theorem dX5_layFault_51 : decode cX5_layFault 51 = .ok (.ireturn, 1) := by decide +kernel
theorem dX5_layFault_52 : decode cX5_layFault 52 = .ok (.iinc 2 1, 3) := by decide +kernel
theorem dX5_layFault_55 : decode cX5_layFault 55 = .ok (.goto (-31), 3) := by decide +kernel
theorem dX5_layFault_58 : decode cX5_layFault 58 = .ok (.iconst 0, 1) := by decide +kernel
theorem dX5_layFault_59 : decode cX5_layFault 59 = .ok (.ireturn, 1) := by decide +kernel
theorem dX5_canFold_0 : decode cX5_canFold 0 = .ok (.iload_n 1, 1) := by decide +kernel
theorem dX5_canFold_1 : decode cX5_canFold 1 = .ok (.iconst 1, 1) := by decide +kernel
theorem dX5_canFold_2 : decode cX5_canFold 2 = .ok (.if_icmp .lt 61, 3) := by decide +kernel
theorem dX5_canFold_5 : decode cX5_canFold 5 = .ok (.iload_n 2, 1) := by decide +kernel
theorem dX5_canFold_6 : decode cX5_canFold 6 = .ok (.iconst 1, 1) := by decide +kernel
theorem dX5_canFold_7 : decode cX5_canFold 7 = .ok (.if_icmp .lt 56, 3) := by decide +kernel
theorem dX5_canFold_10 : decode cX5_canFold 10 = .ok (.iload_n 1, 1) := by decide +kernel
theorem dX5_canFold_11 : decode cX5_canFold 11 = .ok (.i2l, 1) := by decide +kernel
theorem dX5_canFold_12 : decode cX5_canFold 12 = .ok (.iload_n 2, 1) := by decide +kernel
theorem dX5_canFold_13 : decode cX5_canFold 13 = .ok (.i2l, 1) := by decide +kernel
theorem dX5_canFold_14 : decode cX5_canFold 14 = .ok (.lmul, 1) := by decide +kernel
theorem dX5_canFold_15 : decode cX5_canFold 15 = .ok (.aload_n 0, 1) := by decide +kernel
theorem dX5_canFold_16 : decode cX5_canFold 16 = .ok (.getfield 10, 3) := by decide +kernel
theorem dX5_canFold_19 : decode cX5_canFold 19 = .ok (.getfield 77, 3) := by decide +kernel
theorem dX5_canFold_22 : decode cX5_canFold 22 = .ok (.i2l, 1) := by decide +kernel
theorem dX5_canFold_23 : decode cX5_canFold 23 = .ok (.lcmp, 1) := by decide +kernel
theorem dX5_canFold_24 : decode cX5_canFold 24 = .ok (.ifCond .ne 39, 3) := by decide +kernel
theorem dX5_canFold_27 : decode cX5_canFold 27 = .ok (.iload_n 1, 1) := by decide +kernel
theorem dX5_canFold_28 : decode cX5_canFold 28 = .ok (.i2l, 1) := by decide +kernel
theorem dX5_canFold_29 : decode cX5_canFold 29 = .ok (.iload_n 2, 1) := by decide +kernel
theorem dX5_canFold_30 : decode cX5_canFold 30 = .ok (.i2l, 1) := by decide +kernel
theorem dX5_canFold_31 : decode cX5_canFold 31 = .ok (.invokestatic 230, 3) := by decide +kernel
theorem dX5_canFold_34 : decode cX5_canFold 34 = .ok (.lconst 1, 1) := by decide +kernel
theorem dX5_canFold_35 : decode cX5_canFold 35 = .ok (.lcmp, 1) := by decide +kernel
theorem dX5_canFold_36 : decode cX5_canFold 36 = .ok (.ifCond .ne 27, 3) := by decide +kernel
theorem dX5_canFold_39 : decode cX5_canFold 39 = .ok (.iload_n 3, 1) := by decide +kernel
theorem dX5_canFold_40 : decode cX5_canFold 40 = .ok (.ifCond .lt 23, 3) := by decide +kernel
theorem dX5_canFold_43 : decode cX5_canFold 43 = .ok (.iload_n 3, 1) := by decide +kernel
theorem dX5_canFold_44 : decode cX5_canFold 44 = .ok (.iload_n 1, 1) := by decide +kernel
theorem dX5_canFold_45 : decode cX5_canFold 45 = .ok (.if_icmp .ge 18, 3) := by decide +kernel
theorem dX5_canFold_48 : decode cX5_canFold 48 = .ok (.iload 4, 2) := by decide +kernel
theorem dX5_canFold_50 : decode cX5_canFold 50 = .ok (.ifCond .lt 13, 3) := by decide +kernel
theorem dX5_canFold_53 : decode cX5_canFold 53 = .ok (.iload 4, 2) := by decide +kernel
theorem dX5_canFold_55 : decode cX5_canFold 55 = .ok (.iload_n 2, 1) := by decide +kernel
theorem dX5_canFold_56 : decode cX5_canFold 56 = .ok (.if_icmp .ge 7, 3) := by decide +kernel
theorem dX5_canFold_59 : decode cX5_canFold 59 = .ok (.iconst 1, 1) := by decide +kernel
theorem dX5_canFold_60 : decode cX5_canFold 60 = .ok (.goto 4, 3) := by decide +kernel
theorem dX5_canFold_63 : decode cX5_canFold 63 = .ok (.iconst 0, 1) := by decide +kernel
theorem dX5_canFold_64 : decode cX5_canFold 64 = .ok (.ireturn, 1) := by decide +kernel
theorem dX5_smallRingFault_0 : decode cX5_smallRingFault 0 = .ok (.aload_n 0, 1) := by decide +kernel
theorem dX5_smallRingFault_1 : decode cX5_smallRingFault 1 = .ok (.getfield 10, 3) := by decide +kernel
theorem dX5_smallRingFault_4 : decode cX5_smallRingFault 4 = .ok (.getfield 77, 3) := by decide +kernel
theorem dX5_smallRingFault_7 : decode cX5_smallRingFault 7 = .ok (.bipush 14, 2) := by decide +kernel
theorem dX5_smallRingFault_9 : decode cX5_smallRingFault 9 = .ok (.if_icmp .le 7, 3) := by decide +kernel
theorem dX5_smallRingFault_12 : decode cX5_smallRingFault 12 = .ok (.iconst 1, 1) := by decide +kernel
theorem dX5_smallRingFault_13 : decode cX5_smallRingFault 13 = .ok (.goto 4, 3) := by decide +kernel
theorem dX5_smallRingFault_16 : decode cX5_smallRingFault 16 = .ok (.iconst 0, 1) := by decide +kernel
theorem dX5_smallRingFault_17 : decode cX5_smallRingFault 17 = .ok (.ireturn, 1) := by decide +kernel
theorem dX5_rowsFault_0 : decode cX5_rowsFault 0 = .ok (.aload_n 0, 1) := by decide +kernel
theorem dX5_rowsFault_1 : decode cX5_rowsFault 1 = .ok (.getfield 40, 3) := by decide +kernel
theorem dX5_rowsFault_4 : decode cX5_rowsFault 4 = .ok (.getfield 123, 3) := by decide +kernel
theorem dX5_rowsFault_7 : decode cX5_rowsFault 7 = .ok (.ifCond .ne 5, 3) := by decide +kernel
theorem dX5_rowsFault_10 : decode cX5_rowsFault 10 = .ok (.iconst 2, 1) := by decide +kernel
theorem dX5_rowsFault_11 : decode cX5_rowsFault 11 = .ok (.ireturn, 1) := by decide +kernel
theorem dX5_rowsFault_12 : decode cX5_rowsFault 12 = .ok (.aload_n 0, 1) := by decide +kernel
theorem dX5_rowsFault_13 : decode cX5_rowsFault 13 = .ok (.getfield 40, 3) := by decide +kernel
theorem dX5_rowsFault_16 : decode cX5_rowsFault 16 = .ok (.iload_n 1, 1) := by decide +kernel
theorem dX5_rowsFault_17 : decode cX5_rowsFault 17 = .ok (.invokevirtual 215, 3) := by decide +kernel
theorem dX5_rowsFault_20 : decode cX5_rowsFault 20 = .ok (.ifCond .eq 18, 3) := by decide +kernel
theorem dX5_rowsFault_23 : decode cX5_rowsFault 23 = .ok (.aload_n 0, 1) := by decide +kernel
theorem dX5_rowsFault_24 : decode cX5_rowsFault 24 = .ok (.getfield 40, 3) := by decide +kernel
theorem dX5_rowsFault_27 : decode cX5_rowsFault 27 = .ok (.iload_n 2, 1) := by decide +kernel
theorem dX5_rowsFault_28 : decode cX5_rowsFault 28 = .ok (.invokevirtual 215, 3) := by decide +kernel
theorem dX5_rowsFault_31 : decode cX5_rowsFault 31 = .ok (.ifCond .eq 7, 3) := by decide +kernel
theorem dX5_rowsFault_34 : decode cX5_rowsFault 34 = .ok (.iconst 0, 1) := by decide +kernel
theorem dX5_rowsFault_35 : decode cX5_rowsFault 35 = .ok (.goto 4, 3) := by decide +kernel
theorem dX5_rowsFault_38 : decode cX5_rowsFault 38 = .ok (.iconst 1, 1) := by decide +kernel
theorem dX5_rowsFault_39 : decode cX5_rowsFault 39 = .ok (.ireturn, 1) := by decide +kernel
theorem dX5_isPrime_0 : decode cX5_isPrime 0 = .ok (.iconst 2, 1) := by decide +kernel
theorem dX5_isPrime_1 : decode cX5_isPrime 1 = .ok (.istore_n 1, 1) := by decide +kernel
theorem dX5_isPrime_2 : decode cX5_isPrime 2 = .ok (.iload_n 1, 1) := by decide +kernel
theorem dX5_isPrime_3 : decode cX5_isPrime 3 = .ok (.iload_n 0, 1) := by decide +kernel
theorem dX5_isPrime_4 : decode cX5_isPrime 4 = .ok (.if_icmp .ge 17, 3) := by decide +kernel
theorem dX5_isPrime_7 : decode cX5_isPrime 7 = .ok (.iload_n 0, 1) := by decide +kernel
theorem dX5_isPrime_8 : decode cX5_isPrime 8 = .ok (.iload_n 1, 1) := by decide +kernel
theorem dX5_isPrime_9 : decode cX5_isPrime 9 = .ok (.irem, 1) := by decide +kernel
theorem dX5_isPrime_10 : decode cX5_isPrime 10 = .ok (.ifCond .ne 5, 3) := by decide +kernel
theorem dX5_isPrime_13 : decode cX5_isPrime 13 = .ok (.iconst 0, 1) := by decide +kernel
theorem dX5_isPrime_14 : decode cX5_isPrime 14 = .ok (.ireturn, 1) := by decide +kernel
theorem dX5_isPrime_15 : decode cX5_isPrime 15 = .ok (.iinc 1 1, 3) := by decide +kernel
theorem dX5_isPrime_18 : decode cX5_isPrime 18 = .ok (.goto (-16), 3) := by decide +kernel
theorem dX5_isPrime_21 : decode cX5_isPrime 21 = .ok (.iload_n 0, 1) := by decide +kernel
theorem dX5_isPrime_22 : decode cX5_isPrime 22 = .ok (.iconst 2, 1) := by decide +kernel
theorem dX5_isPrime_23 : decode cX5_isPrime 23 = .ok (.if_icmp .lt 7, 3) := by decide +kernel
theorem dX5_isPrime_26 : decode cX5_isPrime 26 = .ok (.iconst 1, 1) := by decide +kernel
theorem dX5_isPrime_27 : decode cX5_isPrime 27 = .ok (.goto 4, 3) := by decide +kernel
theorem dX5_isPrime_30 : decode cX5_isPrime 30 = .ok (.iconst 0, 1) := by decide +kernel
theorem dX5_isPrime_31 : decode cX5_isPrime 31 = .ok (.ireturn, 1) := by decide +kernel
theorem dX5_isRestPrime_0 : decode cX5_isRestPrime 0 = .ok (.iload_n 0, 1) := by decide +kernel
theorem dX5_isRestPrime_1 : decode cX5_isRestPrime 1 = .ok (.iconst 3, 1) := by decide +kernel
theorem dX5_isRestPrime_2 : decode cX5_isRestPrime 2 = .ok (.if_icmp .lt 27, 3) := by decide +kernel
theorem dX5_isRestPrime_5 : decode cX5_isRestPrime 5 = .ok (.iload_n 0, 1) := by decide +kernel
theorem dX5_isRestPrime_6 : decode cX5_isRestPrime 6 = .ok (.bipush 60, 2) := by decide +kernel
theorem dX5_isRestPrime_8 : decode cX5_isRestPrime 8 = .ok (.if_icmp .ge 21, 3) := by decide +kernel
theorem dX5_isRestPrime_11 : decode cX5_isRestPrime 11 = .ok (.iload_n 0, 1) := by decide +kernel
theorem dX5_isRestPrime_12 : decode cX5_isRestPrime 12 = .ok (.iconst 4, 1) := by decide +kernel
theorem dX5_isRestPrime_13 : decode cX5_isRestPrime 13 = .ok (.irem, 1) := by decide +kernel
theorem dX5_isRestPrime_14 : decode cX5_isRestPrime 14 = .ok (.iconst 3, 1) := by decide +kernel
theorem dX5_isRestPrime_15 : decode cX5_isRestPrime 15 = .ok (.if_icmp .ne 14, 3) := by decide +kernel
theorem dX5_isRestPrime_18 : decode cX5_isRestPrime 18 = .ok (.iload_n 0, 1) := by decide +kernel
theorem dX5_isRestPrime_19 : decode cX5_isRestPrime 19 = .ok (.invokestatic 234, 3) := by decide +kernel
theorem dX5_isRestPrime_22 : decode cX5_isRestPrime 22 = .ok (.ifCond .eq 7, 3) := by decide +kernel
theorem dX5_isRestPrime_25 : decode cX5_isRestPrime 25 = .ok (.iconst 1, 1) := by decide +kernel
theorem dX5_isRestPrime_26 : decode cX5_isRestPrime 26 = .ok (.goto 4, 3) := by decide +kernel
theorem dX5_isRestPrime_29 : decode cX5_isRestPrime 29 = .ok (.iconst 0, 1) := by decide +kernel
theorem dX5_isRestPrime_30 : decode cX5_isRestPrime 30 = .ok (.ireturn, 1) := by decide +kernel
theorem dX5_isTwinPrime_0 : decode cX5_isTwinPrime 0 = .ok (.iload_n 0, 1) := by decide +kernel
theorem dX5_isTwinPrime_1 : decode cX5_isTwinPrime 1 = .ok (.iconst 2, 1) := by decide +kernel
theorem dX5_isTwinPrime_2 : decode cX5_isTwinPrime 2 = .ok (.if_icmp .lt 39, 3) := by decide +kernel
theorem dX5_isTwinPrime_5 : decode cX5_isTwinPrime 5 = .ok (.iload_n 0, 1) := by decide +kernel
theorem dX5_isTwinPrime_6 : decode cX5_isTwinPrime 6 = .ok (.bipush 60, 2) := by decide +kernel
theorem dX5_isTwinPrime_8 : decode cX5_isTwinPrime 8 = .ok (.if_icmp .ge 33, 3) := by decide +kernel
theorem dX5_isTwinPrime_11 : decode cX5_isTwinPrime 11 = .ok (.iload_n 0, 1) := by decide +kernel
theorem dX5_isTwinPrime_12 : decode cX5_isTwinPrime 12 = .ok (.iload_n 0, 1) := by decide +kernel
theorem dX5_isTwinPrime_13 : decode cX5_isTwinPrime 13 = .ok (.iconst 2, 1) := by decide +kernel
theorem dX5_isTwinPrime_14 : decode cX5_isTwinPrime 14 = .ok (.iadd, 1) := by decide +kernel
theorem dX5_isTwinPrime_15 : decode cX5_isTwinPrime 15 = .ok (.imul, 1) := by decide +kernel
theorem dX5_isTwinPrime_16 : decode cX5_isTwinPrime 16 = .ok (.bipush 60, 2) := by decide +kernel
theorem dX5_isTwinPrime_18 : decode cX5_isTwinPrime 18 = .ok (.if_icmp .gt 23, 3) := by decide +kernel
theorem dX5_isTwinPrime_21 : decode cX5_isTwinPrime 21 = .ok (.iload_n 0, 1) := by decide +kernel
theorem dX5_isTwinPrime_22 : decode cX5_isTwinPrime 22 = .ok (.invokestatic 234, 3) := by decide +kernel
theorem dX5_isTwinPrime_25 : decode cX5_isTwinPrime 25 = .ok (.ifCond .eq 16, 3) := by decide +kernel
theorem dX5_isTwinPrime_28 : decode cX5_isTwinPrime 28 = .ok (.iload_n 0, 1) := by decide +kernel
theorem dX5_isTwinPrime_29 : decode cX5_isTwinPrime 29 = .ok (.iconst 2, 1) := by decide +kernel
theorem dX5_isTwinPrime_30 : decode cX5_isTwinPrime 30 = .ok (.iadd, 1) := by decide +kernel
theorem dX5_isTwinPrime_31 : decode cX5_isTwinPrime 31 = .ok (.invokestatic 234, 3) := by decide +kernel
theorem dX5_isTwinPrime_34 : decode cX5_isTwinPrime 34 = .ok (.ifCond .eq 7, 3) := by decide +kernel
theorem dX5_isTwinPrime_37 : decode cX5_isTwinPrime 37 = .ok (.iconst 1, 1) := by decide +kernel
theorem dX5_isTwinPrime_38 : decode cX5_isTwinPrime 38 = .ok (.goto 4, 3) := by decide +kernel
theorem dX5_isTwinPrime_41 : decode cX5_isTwinPrime 41 = .ok (.iconst 0, 1) := by decide +kernel
theorem dX5_isTwinPrime_42 : decode cX5_isTwinPrime 42 = .ok (.ireturn, 1) := by decide +kernel
theorem dX5_isSquare_0 : decode cX5_isSquare 0 = .ok (.iconst 1, 1) := by decide +kernel
theorem dX5_isSquare_1 : decode cX5_isSquare 1 = .ok (.istore_n 2, 1) := by decide +kernel
theorem dX5_isSquare_2 : decode cX5_isSquare 2 = .ok (.iload_n 2, 1) := by decide +kernel
theorem dX5_isSquare_3 : decode cX5_isSquare 3 = .ok (.iload_n 1, 1) := by decide +kernel
theorem dX5_isSquare_4 : decode cX5_isSquare 4 = .ok (.if_icmp .ge 31, 3) := by decide +kernel
theorem dX5_isSquare_7 : decode cX5_isSquare 7 = .ok (.iload_n 2, 1) := by decide +kernel
theorem dX5_isSquare_8 : decode cX5_isSquare 8 = .ok (.iload_n 2, 1) := by decide +kernel
theorem dX5_isSquare_9 : decode cX5_isSquare 9 = .ok (.imul, 1) := by decide +kernel
theorem dX5_isSquare_10 : decode cX5_isSquare 10 = .ok (.iload_n 0, 1) := by decide +kernel
theorem dX5_isSquare_11 : decode cX5_isSquare 11 = .ok (.isub, 1) := by decide +kernel
theorem dX5_isSquare_12 : decode cX5_isSquare 12 = .ok (.iload_n 1, 1) := by decide +kernel
theorem dX5_isSquare_13 : decode cX5_isSquare 13 = .ok (.irem, 1) := by decide +kernel
theorem dX5_isSquare_14 : decode cX5_isSquare 14 = .ok (.ifCond .ne 15, 3) := by decide +kernel
theorem dX5_isSquare_17 : decode cX5_isSquare 17 = .ok (.iload_n 0, 1) := by decide +kernel
theorem dX5_isSquare_18 : decode cX5_isSquare 18 = .ok (.iload_n 1, 1) := by decide +kernel
theorem dX5_isSquare_19 : decode cX5_isSquare 19 = .ok (.irem, 1) := by decide +kernel
theorem dX5_isSquare_20 : decode cX5_isSquare 20 = .ok (.ifCond .eq 7, 3) := by decide +kernel
theorem dX5_isSquare_23 : decode cX5_isSquare 23 = .ok (.iconst 1, 1) := by decide +kernel
theorem dX5_isSquare_24 : decode cX5_isSquare 24 = .ok (.goto 4, 3) := by decide +kernel
theorem dX5_isSquare_27 : decode cX5_isSquare 27 = .ok (.iconst 0, 1) := by decide +kernel
theorem dX5_isSquare_28 : decode cX5_isSquare 28 = .ok (.ireturn, 1) := by decide +kernel
theorem dX5_isSquare_29 : decode cX5_isSquare 29 = .ok (.iinc 2 1, 3) := by decide +kernel
theorem dX5_isSquare_32 : decode cX5_isSquare 32 = .ok (.goto (-30), 3) := by decide +kernel
theorem dX5_isSquare_35 : decode cX5_isSquare 35 = .ok (.iconst 0, 1) := by decide +kernel
theorem dX5_isSquare_36 : decode cX5_isSquare 36 = .ok (.ireturn, 1) := by decide +kernel
theorem dX5_nextState_0 : decode cX5_nextState 0 = .ok (.iload_n 0, 1) := by decide +kernel
theorem dX5_nextState_1 : decode cX5_nextState 1 = .ok (.iload_n 1, 1) := by decide +kernel
theorem dX5_nextState_2 : decode cX5_nextState 2 = .ok (.iand, 1) := by decide +kernel
theorem dX5_nextState_3 : decode cX5_nextState 3 = .ok (.invokestatic 237, 3) := by decide +kernel
theorem dX5_nextState_6 : decode cX5_nextState 6 = .ok (.iconst 1, 1) := by decide +kernel
theorem dX5_nextState_7 : decode cX5_nextState 7 = .ok (.iand, 1) := by decide +kernel
theorem dX5_nextState_8 : decode cX5_nextState 8 = .ok (.istore_n 3, 1) := by decide +kernel
theorem dX5_nextState_9 : decode cX5_nextState 9 = .ok (.iload_n 0, 1) := by decide +kernel
theorem dX5_nextState_10 : decode cX5_nextState 10 = .ok (.iconst 1, 1) := by decide +kernel
theorem dX5_nextState_11 : decode cX5_nextState 11 = .ok (.ishr, 1) := by decide +kernel
theorem dX5_nextState_12 : decode cX5_nextState 12 = .ok (.iload_n 3, 1) := by decide +kernel
theorem dX5_nextState_13 : decode cX5_nextState 13 = .ok (.iload_n 2, 1) := by decide +kernel
theorem dX5_nextState_14 : decode cX5_nextState 14 = .ok (.iconst 1, 1) := by decide +kernel
theorem dX5_nextState_15 : decode cX5_nextState 15 = .ok (.isub, 1) := by decide +kernel
theorem dX5_nextState_16 : decode cX5_nextState 16 = .ok (.ishl, 1) := by decide +kernel
theorem dX5_nextState_17 : decode cX5_nextState 17 = .ok (.ior, 1) := by decide +kernel
theorem dX5_nextState_18 : decode cX5_nextState 18 = .ok (.ireturn, 1) := by decide +kernel
theorem dX5_leastTaps_0 : decode cX5_leastTaps 0 = .ok (.iconst 1, 1) := by decide +kernel
theorem dX5_leastTaps_1 : decode cX5_leastTaps 1 = .ok (.istore_n 2, 1) := by decide +kernel
theorem dX5_leastTaps_2 : decode cX5_leastTaps 2 = .ok (.iload_n 2, 1) := by decide +kernel
theorem dX5_leastTaps_3 : decode cX5_leastTaps 3 = .ok (.iload_n 1, 1) := by decide +kernel
theorem dX5_leastTaps_4 : decode cX5_leastTaps 4 = .ok (.if_icmp .gt 21, 3) := by decide +kernel
theorem dX5_leastTaps_7 : decode cX5_leastTaps 7 = .ok (.iload_n 2, 1) := by decide +kernel
theorem dX5_leastTaps_8 : decode cX5_leastTaps 8 = .ok (.iload_n 0, 1) := by decide +kernel
theorem dX5_leastTaps_9 : decode cX5_leastTaps 9 = .ok (.iload_n 1, 1) := by decide +kernel
theorem dX5_leastTaps_10 : decode cX5_leastTaps 10 = .ok (.invokestatic 242, 3) := by decide +kernel
theorem dX5_leastTaps_13 : decode cX5_leastTaps 13 = .ok (.iload_n 1, 1) := by decide +kernel
theorem dX5_leastTaps_14 : decode cX5_leastTaps 14 = .ok (.if_icmp .ne 5, 3) := by decide +kernel
theorem dX5_leastTaps_17 : decode cX5_leastTaps 17 = .ok (.iload_n 2, 1) := by decide +kernel
theorem dX5_leastTaps_18 : decode cX5_leastTaps 18 = .ok (.ireturn, 1) := by decide +kernel
theorem dX5_leastTaps_19 : decode cX5_leastTaps 19 = .ok (.iinc 2 2, 3) := by decide +kernel
theorem dX5_leastTaps_22 : decode cX5_leastTaps 22 = .ok (.goto (-20), 3) := by decide +kernel
theorem dX5_leastTaps_25 : decode cX5_leastTaps 25 = .ok (.iconst (-1), 1) := by decide +kernel
theorem dX5_leastTaps_26 : decode cX5_leastTaps 26 = .ok (.ireturn, 1) := by decide +kernel
theorem dX5_stepsRound_0 : decode cX5_stepsRound 0 = .ok (.iconst 1, 1) := by decide +kernel
theorem dX5_stepsRound_1 : decode cX5_stepsRound 1 = .ok (.iload_n 1, 1) := by decide +kernel
theorem dX5_stepsRound_2 : decode cX5_stepsRound 2 = .ok (.iconst 1, 1) := by decide +kernel
theorem dX5_stepsRound_3 : decode cX5_stepsRound 3 = .ok (.isub, 1) := by decide +kernel
theorem dX5_stepsRound_4 : decode cX5_stepsRound 4 = .ok (.ishl, 1) := by decide +kernel
theorem dX5_stepsRound_5 : decode cX5_stepsRound 5 = .ok (.istore_n 3, 1) := by decide +kernel
theorem dX5_stepsRound_6 : decode cX5_stepsRound 6 = .ok (.iload_n 3, 1) := by decide +kernel
theorem dX5_stepsRound_7 : decode cX5_stepsRound 7 = .ok (.istore 4, 2) := by decide +kernel
theorem dX5_stepsRound_9 : decode cX5_stepsRound 9 = .ok (.iconst 1, 1) := by decide +kernel
theorem dX5_stepsRound_10 : decode cX5_stepsRound 10 = .ok (.istore 5, 2) := by decide +kernel
theorem dX5_stepsRound_12 : decode cX5_stepsRound 12 = .ok (.iload 5, 2) := by decide +kernel
theorem dX5_stepsRound_14 : decode cX5_stepsRound 14 = .ok (.iload_n 2, 1) := by decide +kernel
theorem dX5_stepsRound_15 : decode cX5_stepsRound 15 = .ok (.if_icmp .gt 27, 3) := by decide +kernel
theorem dX5_stepsRound_18 : decode cX5_stepsRound 18 = .ok (.iload 4, 2) := by decide +kernel
theorem dX5_stepsRound_20 : decode cX5_stepsRound 20 = .ok (.iload_n 0, 1) := by decide +kernel
theorem dX5_stepsRound_21 : decode cX5_stepsRound 21 = .ok (.iload_n 1, 1) := by decide +kernel
theorem dX5_stepsRound_22 : decode cX5_stepsRound 22 = .ok (.invokestatic 158, 3) := by decide +kernel
theorem dX5_stepsRound_25 : decode cX5_stepsRound 25 = .ok (.istore 4, 2) := by decide +kernel
theorem dX5_stepsRound_27 : decode cX5_stepsRound 27 = .ok (.iload 4, 2) := by decide +kernel
theorem dX5_stepsRound_29 : decode cX5_stepsRound 29 = .ok (.iload_n 3, 1) := by decide +kernel
theorem dX5_stepsRound_30 : decode cX5_stepsRound 30 = .ok (.if_icmp .ne 6, 3) := by decide +kernel
theorem dX5_stepsRound_33 : decode cX5_stepsRound 33 = .ok (.iload 5, 2) := by decide +kernel
theorem dX5_stepsRound_35 : decode cX5_stepsRound 35 = .ok (.ireturn, 1) := by decide +kernel
theorem dX5_stepsRound_36 : decode cX5_stepsRound 36 = .ok (.iinc 5 1, 3) := by decide +kernel
theorem dX5_stepsRound_39 : decode cX5_stepsRound 39 = .ok (.goto (-27), 3) := by decide +kernel
theorem dX5_stepsRound_42 : decode cX5_stepsRound 42 = .ok (.iconst (-1), 1) := by decide +kernel
theorem dX5_stepsRound_43 : decode cX5_stepsRound 43 = .ok (.ireturn, 1) := by decide +kernel
theorem dX5_commonDivisor_0 : decode cX5_commonDivisor 0 = .ok (.lload_n 0, 1) := by decide +kernel
theorem dX5_commonDivisor_1 : decode cX5_commonDivisor 1 = .ok (.invokestatic 245, 3) := by decide +kernel
theorem dX5_commonDivisor_4 : decode cX5_commonDivisor 4 = .ok (.lstore 4, 2) := by decide +kernel
theorem dX5_commonDivisor_6 : decode cX5_commonDivisor 6 = .ok (.lload_n 2, 1) := by decide +kernel
theorem dX5_commonDivisor_7 : decode cX5_commonDivisor 7 = .ok (.invokestatic 245, 3) := by decide +kernel
theorem dX5_commonDivisor_10 : decode cX5_commonDivisor 10 = .ok (.lstore 6, 2) := by decide +kernel
theorem dX5_commonDivisor_12 : decode cX5_commonDivisor 12 = .ok (.iconst 0, 1) := by decide +kernel
theorem dX5_commonDivisor_13 : decode cX5_commonDivisor 13 = .ok (.istore 8, 2) := by decide +kernel
theorem dX5_commonDivisor_15 : decode cX5_commonDivisor 15 = .ok (.iload 8, 2) := by decide +kernel
theorem dX5_commonDivisor_17 : decode cX5_commonDivisor 17 = .ok (.bipush 100, 2) := by decide +kernel
theorem dX5_commonDivisor_19 : decode cX5_commonDivisor 19 = .ok (.if_icmp .ge 31, 3) := by decide +kernel
theorem dX5_commonDivisor_22 : decode cX5_commonDivisor 22 = .ok (.lload 6, 2) := by decide +kernel
theorem dX5_commonDivisor_24 : decode cX5_commonDivisor 24 = .ok (.lconst 0, 1) := by decide +kernel
theorem dX5_commonDivisor_25 : decode cX5_commonDivisor 25 = .ok (.lcmp, 1) := by decide +kernel
theorem dX5_commonDivisor_26 : decode cX5_commonDivisor 26 = .ok (.ifCond .eq 24, 3) := by decide +kernel
theorem dX5_commonDivisor_29 : decode cX5_commonDivisor 29 = .ok (.lload 4, 2) := by decide +kernel
theorem dX5_commonDivisor_31 : decode cX5_commonDivisor 31 = .ok (.lload 6, 2) := by decide +kernel
theorem dX5_commonDivisor_33 : decode cX5_commonDivisor 33 = .ok (.lrem, 1) := by decide +kernel
theorem dX5_commonDivisor_34 : decode cX5_commonDivisor 34 = .ok (.lstore 9, 2) := by decide +kernel
theorem dX5_commonDivisor_36 : decode cX5_commonDivisor 36 = .ok (.lload 6, 2) := by decide +kernel
theorem dX5_commonDivisor_38 : decode cX5_commonDivisor 38 = .ok (.lstore 4, 2) := by decide +kernel
theorem dX5_commonDivisor_40 : decode cX5_commonDivisor 40 = .ok (.lload 9, 2) := by decide +kernel
theorem dX5_commonDivisor_42 : decode cX5_commonDivisor 42 = .ok (.lstore 6, 2) := by decide +kernel
theorem dX5_commonDivisor_44 : decode cX5_commonDivisor 44 = .ok (.iinc 8 1, 3) := by decide +kernel
theorem dX5_commonDivisor_47 : decode cX5_commonDivisor 47 = .ok (.goto (-32), 3) := by decide +kernel
theorem dX5_commonDivisor_50 : decode cX5_commonDivisor 50 = .ok (.lload 4, 2) := by decide +kernel
theorem dX5_commonDivisor_52 : decode cX5_commonDivisor 52 = .ok (.lreturn, 1) := by decide +kernel
theorem dX5_quotient_0 : decode cX5_quotient 0 = .ok (.lload_n 2, 1) := by decide +kernel
theorem dX5_quotient_1 : decode cX5_quotient 1 = .ok (.lconst 0, 1) := by decide +kernel
theorem dX5_quotient_2 : decode cX5_quotient 2 = .ok (.lcmp, 1) := by decide +kernel
theorem dX5_quotient_3 : decode cX5_quotient 3 = .ok (.ifCond .ne 7, 3) := by decide +kernel
theorem dX5_quotient_6 : decode cX5_quotient 6 = .ok (.lconst 0, 1) := by decide +kernel
theorem dX5_quotient_7 : decode cX5_quotient 7 = .ok (.goto 6, 3) := by decide +kernel
theorem dX5_quotient_10 : decode cX5_quotient 10 = .ok (.lload_n 0, 1) := by decide +kernel
theorem dX5_quotient_11 : decode cX5_quotient 11 = .ok (.lload_n 2, 1) := by decide +kernel
theorem dX5_quotient_12 : decode cX5_quotient 12 = .ok (.ldiv, 1) := by decide +kernel
theorem dX5_quotient_13 : decode cX5_quotient 13 = .ok (.lreturn, 1) := by decide +kernel
