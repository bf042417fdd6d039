theorem dX1_init_0 : decode cX1_init 0 = .ok (.aload_n 0, 1) := by decide +kernel
theorem dX1_init_1 : decode cX1_init 1 = .ok (.invokespecial 1, 3) := by decide +kernel
theorem dX1_init_4 : decode cX1_init 4 = .ok (.aload_n 0, 1) := by decide +kernel
theorem dX1_init_5 : decode cX1_init 5 = .ok (.iconst 0, 1) := by decide +kernel
theorem dX1_init_6 : decode cX1_init 6 = .ok (.iload_n 1, 1) := by decide +kernel
theorem dX1_init_7 : decode cX1_init 7 = .ok (.ldc 9, 2) := by decide +kernel
theorem dX1_init_9 : decode cX1_init 9 = .ok (.invokestatic 10, 3) := by decide +kernel
theorem dX1_init_12 : decode cX1_init 12 = .ok (.invokestatic 16, 3) := by decide +kernel
theorem dX1_init_15 : decode cX1_init 15 = .ok (.putfield 19, 3) := by decide +kernel
theorem dX1_init_18 : decode cX1_init 18 = .ok (.aload_n 0, 1) := by decide +kernel
theorem dX1_init_19 : decode cX1_init 19 = .ok (.new 23, 3) := by decide +kernel
theorem dX1_init_22 : decode cX1_init 22 = .ok (.dup, 1) := by decide +kernel
theorem dX1_init_23 : decode cX1_init 23 = .ok (.aload_n 0, 1) := by decide +kernel
theorem dX1_init_24 : decode cX1_init 24 = .ok (.getfield 19, 3) := by decide +kernel
theorem dX1_init_27 : decode cX1_init 27 = .ok (.sipush 512, 3) := by decide +kernel
theorem dX1_init_30 : decode cX1_init 30 = .ok (.invokestatic 10, 3) := by decide +kernel
theorem dX1_init_33 : decode cX1_init 33 = .ok (.invokespecial 25, 3) := by decide +kernel
theorem dX1_init_36 : decode cX1_init 36 = .ok (.putfield 28, 3) := by decide +kernel
theorem dX1_init_39 : decode cX1_init 39 = .ok (.aload_n 0, 1) := by decide +kernel
theorem dX1_init_40 : decode cX1_init 40 = .ok (.iconst 0, 1) := by decide +kernel
theorem dX1_init_41 : decode cX1_init 41 = .ok (.putfield 32, 3) := by decide +kernel
theorem dX1_init_44 : decode cX1_init 44 = .ok (.aload_n 0, 1) := by decide +kernel
theorem dX1_init_45 : decode cX1_init 45 = .ok (.iconst (-1), 1) := by decide +kernel
theorem dX1_init_46 : decode cX1_init 46 = .ok (.putfield 36, 3) := by decide +kernel
theorem dX1_init_49 : decode cX1_init 49 = .ok (.aload_n 0, 1) := by decide +kernel
theorem dX1_init_50 : decode cX1_init 50 = .ok (.iconst 0, 1) := by decide +kernel
theorem dX1_init_51 : decode cX1_init 51 = .ok (.putfield 39, 3) := by decide +kernel
theorem dX1_init_54 : decode cX1_init 54 = .ok (.aload_n 0, 1) := by decide +kernel
theorem dX1_init_55 : decode cX1_init 55 = .ok (.iconst 0, 1) := by decide +kernel
theorem dX1_init_56 : decode cX1_init 56 = .ok (.putfield 42, 3) := by decide +kernel
theorem dX1_init_59 : decode cX1_init 59 = .ok (.aload_n 0, 1) := by decide +kernel
theorem dX1_init_60 : decode cX1_init 60 = .ok (.iconst 0, 1) := by decide +kernel
theorem dX1_init_61 : decode cX1_init 61 = .ok (.putfield 45, 3) := by decide +kernel
theorem dX1_init_64 : decode cX1_init 64 = .ok (.aload_n 0, 1) := by decide +kernel
theorem dX1_init_65 : decode cX1_init 65 = .ok (.lconst 0, 1) := by decide +kernel
theorem dX1_init_66 : decode cX1_init 66 = .ok (.putfield 48, 3) := by decide +kernel
theorem dX1_init_69 : decode cX1_init 69 = .ok (.aload_n 0, 1) := by decide +kernel
theorem dX1_init_70 : decode cX1_init 70 = .ok (.bipush 9, 2) := by decide +kernel
theorem dX1_init_72 : decode cX1_init 72 = .ok (.putfield 52, 3) := by decide +kernel
theorem dX1_init_75 : decode cX1_init 75 = .ok (.return_, 1) := by decide +kernel
theorem dX1_open_0 : decode cX1_open 0 = .ok (.iload_n 1, 1) := by decide +kernel
theorem dX1_open_1 : decode cX1_open 1 = .ok (.ifCond .lt 8, 3) := by decide +kernel
theorem dX1_open_4 : decode cX1_open 4 = .ok (.iload_n 1, 1) := by decide +kernel
theorem dX1_open_5 : decode cX1_open 5 = .ok (.iconst 4, 1) := by decide +kernel
theorem dX1_open_6 : decode cX1_open 6 = .ok (.if_icmp .le 5, 3) := by decide +kernel
theorem dX1_open_9 : decode cX1_open 9 = .ok (.iconst (-1), 1) := by decide +kernel
theorem dX1_open_10 : decode cX1_open 10 = .ok (.ireturn, 1) := by decide +kernel
theorem dX1_open_11 : decode cX1_open 11 = .ok (.iload_n 1, 1) := by decide +kernel
theorem dX1_open_12 : decode cX1_open 12 = .ok (.iconst 4, 1) := by decide +kernel
theorem dX1_open_13 : decode cX1_open 13 = .ok (.if_icmp .ne 10, 3) := by decide +kernel
theorem dX1_open_16 : decode cX1_open 16 = .ok (.aload_n 0, 1) := by decide +kernel
theorem dX1_open_17 : decode cX1_open 17 = .ok (.invokevirtual 55, 3) := by decide +kernel
theorem dX1_open_20 : decode cX1_open 20 = .ok (.goto 8, 3) := by decide +kernel
theorem dX1_open_23 : decode cX1_open 23 = .ok (.aload_n 0, 1) := by decide +kernel
theorem dX1_open_24 : decode cX1_open 24 = .ok (.iload_n 1, 1) := by decide +kernel
theorem dX1_open_25 : decode cX1_open 25 = .ok (.invokevirtual 59, 3) := by decide +kernel
theorem dX1_open_28 : decode cX1_open 28 = .ok (.ireturn, 1) := by decide +kernel
theorem dX1_write_0 : decode cX1_write 0 = .ok (.aload_n 0, 1) := by decide +kernel
theorem dX1_write_1 : decode cX1_write 1 = .ok (.getfield 36, 3) := by decide +kernel
theorem dX1_write_4 : decode cX1_write 4 = .ok (.iconst (-1), 1) := by decide +kernel
theorem dX1_write_5 : decode cX1_write 5 = .ok (.if_icmp .ne 6, 3) := by decide +kernel
theorem dX1_write_8 : decode cX1_write 8 = .ok (.bipush 42, 2) := by decide +kernel
theorem dX1_write_10 : decode cX1_write 10 = .ok (.ireturn, 1) := by decide +kernel
theorem dX1_write_11 : decode cX1_write 11 = .ok (.aload_n 0, 1) := by decide +kernel
theorem dX1_write_12 : decode cX1_write 12 = .ok (.getfield 36, 3) := by decide +kernel
theorem dX1_write_15 : decode cX1_write 15 = .ok (.ifCond .ne 6, 3) := by decide +kernel
theorem dX1_write_18 : decode cX1_write 18 = .ok (.bipush 48, 2) := by decide +kernel
theorem dX1_write_20 : decode cX1_write 20 = .ok (.ireturn, 1) := by decide +kernel
theorem dX1_write_21 : decode cX1_write 21 = .ok (.aload_n 0, 1) := by decide +kernel
theorem dX1_write_22 : decode cX1_write 22 = .ok (.iconst 0, 1) := by decide +kernel
theorem dX1_write_23 : decode cX1_write 23 = .ok (.putfield 45, 3) := by decide +kernel
theorem dX1_write_26 : decode cX1_write 26 = .ok (.iload_n 1, 1) := by decide +kernel
theorem dX1_write_27 : decode cX1_write 27 = .ok (.iconst (-1), 1) := by decide +kernel
theorem dX1_write_28 : decode cX1_write 28 = .ok (.if_icmp .ne 10, 3) := by decide +kernel
theorem dX1_write_31 : decode cX1_write 31 = .ok (.aload_n 0, 1) := by decide +kernel
theorem dX1_write_32 : decode cX1_write 32 = .ok (.invokevirtual 63, 3) := by decide +kernel
theorem dX1_write_35 : decode cX1_write 35 = .ok (.goto 4, 3) := by decide +kernel
theorem dX1_write_38 : decode cX1_write 38 = .ok (.iload_n 1, 1) := by decide +kernel
theorem dX1_write_39 : decode cX1_write 39 = .ok (.istore 4, 2) := by decide +kernel
theorem dX1_write_41 : decode cX1_write 41 = .ok (.aload_n 0, 1) := by decide +kernel
theorem dX1_write_42 : decode cX1_write 42 = .ok (.iload 4, 2) := by decide +kernel
theorem dX1_write_44 : decode cX1_write 44 = .ok (.invokevirtual 66, 3) := by decide +kernel
theorem dX1_write_47 : decode cX1_write 47 = .ok (.ifCond .eq 12, 3) := by decide +kernel
theorem dX1_write_50 : decode cX1_write 50 = .ok (.aload_n 0, 1) := by decide +kernel
theorem dX1_write_51 : decode cX1_write 51 = .ok (.iload 4, 2) := by decide +kernel
theorem dX1_write_53 : decode cX1_write 53 = .ok (.invokevirtual 70, 3) := by decide +kernel
theorem dX1_write_56 : decode cX1_write 56 = .ok (.ifCond .eq 6, 3) := by decide +kernel
theorem dX1_write_59 : decode cX1_write 59 = .ok (.bipush 24, 2) := by decide +kernel
theorem dX1_write_61 : decode cX1_write 61 = .ok (.ireturn, 1) := by decide +kernel
theorem dX1_write_62 : decode cX1_write 62 = .ok (.aload_n 0, 1) := by decide +kernel
theorem dX1_write_63 : decode cX1_write 63 = .ok (.getfield 28, 3) := by decide +kernel
theorem dX1_write_66 : decode cX1_write 66 = .ok (.iload 4, 2) := by decide +kernel
theorem dX1_write_68 : decode cX1_write 68 = .ok (.invokevirtual 73, 3) := by decide +kernel
theorem dX1_write_71 : decode cX1_write 71 = .ok (.ifCond .eq 6, 3) := by decide +kernel
theorem dX1_write_74 : decode cX1_write 74 = .ok (.bipush 22, 2) := by decide +kernel
theorem dX1_write_76 : decode cX1_write 76 = .ok (.ireturn, 1) := by decide +kernel
theorem dX1_write_77 : decode cX1_write 77 = .ok (.aload_n 0, 1) := by decide +kernel
theorem dX1_write_78 : decode cX1_write 78 = .ok (.getfield 28, 3) := by decide +kernel
theorem dX1_write_81 : decode cX1_write 81 = .ok (.iload 4, 2) := by decide +kernel
theorem dX1_write_83 : decode cX1_write 83 = .ok (.lload_n 2, 1) := by decide +kernel
theorem dX1_write_84 : decode cX1_write 84 = .ok (.invokevirtual 76, 3) := by decide +kernel
theorem dX1_write_87 : decode cX1_write 87 = .ok (.ifCond .ne 6, 3) := by decide +kernel
theorem dX1_write_90 : decode cX1_write 90 = .ok (.bipush 24, 2) := by decide +kernel
theorem dX1_write_92 : decode cX1_write 92 = .ok (.ireturn, 1) := by decide +kernel
theorem dX1_write_93 : decode cX1_write 93 = .ok (.aload_n 0, 1) := by decide +kernel
theorem dX1_write_94 : decode cX1_write 94 = .ok (.lload_n 2, 1) := by decide +kernel
theorem dX1_write_95 : decode cX1_write 95 = .ok (.putfield 48, 3) := by decide +kernel
theorem dX1_write_98 : decode cX1_write 98 = .ok (.iconst 0, 1) := by decide +kernel
theorem dX1_write_99 : decode cX1_write 99 = .ok (.ireturn, 1) := by decide +kernel
theorem dX1_read_0 : decode cX1_read 0 = .ok (.aload_n 0, 1) := by decide +kernel
theorem dX1_read_1 : decode cX1_read 1 = .ok (.invokevirtual 80, 3) := by decide +kernel
theorem dX1_read_4 : decode cX1_read 4 = .ok (.istore_n 2, 1) := by decide +kernel
theorem dX1_read_5 : decode cX1_read 5 = .ok (.iload_n 2, 1) := by decide +kernel
theorem dX1_read_6 : decode cX1_read 6 = .ok (.ifCond .eq 5, 3) := by decide +kernel
theorem dX1_read_9 : decode cX1_read 9 = .ok (.iload_n 2, 1) := by decide +kernel
theorem dX1_read_10 : decode cX1_read 10 = .ok (.ireturn, 1) := by decide +kernel
theorem dX1_read_11 : decode cX1_read 11 = .ok (.aload_n 0, 1) := by decide +kernel
theorem dX1_read_12 : decode cX1_read 12 = .ok (.getfield 28, 3) := by decide +kernel
theorem dX1_read_15 : decode cX1_read 15 = .ok (.iload_n 1, 1) := by decide +kernel
theorem dX1_read_16 : decode cX1_read 16 = .ok (.invokevirtual 73, 3) := by decide +kernel
theorem dX1_read_19 : decode cX1_read 19 = .ok (.ifCond .ne 10, 3) := by decide +kernel
theorem dX1_read_22 : decode cX1_read 22 = .ok (.aload_n 0, 1) := by decide +kernel
theorem dX1_read_23 : decode cX1_read 23 = .ok (.invokevirtual 83, 3) := by decide +kernel
theorem dX1_read_26 : decode cX1_read 26 = .ok (.bipush 23, 2) := by decide +kernel
theorem dX1_read_28 : decode cX1_read 28 = .ok (.ireturn, 1) := by decide +kernel
theorem dX1_read_29 : decode cX1_read 29 = .ok (.aload_n 0, 1) := by decide +kernel
theorem dX1_read_30 : decode cX1_read 30 = .ok (.iload_n 1, 1) := by decide +kernel
theorem dX1_read_31 : decode cX1_read 31 = .ok (.invokevirtual 86, 3) := by decide +kernel
theorem dX1_read_34 : decode cX1_read 34 = .ok (.iconst 0, 1) := by decide +kernel
theorem dX1_read_35 : decode cX1_read 35 = .ok (.ireturn, 1) := by decide +kernel
theorem dX1_value_0 : decode cX1_value 0 = .ok (.aload_n 0, 1) := by decide +kernel
theorem dX1_value_1 : decode cX1_value 1 = .ok (.getfield 48, 3) := by decide +kernel
theorem dX1_value_4 : decode cX1_value 4 = .ok (.lreturn, 1) := by decide +kernel
theorem dX1_start_0 : decode cX1_start 0 = .ok (.iload_n 1, 1) := by decide +kernel
theorem dX1_start_1 : decode cX1_start 1 = .ok (.ifCond .lt 8, 3) := by decide +kernel
theorem dX1_start_4 : decode cX1_start 4 = .ok (.iload_n 1, 1) := by decide +kernel
theorem dX1_start_5 : decode cX1_start 5 = .ok (.iconst 4, 1) := by decide +kernel
theorem dX1_start_6 : decode cX1_start 6 = .ok (.if_icmp .le 5, 3) := by decide +kernel
theorem dX1_start_9 : decode cX1_start 9 = .ok (.iconst (-1), 1) := by decide +kernel
theorem dX1_start_10 : decode cX1_start 10 = .ok (.ireturn, 1) := by decide +kernel
theorem dX1_start_11 : decode cX1_start 11 = .ok (.aload_n 0, 1) := by decide +kernel
theorem dX1_start_12 : decode cX1_start 12 = .ok (.invokevirtual 80, 3) := by decide +kernel
theorem dX1_start_15 : decode cX1_start 15 = .ok (.istore_n 3, 1) := by decide +kernel
theorem dX1_start_16 : decode cX1_start 16 = .ok (.iload_n 3, 1) := by decide +kernel
theorem dX1_start_17 : decode cX1_start 17 = .ok (.ifCond .eq 5, 3) := by decide +kernel
theorem dX1_start_20 : decode cX1_start 20 = .ok (.iload_n 3, 1) := by decide +kernel
theorem dX1_start_21 : decode cX1_start 21 = .ok (.ireturn, 1) := by decide +kernel
theorem dX1_start_22 : decode cX1_start 22 = .ok (.aload_n 0, 1) := by decide +kernel
theorem dX1_start_23 : decode cX1_start 23 = .ok (.iload_n 1, 1) := by decide +kernel
theorem dX1_start_24 : decode cX1_start 24 = .ok (.iload_n 2, 1) := by decide +kernel
theorem dX1_start_25 : decode cX1_start 25 = .ok (.invokevirtual 89, 3) := by decide +kernel
theorem dX1_start_28 : decode cX1_start 28 = .ok (.istore 4, 2) := by decide +kernel
theorem dX1_start_30 : decode cX1_start 30 = .ok (.iload 4, 2) := by decide +kernel
theorem dX1_start_32 : decode cX1_start 32 = .ok (.ifCond .ne 10, 3) := by decide +kernel
theorem dX1_start_35 : decode cX1_start 35 = .ok (.aload_n 0, 1) := by decide +kernel
theorem dX1_start_36 : decode cX1_start 36 = .ok (.invokevirtual 83, 3) := by decide +kernel
theorem dX1_start_39 : decode cX1_start 39 = .ok (.bipush 23, 2) := by decide +kernel
theorem dX1_start_41 : decode cX1_start 41 = .ok (.ireturn, 1) := by decide +kernel
theorem dX1_start_42 : decode cX1_start 42 = .ok (.aload_n 0, 1) := by decide +kernel
theorem dX1_start_43 : decode cX1_start 43 = .ok (.iconst 1, 1) := by decide +kernel
theorem dX1_start_44 : decode cX1_start 44 = .ok (.iload 4, 2) := by decide +kernel
theorem dX1_start_46 : decode cX1_start 46 = .ok (.invokevirtual 92, 3) := by decide +kernel
theorem dX1_start_49 : decode cX1_start 49 = .ok (.iconst 0, 1) := by decide +kernel
theorem dX1_start_50 : decode cX1_start 50 = .ok (.ireturn, 1) := by decide +kernel
theorem dX1_next_0 : decode cX1_next 0 = .ok (.aload_n 0, 1) := by decide +kernel
theorem dX1_next_1 : decode cX1_next 1 = .ok (.invokevirtual 80, 3) := by decide +kernel
theorem dX1_next_4 : decode cX1_next 4 = .ok (.istore_n 2, 1) := by decide +kernel
theorem dX1_next_5 : decode cX1_next 5 = .ok (.iload_n 2, 1) := by decide +kernel
theorem dX1_next_6 : decode cX1_next 6 = .ok (.ifCond .eq 5, 3) := by decide +kernel
theorem dX1_next_9 : decode cX1_next 9 = .ok (.iload_n 2, 1) := by decide +kernel
theorem dX1_next_10 : decode cX1_next 10 = .ok (.ireturn, 1) := by decide +kernel
theorem dX1_next_11 : decode cX1_next 11 = .ok (.aload_n 0, 1) := by decide +kernel
theorem dX1_next_12 : decode cX1_next 12 = .ok (.getfield 39, 3) := by decide +kernel
theorem dX1_next_15 : decode cX1_next 15 = .ok (.iconst 2, 1) := by decide +kernel
theorem dX1_next_16 : decode cX1_next 16 = .ok (.if_icmp .ne 11, 3) := by decide +kernel
theorem dX1_next_19 : decode cX1_next 19 = .ok (.aload_n 0, 1) := by decide +kernel
theorem dX1_next_20 : decode cX1_next 20 = .ok (.iconst 0, 1) := by decide +kernel
theorem dX1_next_21 : decode cX1_next 21 = .ok (.putfield 45, 3) := by decide +kernel
theorem dX1_next_24 : decode cX1_next 24 = .ok (.bipush 46, 2) := by decide +kernel
theorem dX1_next_26 : decode cX1_next 26 = .ok (.ireturn, 1) := by decide +kernel
theorem dX1_next_27 : decode cX1_next 27 = .ok (.aload_n 0, 1) := by decide +kernel
theorem dX1_next_28 : decode cX1_next 28 = .ok (.iload_n 1, 1) := by decide +kernel
theorem dX1_next_29 : decode cX1_next 29 = .ok (.invokevirtual 96, 3) := by decide +kernel
theorem dX1_next_32 : decode cX1_next 32 = .ok (.istore_n 3, 1) := by decide +kernel
theorem dX1_next_33 : decode cX1_next 33 = .ok (.iload_n 3, 1) := by decide +kernel
theorem dX1_next_34 : decode cX1_next 34 = .ok (.ifCond .ne 10, 3) := by decide +kernel
theorem dX1_next_37 : decode cX1_next 37 = .ok (.aload_n 0, 1) := by decide +kernel
theorem dX1_next_38 : decode cX1_next 38 = .ok (.invokevirtual 83, 3) := by decide +kernel
theorem dX1_next_41 : decode cX1_next 41 = .ok (.bipush 10, 2) := by decide +kernel
theorem dX1_next_43 : decode cX1_next 43 = .ok (.ireturn, 1) := by decide +kernel
theorem dX1_next_44 : decode cX1_next 44 = .ok (.aload_n 0, 1) := by decide +kernel
theorem dX1_next_45 : decode cX1_next 45 = .ok (.iload_n 3, 1) := by decide +kernel
theorem dX1_next_46 : decode cX1_next 46 = .ok (.invokevirtual 70, 3) := by decide +kernel
theorem dX1_next_49 : decode cX1_next 49 = .ok (.ifCond .eq 10, 3) := by decide +kernel
theorem dX1_next_52 : decode cX1_next 52 = .ok (.aload_n 0, 1) := by decide +kernel
theorem dX1_next_53 : decode cX1_next 53 = .ok (.invokevirtual 83, 3) := by decide +kernel
theorem dX1_next_56 : decode cX1_next 56 = .ok (.bipush 14, 2) := by decide +kernel
theorem dX1_next_58 : decode cX1_next 58 = .ok (.ireturn, 1) := by decide +kernel
theorem dX1_next_59 : decode cX1_next 59 = .ok (.aload_n 0, 1) := by decide +kernel
theorem dX1_next_60 : decode cX1_next 60 = .ok (.iload_n 3, 1) := by decide +kernel
theorem dX1_next_61 : decode cX1_next 61 = .ok (.invokevirtual 86, 3) := by decide +kernel
theorem dX1_next_64 : decode cX1_next 64 = .ok (.iconst 0, 1) := by decide +kernel
theorem dX1_next_65 : decode cX1_next 65 = .ok (.ireturn, 1) := by decide +kernel
theorem dX1_rewrite_0 : decode cX1_rewrite 0 = .ok (.aload_n 0, 1) := by decide +kernel
theorem dX1_rewrite_1 : decode cX1_rewrite 1 = .ok (.iload_n 1, 1) := by decide +kernel
theorem dX1_rewrite_2 : decode cX1_rewrite 2 = .ok (.invokevirtual 100, 3) := by decide +kernel
theorem dX1_rewrite_5 : decode cX1_rewrite 5 = .ok (.istore 4, 2) := by decide +kernel
theorem dX1_rewrite_7 : decode cX1_rewrite 7 = .ok (.aload_n 0, 1) := by decide +kernel
theorem dX1_rewrite_8 : decode cX1_rewrite 8 = .ok (.iload_n 1, 1) := by decide +kernel
theorem dX1_rewrite_9 : decode cX1_rewrite 9 = .ok (.iload 4, 2) := by decide +kernel
theorem dX1_rewrite_11 : decode cX1_rewrite 11 = .ok (.invokevirtual 103, 3) := by decide +kernel
theorem dX1_rewrite_14 : decode cX1_rewrite 14 = .ok (.istore 5, 2) := by decide +kernel
theorem dX1_rewrite_16 : decode cX1_rewrite 16 = .ok (.iload 5, 2) := by decide +kernel
theorem dX1_rewrite_18 : decode cX1_rewrite 18 = .ok (.ifCond .ne 18, 3) := by decide +kernel
theorem dX1_rewrite_21 : decode cX1_rewrite 21 = .ok (.aload_n 0, 1) := by decide +kernel
theorem dX1_rewrite_22 : decode cX1_rewrite 22 = .ok (.getfield 28, 3) := by decide +kernel
theorem dX1_rewrite_25 : decode cX1_rewrite 25 = .ok (.iload 4, 2) := by decide +kernel
theorem dX1_rewrite_27 : decode cX1_rewrite 27 = .ok (.lload_n 2, 1) := by decide +kernel
theorem dX1_rewrite_28 : decode cX1_rewrite 28 = .ok (.invokevirtual 106, 3) := by decide +kernel
theorem dX1_rewrite_31 : decode cX1_rewrite 31 = .ok (.aload_n 0, 1) := by decide +kernel
theorem dX1_rewrite_32 : decode cX1_rewrite 32 = .ok (.lload_n 2, 1) := by decide +kernel
theorem dX1_rewrite_33 : decode cX1_rewrite 33 = .ok (.putfield 48, 3) := by decide +kernel
theorem dX1_rewrite_36 : decode cX1_rewrite 36 = .ok (.iload 5, 2) := by decide +kernel
theorem dX1_rewrite_38 : decode cX1_rewrite 38 = .ok (.ireturn, 1) := by decide +kernel
theorem dX1_remove_0 : decode cX1_remove 0 = .ok (.aload_n 0, 1) := by decide +kernel
theorem dX1_remove_1 : decode cX1_remove 1 = .ok (.iload_n 1, 1) := by decide +kernel
theorem dX1_remove_2 : decode cX1_remove 2 = .ok (.invokevirtual 100, 3) := by decide +kernel
theorem dX1_remove_5 : decode cX1_remove 5 = .ok (.istore_n 2, 1) := by decide +kernel
theorem dX1_remove_6 : decode cX1_remove 6 = .ok (.aload_n 0, 1) := by decide +kernel
theorem dX1_remove_7 : decode cX1_remove 7 = .ok (.iload_n 1, 1) := by decide +kernel
theorem dX1_remove_8 : decode cX1_remove 8 = .ok (.iload_n 2, 1) := by decide +kernel
theorem dX1_remove_9 : decode cX1_remove 9 = .ok (.invokevirtual 103, 3) := by decide +kernel
theorem dX1_remove_12 : decode cX1_remove 12 = .ok (.istore_n 3, 1) := by decide +kernel
theorem dX1_remove_13 : decode cX1_remove 13 = .ok (.iload_n 3, 1) := by decide +kernel
theorem dX1_remove_14 : decode cX1_remove 14 = .ok (.ifCond .ne 11, 3) := by decide +kernel
theorem dX1_remove_17 : decode cX1_remove 17 = .ok (.aload_n 0, 1) := by decide +kernel
theorem dX1_remove_18 : decode cX1_remove 18 = .ok (.getfield 28, 3) := by decide +kernel
theorem dX1_remove_21 : decode cX1_remove 21 = .ok (.iload_n 2, 1) := by decide +kernel
theorem dX1_remove_22 : decode cX1_remove 22 = .ok (.invokevirtual 110, 3) := by decide +kernel
theorem dX1_remove_25 : decode cX1_remove 25 = .ok (.iload_n 3, 1) := by decide +kernel
theorem dX1_remove_26 : decode cX1_remove 26 = .ok (.ireturn, 1) := by decide +kernel
theorem dX1_number_0 : decode cX1_number 0 = .ok (.aload_n 0, 1) := by decide +kernel
theorem dX1_number_1 : decode cX1_number 1 = .ok (.getfield 45, 3) := by decide +kernel
theorem dX1_number_4 : decode cX1_number 4 = .ok (.ireturn, 1) := by decide +kernel
theorem dX1_cell_0 : decode cX1_cell 0 = .ok (.aload_n 0, 1) := by decide +kernel
theorem dX1_cell_1 : decode cX1_cell 1 = .ok (.iload_n 1, 1) := by decide +kernel
theorem dX1_cell_2 : decode cX1_cell 2 = .ok (.invokevirtual 66, 3) := by decide +kernel
theorem dX1_cell_5 : decode cX1_cell 5 = .ok (.ifCond .ne 13, 3) := by decide +kernel
theorem dX1_cell_8 : decode cX1_cell 8 = .ok (.new 113, 3) := by decide +kernel
theorem dX1_cell_11 : decode cX1_cell 11 = .ok (.dup, 1) := by decide +kernel
theorem dX1_cell_12 : decode cX1_cell 12 = .ok (.ldc 115, 2) := by decide +kernel
theorem dX1_cell_14 : decode cX1_cell 14 = .ok (.invokespecial 117, 3) := by decide +kernel
theorem dX1_cell_17 : decode cX1_cell 17 = .ok (.athrow, 1) := by decide +kernel
theorem dX1_cell_18 : decode cX1_cell 18 = .ok (.aload_n 0, 1) := by decide +kernel
theorem dX1_cell_19 : decode cX1_cell 19 = .ok (.getfield 28, 3) := by decide +kernel
theorem dX1_cell_22 : decode cX1_cell 22 = .ok (.iload_n 1, 1) := by decide +kernel
theorem dX1_cell_23 : decode cX1_cell 23 = .ok (.invokevirtual 120, 3) := by decide +kernel
theorem dX1_cell_26 : decode cX1_cell 26 = .ok (.lreturn, 1) := by decide +kernel
theorem dX1_records_0 : decode cX1_records 0 = .ok (.aload_n 0, 1) := by decide +kernel
theorem dX1_records_1 : decode cX1_records 1 = .ok (.getfield 28, 3) := by decide +kernel
theorem dX1_records_4 : decode cX1_records 4 = .ok (.invokevirtual 124, 3) := by decide +kernel
theorem dX1_records_7 : decode cX1_records 7 = .ok (.ireturn, 1) := by decide +kernel
theorem dX1_digits_0 : decode cX1_digits 0 = .ok (.iload_n 1, 1) := by decide +kernel
theorem dX1_digits_1 : decode cX1_digits 1 = .ok (.iconst 1, 1) := by decide +kernel
theorem dX1_digits_2 : decode cX1_digits 2 = .ok (.if_icmp .lt 9, 3) := by decide +kernel
theorem dX1_digits_5 : decode cX1_digits 5 = .ok (.iload_n 1, 1) := by decide +kernel
theorem dX1_digits_6 : decode cX1_digits 6 = .ok (.bipush 9, 2) := by decide +kernel
theorem dX1_digits_8 : decode cX1_digits 8 = .ok (.if_icmp .le 5, 3) := by decide +kernel
theorem dX1_digits_11 : decode cX1_digits 11 = .ok (.iconst (-1), 1) := by decide +kernel
theorem dX1_digits_12 : decode cX1_digits 12 = .ok (.ireturn, 1) := by decide +kernel
theorem dX1_digits_13 : decode cX1_digits 13 = .ok (.aload_n 0, 1) := by decide +kernel
theorem dX1_digits_14 : decode cX1_digits 14 = .ok (.getfield 52, 3) := by decide +kernel
theorem dX1_digits_17 : decode cX1_digits 17 = .ok (.istore_n 2, 1) := by decide +kernel
theorem dX1_digits_18 : decode cX1_digits 18 = .ok (.aload_n 0, 1) := by decide +kernel
theorem dX1_digits_19 : decode cX1_digits 19 = .ok (.iload_n 1, 1) := by decide +kernel
theorem dX1_digits_20 : decode cX1_digits 20 = .ok (.putfield 52, 3) := by decide +kernel
theorem dX1_digits_23 : decode cX1_digits 23 = .ok (.iload_n 2, 1) := by decide +kernel
theorem dX1_digits_24 : decode cX1_digits 24 = .ok (.ireturn, 1) := by decide +kernel
theorem dX1_count_0 : decode cX1_count 0 = .ok (.iload_n 1, 1) := by decide +kernel
theorem dX1_count_1 : decode cX1_count 1 = .ok (.tableswitch 74 0 4 #[35, 40, 53, 58, 66], 35) := by decide +kernel
theorem dX1_count_36 : decode cX1_count 36 = .ok (.aload_n 0, 1) := by decide +kernel
theorem dX1_count_37 : decode cX1_count 37 = .ok (.getfield 19, 3) := by decide +kernel
theorem dX1_count_40 : decode cX1_count 40 = .ok (.ireturn, 1) := by decide +kernel
theorem dX1_count_41 : decode cX1_count 41 = .ok (.aload_n 0, 1) := by decide +kernel
theorem dX1_count_42 : decode cX1_count 42 = .ok (.getfield 32, 3) := by decide +kernel
theorem dX1_count_45 : decode cX1_count 45 = .ok (.ifCond .eq 7, 3) := by decide +kernel
theorem dX1_count_48 : decode cX1_count 48 = .ok (.iconst 1, 1) := by decide +kernel
theorem dX1_count_49 : decode cX1_count 49 = .ok (.goto 4, 3) := by decide +kernel
theorem dX1_count_52 : decode cX1_count 52 = .ok (.iconst 0, 1) := by decide +kernel
theorem dX1_count_53 : decode cX1_count 53 = .ok (.ireturn, 1) := by decide +kernel
theorem dX1_count_54 : decode cX1_count 54 = .ok (.aload_n 0, 1) := by decide +kernel
theorem dX1_count_55 : decode cX1_count 55 = .ok (.getfield 36, 3) := by decide +kernel
theorem dX1_count_58 : decode cX1_count 58 = .ok (.ireturn, 1) := by decide +kernel
theorem dX1_count_59 : decode cX1_count 59 = .ok (.aload_n 0, 1) := by decide +kernel
theorem dX1_count_60 : decode cX1_count 60 = .ok (.getfield 28, 3) := by decide +kernel
theorem dX1_count_63 : decode cX1_count 63 = .ok (.invokevirtual 127, 3) := by decide +kernel
theorem dX1_count_66 : decode cX1_count 66 = .ok (.ireturn, 1) := by decide +kernel
theorem dX1_count_67 : decode cX1_count 67 = .ok (.aload_n 0, 1) := by decide +kernel
theorem dX1_count_68 : decode cX1_count 68 = .ok (.getfield 28, 3) := by decide +kernel
theorem dX1_count_71 : decode cX1_count 71 = .ok (.invokevirtual 130, 3) := by decide +kernel
theorem dX1_count_74 : decode cX1_count 74 = .ok (.ireturn, 1) := by decide +kernel
theorem dX1_count_75 : decode cX1_count 75 = .ok (.iconst (-1), 1) := by decide +kernel
theorem dX1_count_76 : decode cX1_count 76 = .ok (.ireturn, 1) := by decide +kernel
theorem dX1_openFile_0 : decode cX1_openFile 0 = .ok (.aload_n 0, 1) := by decide +kernel
theorem dX1_openFile_1 : decode cX1_openFile 1 = .ok (.getfield 36, 3) := by decide +kernel
theorem dX1_openFile_4 : decode cX1_openFile 4 = .ok (.iconst (-1), 1) := by decide +kernel
theorem dX1_openFile_5 : decode cX1_openFile 5 = .ok (.if_icmp .eq 6, 3) := by decide +kernel
theorem dX1_openFile_8 : decode cX1_openFile 8 = .ok (.bipush 41, 2) := by decide +kernel
theorem dX1_openFile_10 : decode cX1_openFile 10 = .ok (.ireturn, 1) := by decide +kernel
theorem dX1_openFile_11 : decode cX1_openFile 11 = .ok (.aload_n 0, 1) := by decide +kernel
theorem dX1_openFile_12 : decode cX1_openFile 12 = .ok (.iconst 0, 1) := by decide +kernel
theorem dX1_openFile_13 : decode cX1_openFile 13 = .ok (.iconst 0, 1) := by decide +kernel
theorem dX1_openFile_14 : decode cX1_openFile 14 = .ok (.invokevirtual 92, 3) := by decide +kernel
theorem dX1_openFile_17 : decode cX1_openFile 17 = .ok (.aload_n 0, 1) := by decide +kernel
theorem dX1_openFile_18 : decode cX1_openFile 18 = .ok (.getfield 32, 3) := by decide +kernel
theorem dX1_openFile_21 : decode cX1_openFile 21 = .ok (.istore_n 2, 1) := by decide +kernel
theorem dX1_openFile_22 : decode cX1_openFile 22 = .ok (.iload_n 2, 1) := by decide +kernel
theorem dX1_openFile_23 : decode cX1_openFile 23 = .ok (.ifCond .ne 15, 3) := by decide +kernel
theorem dX1_openFile_26 : decode cX1_openFile 26 = .ok (.iload_n 1, 1) := by decide +kernel
theorem dX1_openFile_27 : decode cX1_openFile 27 = .ok (.ifCond .eq 8, 3) := by decide +kernel
theorem dX1_openFile_30 : decode cX1_openFile 30 = .ok (.iload_n 1, 1) := by decide +kernel
theorem dX1_openFile_31 : decode cX1_openFile 31 = .ok (.iconst 2, 1) := by decide +kernel
theorem dX1_openFile_32 : decode cX1_openFile 32 = .ok (.if_icmp .ne 6, 3) := by decide +kernel
theorem dX1_openFile_35 : decode cX1_openFile 35 = .ok (.bipush 35, 2) := by decide +kernel
theorem dX1_openFile_37 : decode cX1_openFile 37 = .ok (.ireturn, 1) := by decide +kernel
theorem dX1_openFile_38 : decode cX1_openFile 38 = .ok (.iload_n 1, 1) := by decide +kernel
theorem dX1_openFile_39 : decode cX1_openFile 39 = .ok (.iconst 1, 1) := by decide +kernel
theorem dX1_openFile_40 : decode cX1_openFile 40 = .ok (.if_icmp .ne 10, 3) := by decide +kernel
theorem dX1_openFile_43 : decode cX1_openFile 43 = .ok (.aload_n 0, 1) := by decide +kernel
theorem dX1_openFile_44 : decode cX1_openFile 44 = .ok (.getfield 28, 3) := by decide +kernel
theorem dX1_openFile_47 : decode cX1_openFile 47 = .ok (.invokevirtual 133, 3) := by decide +kernel
theorem dX1_openFile_50 : decode cX1_openFile 50 = .ok (.aload_n 0, 1) := by decide +kernel
theorem dX1_openFile_51 : decode cX1_openFile 51 = .ok (.iconst 1, 1) := by decide +kernel
theorem dX1_openFile_52 : decode cX1_openFile 52 = .ok (.putfield 32, 3) := by decide +kernel
theorem dX1_openFile_55 : decode cX1_openFile 55 = .ok (.aload_n 0, 1) := by decide +kernel
theorem dX1_openFile_56 : decode cX1_openFile 56 = .ok (.iload_n 1, 1) := by decide +kernel
theorem dX1_openFile_57 : decode cX1_openFile 57 = .ok (.putfield 36, 3) := by decide +kernel
theorem dX1_openFile_60 : decode cX1_openFile 60 = .ok (.iload_n 1, 1) := by decide +kernel
theorem dX1_openFile_61 : decode cX1_openFile 61 = .ok (.iconst 3, 1) := by decide +kernel
theorem dX1_openFile_62 : decode cX1_openFile 62 = .ok (.if_icmp .ne 11, 3) := by decide +kernel
theorem dX1_openFile_65 : decode cX1_openFile 65 = .ok (.iload_n 2, 1) := by decide +kernel
theorem dX1_openFile_66 : decode cX1_openFile 66 = .ok (.ifCond .ne 7, 3) := by decide +kernel
theorem dX1_openFile_69 : decode cX1_openFile 69 = .ok (.iconst 5, 1) := by decide +kernel
theorem dX1_openFile_70 : decode cX1_openFile 70 = .ok (.goto 4, 3) := by decide +kernel
theorem dX1_openFile_73 : decode cX1_openFile 73 = .ok (.iconst 0, 1) := by decide +kernel
theorem dX1_openFile_74 : decode cX1_openFile 74 = .ok (.ireturn, 1) := by decide +kernel
theorem dX1_closeFile_0 : decode cX1_closeFile 0 = .ok (.aload_n 0, 1) := by decide +kernel
theorem dX1_closeFile_1 : decode cX1_closeFile 1 = .ok (.getfield 36, 3) := by decide +kernel
theorem dX1_closeFile_4 : decode cX1_closeFile 4 = .ok (.iconst (-1), 1) := by decide +kernel
theorem dX1_closeFile_5 : decode cX1_closeFile 5 = .ok (.if_icmp .ne 6, 3) := by decide +kernel
theorem dX1_closeFile_8 : decode cX1_closeFile 8 = .ok (.bipush 42, 2) := by decide +kernel
theorem dX1_closeFile_10 : decode cX1_closeFile 10 = .ok (.ireturn, 1) := by decide +kernel
theorem dX1_closeFile_11 : decode cX1_closeFile 11 = .ok (.aload_n 0, 1) := by decide +kernel
theorem dX1_closeFile_12 : decode cX1_closeFile 12 = .ok (.iconst 0, 1) := by decide +kernel
theorem dX1_closeFile_13 : decode cX1_closeFile 13 = .ok (.iconst 0, 1) := by decide +kernel
theorem dX1_closeFile_14 : decode cX1_closeFile 14 = .ok (.invokevirtual 92, 3) := by decide +kernel
theorem dX1_closeFile_17 : decode cX1_closeFile 17 = .ok (.aload_n 0, 1) := by decide +kernel
theorem dX1_closeFile_18 : decode cX1_closeFile 18 = .ok (.iconst (-1), 1) := by decide +kernel
theorem dX1_closeFile_19 : decode cX1_closeFile 19 = .ok (.putfield 36, 3) := by decide +kernel
theorem dX1_closeFile_22 : decode cX1_closeFile 22 = .ok (.iconst 0, 1) := by decide +kernel
theorem dX1_closeFile_23 : decode cX1_closeFile 23 = .ok (.ireturn, 1) := by decide +kernel
theorem dX1_refusalToRead_0 : decode cX1_refusalToRead 0 = .ok (.aload_n 0, 1) := by decide +kernel
theorem dX1_refusalToRead_1 : decode cX1_refusalToRead 1 = .ok (.getfield 36, 3) := by decide +kernel
theorem dX1_refusalToRead_4 : decode cX1_refusalToRead 4 = .ok (.iconst (-1), 1) := by decide +kernel
theorem dX1_refusalToRead_5 : decode cX1_refusalToRead 5 = .ok (.if_icmp .ne 6, 3) := by decide +kernel
theorem dX1_refusalToRead_8 : decode cX1_refusalToRead 8 = .ok (.bipush 42, 2) := by decide +kernel
theorem dX1_refusalToRead_10 : decode cX1_refusalToRead 10 = .ok (.ireturn, 1) := by decide +kernel
theorem dX1_refusalToRead_11 : decode cX1_refusalToRead 11 = .ok (.aload_n 0, 1) := by decide +kernel
theorem dX1_refusalToRead_12 : decode cX1_refusalToRead 12 = .ok (.getfield 36, 3) := by decide +kernel
theorem dX1_refusalToRead_15 : decode cX1_refusalToRead 15 = .ok (.ifCond .eq 11, 3) := by decide +kernel
theorem dX1_refusalToRead_18 : decode cX1_refusalToRead 18 = .ok (.aload_n 0, 1) := by decide +kernel
theorem dX1_refusalToRead_19 : decode cX1_refusalToRead 19 = .ok (.getfield 36, 3) := by decide +kernel
theorem dX1_refusalToRead_22 : decode cX1_refusalToRead 22 = .ok (.iconst 2, 1) := by decide +kernel
theorem dX1_refusalToRead_23 : decode cX1_refusalToRead 23 = .ok (.if_icmp .ne 7, 3) := by decide +kernel
theorem dX1_refusalToRead_26 : decode cX1_refusalToRead 26 = .ok (.iconst 0, 1) := by decide +kernel
theorem dX1_refusalToRead_27 : decode cX1_refusalToRead 27 = .ok (.goto 5, 3) := by decide +kernel
theorem dX1_refusalToRead_30 : decode cX1_refusalToRead 30 = .ok (.bipush 47, 2) := by decide +kernel
theorem dX1_refusalToRead_32 : decode cX1_refusalToRead 32 = .ok (.ireturn, 1) := by decide +kernel
theorem dX1_statusOfChange_0 : decode cX1_statusOfChange 0 = .ok (.aload_n 0, 1) := by decide +kernel
theorem dX1_statusOfChange_1 : decode cX1_statusOfChange 1 = .ok (.getfield 36, 3) := by decide +kernel
theorem dX1_statusOfChange_4 : decode cX1_statusOfChange 4 = .ok (.iconst (-1), 1) := by decide +kernel
theorem dX1_statusOfChange_5 : decode cX1_statusOfChange 5 = .ok (.if_icmp .ne 6, 3) := by decide +kernel
theorem dX1_statusOfChange_8 : decode cX1_statusOfChange 8 = .ok (.bipush 42, 2) := by decide +kernel
theorem dX1_statusOfChange_10 : decode cX1_statusOfChange 10 = .ok (.ireturn, 1) := by decide +kernel
theorem dX1_statusOfChange_11 : decode cX1_statusOfChange 11 = .ok (.aload_n 0, 1) := by decide +kernel
theorem dX1_statusOfChange_12 : decode cX1_statusOfChange 12 = .ok (.getfield 36, 3) := by decide +kernel
theorem dX1_statusOfChange_15 : decode cX1_statusOfChange 15 = .ok (.iconst 2, 1) := by decide +kernel
theorem dX1_statusOfChange_16 : decode cX1_statusOfChange 16 = .ok (.if_icmp .eq 6, 3) := by decide +kernel
theorem dX1_statusOfChange_19 : decode cX1_statusOfChange 19 = .ok (.bipush 49, 2) := by decide +kernel
theorem dX1_statusOfChange_21 : decode cX1_statusOfChange 21 = .ok (.ireturn, 1) := by decide +kernel
theorem dX1_statusOfChange_22 : decode cX1_statusOfChange 22 = .ok (.aload_n 0, 1) := by decide +kernel
theorem dX1_statusOfChange_23 : decode cX1_statusOfChange 23 = .ok (.iconst 0, 1) := by decide +kernel
theorem dX1_statusOfChange_24 : decode cX1_statusOfChange 24 = .ok (.putfield 45, 3) := by decide +kernel
theorem dX1_statusOfChange_27 : decode cX1_statusOfChange 27 = .ok (.aload_n 0, 1) := by decide +kernel
theorem dX1_statusOfChange_28 : decode cX1_statusOfChange 28 = .ok (.getfield 28, 3) := by decide +kernel
theorem dX1_statusOfChange_31 : decode cX1_statusOfChange 31 = .ok (.iload_n 2, 1) := by decide +kernel
theorem dX1_statusOfChange_32 : decode cX1_statusOfChange 32 = .ok (.invokevirtual 73, 3) := by decide +kernel
theorem dX1_statusOfChange_35 : decode cX1_statusOfChange 35 = .ok (.ifCond .eq 5, 3) := by decide +kernel
theorem dX1_statusOfChange_38 : decode cX1_statusOfChange 38 = .ok (.iconst 0, 1) := by decide +kernel
theorem dX1_statusOfChange_39 : decode cX1_statusOfChange 39 = .ok (.ireturn, 1) := by decide +kernel
theorem dX1_statusOfChange_40 : decode cX1_statusOfChange 40 = .ok (.iload_n 1, 1) := by decide +kernel
theorem dX1_statusOfChange_41 : decode cX1_statusOfChange 41 = .ok (.iconst (-1), 1) := by decide +kernel
theorem dX1_statusOfChange_42 : decode cX1_statusOfChange 42 = .ok (.if_icmp .ne 8, 3) := by decide +kernel
theorem dX1_statusOfChange_45 : decode cX1_statusOfChange 45 = .ok (.bipush 43, 2) := by decide +kernel
theorem dX1_statusOfChange_47 : decode cX1_statusOfChange 47 = .ok (.goto 5, 3) := by decide +kernel
theorem dX1_statusOfChange_50 : decode cX1_statusOfChange 50 = .ok (.bipush 23, 2) := by decide +kernel
theorem dX1_statusOfChange_52 : decode cX1_statusOfChange 52 = .ok (.ireturn, 1) := by decide +kernel
theorem dX1_placeToChange_0 : decode cX1_placeToChange 0 = .ok (.iload_n 1, 1) := by decide +kernel
theorem dX1_placeToChange_1 : decode cX1_placeToChange 1 = .ok (.iconst (-1), 1) := by decide +kernel
theorem dX1_placeToChange_2 : decode cX1_placeToChange 2 = .ok (.if_icmp .ne 10, 3) := by decide +kernel
theorem dX1_placeToChange_5 : decode cX1_placeToChange 5 = .ok (.aload_n 0, 1) := by decide +kernel
theorem dX1_placeToChange_6 : decode cX1_placeToChange 6 = .ok (.getfield 45, 3) := by decide +kernel
theorem dX1_placeToChange_9 : decode cX1_placeToChange 9 = .ok (.goto 4, 3) := by decide +kernel
theorem dX1_placeToChange_12 : decode cX1_placeToChange 12 = .ok (.iload_n 1, 1) := by decide +kernel
theorem dX1_placeToChange_13 : decode cX1_placeToChange 13 = .ok (.ireturn, 1) := by decide +kernel
theorem dX1_placeInOrder_0 : decode cX1_placeInOrder 0 = .ok (.aload_n 0, 1) := by decide +kernel
theorem dX1_placeInOrder_1 : decode cX1_placeInOrder 1 = .ok (.getfield 36, 3) := by decide +kernel
theorem dX1_placeInOrder_4 : decode cX1_placeInOrder 4 = .ok (.iconst 2, 1) := by decide +kernel
theorem dX1_placeInOrder_5 : decode cX1_placeInOrder 5 = .ok (.if_icmp .ne 7, 3) := by decide +kernel
theorem dX1_placeInOrder_8 : decode cX1_placeInOrder 8 = .ok (.iconst 0, 1) := by decide +kernel
theorem dX1_placeInOrder_9 : decode cX1_placeInOrder 9 = .ok (.goto 12, 3) := by decide +kernel
theorem dX1_placeInOrder_12 : decode cX1_placeInOrder 12 = .ok (.aload_n 0, 1) := by decide +kernel
theorem dX1_placeInOrder_13 : decode cX1_placeInOrder 13 = .ok (.getfield 28, 3) := by decide +kernel
theorem dX1_placeInOrder_16 : decode cX1_placeInOrder 16 = .ok (.invokevirtual 127, 3) := by decide +kernel
theorem dX1_placeInOrder_19 : decode cX1_placeInOrder 19 = .ok (.iconst 1, 1) := by decide +kernel
theorem dX1_placeInOrder_20 : decode cX1_placeInOrder 20 = .ok (.iadd, 1) := by decide +kernel
theorem dX1_placeInOrder_21 : decode cX1_placeInOrder 21 = .ok (.ireturn, 1) := by decide +kernel
theorem dX1_placeToStart_0 : decode cX1_placeToStart 0 = .ok (.iload_n 1, 1) := by decide +kernel
theorem dX1_placeToStart_1 : decode cX1_placeToStart 1 = .ok (.tableswitch 118 0 4 #[35, 52, 61, 85, 94], 35) := by decide +kernel
theorem dX1_placeToStart_36 : decode cX1_placeToStart 36 = .ok (.aload_n 0, 1) := by decide +kernel
theorem dX1_placeToStart_37 : decode cX1_placeToStart 37 = .ok (.getfield 28, 3) := by decide +kernel
theorem dX1_placeToStart_40 : decode cX1_placeToStart 40 = .ok (.iload_n 2, 1) := by decide +kernel
theorem dX1_placeToStart_41 : decode cX1_placeToStart 41 = .ok (.invokevirtual 73, 3) := by decide +kernel
theorem dX1_placeToStart_44 : decode cX1_placeToStart 44 = .ok (.ifCond .eq 7, 3) := by decide +kernel
theorem dX1_placeToStart_47 : decode cX1_placeToStart 47 = .ok (.iload_n 2, 1) := by decide +kernel
theorem dX1_placeToStart_48 : decode cX1_placeToStart 48 = .ok (.goto 4, 3) := by decide +kernel
theorem dX1_placeToStart_51 : decode cX1_placeToStart 51 = .ok (.iconst 0, 1) := by decide +kernel
theorem dX1_placeToStart_52 : decode cX1_placeToStart 52 = .ok (.ireturn, 1) := by decide +kernel
theorem dX1_placeToStart_53 : decode cX1_placeToStart 53 = .ok (.aload_n 0, 1) := by decide +kernel
theorem dX1_placeToStart_54 : decode cX1_placeToStart 54 = .ok (.getfield 28, 3) := by decide +kernel
theorem dX1_placeToStart_57 : decode cX1_placeToStart 57 = .ok (.iload_n 2, 1) := by decide +kernel
theorem dX1_placeToStart_58 : decode cX1_placeToStart 58 = .ok (.invokevirtual 136, 3) := by decide +kernel
theorem dX1_placeToStart_61 : decode cX1_placeToStart 61 = .ok (.ireturn, 1) := by decide +kernel
theorem dX1_placeToStart_62 : decode cX1_placeToStart 62 = .ok (.aload_n 0, 1) := by decide +kernel
theorem dX1_placeToStart_63 : decode cX1_placeToStart 63 = .ok (.getfield 28, 3) := by decide +kernel
theorem dX1_placeToStart_66 : decode cX1_placeToStart 66 = .ok (.iload_n 2, 1) := by decide +kernel
theorem dX1_placeToStart_67 : decode cX1_placeToStart 67 = .ok (.invokevirtual 73, 3) := by decide +kernel
theorem dX1_placeToStart_70 : decode cX1_placeToStart 70 = .ok (.ifCond .eq 7, 3) := by decide +kernel
theorem dX1_placeToStart_73 : decode cX1_placeToStart 73 = .ok (.iload_n 2, 1) := by decide +kernel
theorem dX1_placeToStart_74 : decode cX1_placeToStart 74 = .ok (.goto 11, 3) := by decide +kernel
theorem dX1_placeToStart_77 : decode cX1_placeToStart 77 = .ok (.aload_n 0, 1) := by decide +kernel
theorem dX1_placeToStart_78 : decode cX1_placeToStart 78 = .ok (.getfield 28, 3) := by decide +kernel
theorem dX1_placeToStart_81 : decode cX1_placeToStart 81 = .ok (.iload_n 2, 1) := by decide +kernel
theorem dX1_placeToStart_82 : decode cX1_placeToStart 82 = .ok (.invokevirtual 136, 3) := by decide +kernel
theorem dX1_placeToStart_85 : decode cX1_placeToStart 85 = .ok (.ireturn, 1) := by decide +kernel
theorem dX1_placeToStart_86 : decode cX1_placeToStart 86 = .ok (.aload_n 0, 1) := by decide +kernel
theorem dX1_placeToStart_87 : decode cX1_placeToStart 87 = .ok (.getfield 28, 3) := by decide +kernel
theorem dX1_placeToStart_90 : decode cX1_placeToStart 90 = .ok (.iload_n 2, 1) := by decide +kernel
theorem dX1_placeToStart_91 : decode cX1_placeToStart 91 = .ok (.invokevirtual 139, 3) := by decide +kernel
theorem dX1_placeToStart_94 : decode cX1_placeToStart 94 = .ok (.ireturn, 1) := by decide +kernel
theorem dX1_placeToStart_95 : decode cX1_placeToStart 95 = .ok (.aload_n 0, 1) := by decide +kernel
theorem dX1_placeToStart_96 : decode cX1_placeToStart 96 = .ok (.getfield 28, 3) := by decide +kernel
theorem dX1_placeToStart_99 : decode cX1_placeToStart 99 = .ok (.iload_n 2, 1) := by decide +kernel
theorem dX1_placeToStart_100 : decode cX1_placeToStart 100 = .ok (.invokevirtual 73, 3) := by decide +kernel
theorem dX1_placeToStart_103 : decode cX1_placeToStart 103 = .ok (.ifCond .eq 7, 3) := by decide +kernel
theorem dX1_placeToStart_106 : decode cX1_placeToStart 106 = .ok (.iload_n 2, 1) := by decide +kernel
theorem dX1_placeToStart_107 : decode cX1_placeToStart 107 = .ok (.goto 11, 3) := by decide +kernel
theorem dX1_placeToStart_110 : decode cX1_placeToStart 110 = .ok (.aload_n 0, 1) := by decide +kernel
theorem dX1_placeToStart_111 : decode cX1_placeToStart 111 = .ok (.getfield 28, 3) := by decide +kernel
theorem dX1_placeToStart_114 : decode cX1_placeToStart 114 = .ok (.iload_n 2, 1) := by decide +kernel
theorem dX1_placeToStart_115 : decode cX1_placeToStart 115 = .ok (.invokevirtual 139, 3) := by decide +kernel
theorem dX1_placeToStart_118 : decode cX1_placeToStart 118 = .ok (.ireturn, 1) := by decide +kernel
theorem dX1_placeToStart_119 : decode cX1_placeToStart 119 = .ok (.iconst 0, 1) := by decide +kernel
theorem dX1_placeToStart_120 : decode cX1_placeToStart 120 = .ok (.ireturn, 1) := by decide +kernel
theorem dX1_placeFromPosition_0 : decode cX1_placeFromPosition 0 = .ok (.aload_n 0, 1) := by decide +kernel
theorem dX1_placeFromPosition_1 : decode cX1_placeFromPosition 1 = .ok (.getfield 39, 3) := by decide +kernel
theorem dX1_placeFromPosition_4 : decode cX1_placeFromPosition 4 = .ok (.iconst 1, 1) := by decide +kernel
theorem dX1_placeFromPosition_5 : decode cX1_placeFromPosition 5 = .ok (.if_icmp .ne 22, 3) := by decide +kernel
theorem dX1_placeFromPosition_8 : decode cX1_placeFromPosition 8 = .ok (.aload_n 0, 1) := by decide +kernel
theorem dX1_placeFromPosition_9 : decode cX1_placeFromPosition 9 = .ok (.getfield 28, 3) := by decide +kernel
theorem dX1_placeFromPosition_12 : decode cX1_placeFromPosition 12 = .ok (.aload_n 0, 1) := by decide +kernel
theorem dX1_placeFromPosition_13 : decode cX1_placeFromPosition 13 = .ok (.getfield 42, 3) := by decide +kernel
theorem dX1_placeFromPosition_16 : decode cX1_placeFromPosition 16 = .ok (.invokevirtual 73, 3) := by decide +kernel
theorem dX1_placeFromPosition_19 : decode cX1_placeFromPosition 19 = .ok (.ifCond .eq 8, 3) := by decide +kernel
theorem dX1_placeFromPosition_22 : decode cX1_placeFromPosition 22 = .ok (.aload_n 0, 1) := by decide +kernel
theorem dX1_placeFromPosition_23 : decode cX1_placeFromPosition 23 = .ok (.getfield 42, 3) := by decide +kernel
theorem dX1_placeFromPosition_26 : decode cX1_placeFromPosition 26 = .ok (.ireturn, 1) := by decide +kernel
theorem dX1_placeFromPosition_27 : decode cX1_placeFromPosition 27 = .ok (.iload_n 1, 1) := by decide +kernel
theorem dX1_placeFromPosition_28 : decode cX1_placeFromPosition 28 = .ok (.ifCond .eq 17, 3) := by decide +kernel
theorem dX1_placeFromPosition_31 : decode cX1_placeFromPosition 31 = .ok (.aload_n 0, 1) := by decide +kernel
theorem dX1_placeFromPosition_32 : decode cX1_placeFromPosition 32 = .ok (.getfield 28, 3) := by decide +kernel
theorem dX1_placeFromPosition_35 : decode cX1_placeFromPosition 35 = .ok (.aload_n 0, 1) := by decide +kernel
theorem dX1_placeFromPosition_36 : decode cX1_placeFromPosition 36 = .ok (.getfield 42, 3) := by decide +kernel
theorem dX1_placeFromPosition_39 : decode cX1_placeFromPosition 39 = .ok (.invokevirtual 139, 3) := by decide +kernel
theorem dX1_placeFromPosition_42 : decode cX1_placeFromPosition 42 = .ok (.goto 14, 3) := by decide +kernel
theorem dX1_placeFromPosition_45 : decode cX1_placeFromPosition 45 = .ok (.aload_n 0, 1) := by decide +kernel
theorem dX1_placeFromPosition_46 : decode cX1_placeFromPosition 46 = .ok (.getfield 28, 3) := by decide +kernel
theorem dX1_placeFromPosition_49 : decode cX1_placeFromPosition 49 = .ok (.aload_n 0, 1) := by decide +kernel
theorem dX1_placeFromPosition_50 : decode cX1_placeFromPosition 50 = .ok (.getfield 42, 3) := by decide +kernel
theorem dX1_placeFromPosition_53 : decode cX1_placeFromPosition 53 = .ok (.invokevirtual 136, 3) := by decide +kernel
theorem dX1_placeFromPosition_56 : decode cX1_placeFromPosition 56 = .ok (.ireturn, 1) := by decide +kernel
theorem dX1_take_0 : decode cX1_take 0 = .ok (.aload_n 0, 1) := by decide +kernel
theorem dX1_take_1 : decode cX1_take 1 = .ok (.iconst 0, 1) := by decide +kernel
theorem dX1_take_2 : decode cX1_take 2 = .ok (.iload_n 1, 1) := by decide +kernel
theorem dX1_take_3 : decode cX1_take 3 = .ok (.invokevirtual 92, 3) := by decide +kernel
theorem dX1_take_6 : decode cX1_take 6 = .ok (.aload_n 0, 1) := by decide +kernel
theorem dX1_take_7 : decode cX1_take 7 = .ok (.iload_n 1, 1) := by decide +kernel
theorem dX1_take_8 : decode cX1_take 8 = .ok (.putfield 45, 3) := by decide +kernel
theorem dX1_take_11 : decode cX1_take 11 = .ok (.aload_n 0, 1) := by decide +kernel
theorem dX1_take_12 : decode cX1_take 12 = .ok (.aload_n 0, 1) := by decide +kernel
theorem dX1_take_13 : decode cX1_take 13 = .ok (.getfield 28, 3) := by decide +kernel
theorem dX1_take_16 : decode cX1_take 16 = .ok (.iload_n 1, 1) := by decide +kernel
theorem dX1_take_17 : decode cX1_take 17 = .ok (.invokevirtual 120, 3) := by decide +kernel
theorem dX1_take_20 : decode cX1_take 20 = .ok (.putfield 48, 3) := by decide +kernel
theorem dX1_take_23 : decode cX1_take 23 = .ok (.return_, 1) := by decide +kernel
theorem dX1_losePosition_0 : decode cX1_losePosition 0 = .ok (.aload_n 0, 1) := by decide +kernel
theorem dX1_losePosition_1 : decode cX1_losePosition 1 = .ok (.iconst 2, 1) := by decide +kernel
theorem dX1_losePosition_2 : decode cX1_losePosition 2 = .ok (.iconst 0, 1) := by decide +kernel
theorem dX1_losePosition_3 : decode cX1_losePosition 3 = .ok (.invokevirtual 92, 3) := by decide +kernel
theorem dX1_losePosition_6 : decode cX1_losePosition 6 = .ok (.return_, 1) := by decide +kernel
theorem dX1_stand_0 : decode cX1_stand 0 = .ok (.aload_n 0, 1) := by decide +kernel
theorem dX1_stand_1 : decode cX1_stand 1 = .ok (.iload_n 1, 1) := by decide +kernel
theorem dX1_stand_2 : decode cX1_stand 2 = .ok (.putfield 39, 3) := by decide +kernel
theorem dX1_stand_5 : decode cX1_stand 5 = .ok (.aload_n 0, 1) := by decide +kernel
theorem dX1_stand_6 : decode cX1_stand 6 = .ok (.iload_n 2, 1) := by decide +kernel
theorem dX1_stand_7 : decode cX1_stand 7 = .ok (.putfield 42, 3) := by decide +kernel
theorem dX1_stand_10 : decode cX1_stand 10 = .ok (.aload_n 0, 1) := by decide +kernel
theorem dX1_stand_11 : decode cX1_stand 11 = .ok (.iconst 0, 1) := by decide +kernel
theorem dX1_stand_12 : decode cX1_stand 12 = .ok (.putfield 45, 3) := by decide +kernel
theorem dX1_stand_15 : decode cX1_stand 15 = .ok (.return_, 1) := by decide +kernel
theorem dX1_isPlace_0 : decode cX1_isPlace 0 = .ok (.iload_n 1, 1) := by decide +kernel
theorem dX1_isPlace_1 : decode cX1_isPlace 1 = .ok (.iconst 1, 1) := by decide +kernel
theorem dX1_isPlace_2 : decode cX1_isPlace 2 = .ok (.if_icmp .lt 15, 3) := by decide +kernel
theorem dX1_isPlace_5 : decode cX1_isPlace 5 = .ok (.iload_n 1, 1) := by decide +kernel
theorem dX1_isPlace_6 : decode cX1_isPlace 6 = .ok (.aload_n 0, 1) := by decide +kernel
theorem dX1_isPlace_7 : decode cX1_isPlace 7 = .ok (.getfield 19, 3) := by decide +kernel
theorem dX1_isPlace_10 : decode cX1_isPlace 10 = .ok (.if_icmp .gt 7, 3) := by decide +kernel
theorem dX1_isPlace_13 : decode cX1_isPlace 13 = .ok (.iconst 1, 1) := by decide +kernel
theorem dX1_isPlace_14 : decode cX1_isPlace 14 = .ok (.goto 4, 3) := by decide +kernel
theorem dX1_isPlace_17 : decode cX1_isPlace 17 = .ok (.iconst 0, 1) := by decide +kernel
theorem dX1_isPlace_18 : decode cX1_isPlace 18 = .ok (.ireturn, 1) := by decide +kernel
theorem dX1_isTooLong_0 : decode cX1_isTooLong 0 = .ok (.iload_n 1, 1) := by decide +kernel
theorem dX1_isTooLong_1 : decode cX1_isTooLong 1 = .ok (.istore_n 2, 1) := by decide +kernel
theorem dX1_isTooLong_2 : decode cX1_isTooLong 2 = .ok (.iconst 0, 1) := by decide +kernel
theorem dX1_isTooLong_3 : decode cX1_isTooLong 3 = .ok (.istore_n 3, 1) := by decide +kernel
theorem dX1_isTooLong_4 : decode cX1_isTooLong 4 = .ok (.iload_n 3, 1) := by decide +kernel
theorem dX1_isTooLong_5 : decode cX1_isTooLong 5 = .ok (.aload_n 0, 1) := by decide +kernel
theorem dX1_isTooLong_6 : decode cX1_isTooLong 6 = .ok (.getfield 52, 3) := by decide +kernel
theorem dX1_isTooLong_9 : decode cX1_isTooLong 9 = .ok (.if_icmp .ge 14, 3) := by decide +kernel
theorem dX1_isTooLong_12 : decode cX1_isTooLong 12 = .ok (.iload_n 2, 1) := by decide +kernel
theorem dX1_isTooLong_13 : decode cX1_isTooLong 13 = .ok (.bipush 10, 2) := by decide +kernel
theorem dX1_isTooLong_15 : decode cX1_isTooLong 15 = .ok (.idiv, 1) := by decide +kernel
theorem dX1_isTooLong_16 : decode cX1_isTooLong 16 = .ok (.istore_n 2, 1) := by decide +kernel
theorem dX1_isTooLong_17 : decode cX1_isTooLong 17 = .ok (.iinc 3 1, 3) := by decide +kernel
theorem dX1_isTooLong_20 : decode cX1_isTooLong 20 = .ok (.goto (-16), 3) := by decide +kernel
theorem dX1_isTooLong_23 : decode cX1_isTooLong 23 = .ok (.iload_n 2, 1) := by decide +kernel
theorem dX1_isTooLong_24 : decode cX1_isTooLong 24 = .ok (.ifCond .le 7, 3) := by decide +kernel
theorem dX1_isTooLong_27 : decode cX1_isTooLong 27 = .ok (.iconst 1, 1) := by decide +kernel
theorem dX1_isTooLong_28 : decode cX1_isTooLong 28 = .ok (.goto 4, 3) := by decide +kernel
theorem dX1_isTooLong_31 : decode cX1_isTooLong 31 = .ok (.iconst 0, 1) := by decide +kernel
theorem dX1_isTooLong_32 : decode cX1_isTooLong 32 = .ok (.ireturn, 1) := by decide +kernel
