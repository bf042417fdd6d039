theorem dX2_init_0 : decode cX2_init 0 = .ok (.aload_n 0, 1) := by decide +kernel
theorem dX2_init_1 : decode cX2_init 1 = .ok (.invokespecial 1, 3) := by decide +kernel
theorem dX2_init_4 : decode cX2_init 4 = .ok (.aload_n 0, 1) := by decide +kernel
theorem dX2_init_5 : decode cX2_init 5 = .ok (.sipush 1100, 3) := by decide +kernel
theorem dX2_init_8 : decode cX2_init 8 = .ok (.newarray .int, 2) := by decide +kernel
theorem dX2_init_10 : decode cX2_init 10 = .ok (.putfield 7, 3) := by decide +kernel
theorem dX2_init_13 : decode cX2_init 13 = .ok (.aload_n 0, 1) := by decide +kernel
theorem dX2_init_14 : decode cX2_init 14 = .ok (.sipush 1100, 3) := by decide +kernel
theorem dX2_init_17 : decode cX2_init 17 = .ok (.newarray .long, 2) := by decide +kernel
theorem dX2_init_19 : decode cX2_init 19 = .ok (.putfield 13, 3) := by decide +kernel
theorem dX2_init_22 : decode cX2_init 22 = .ok (.aload_n 0, 1) := by decide +kernel
theorem dX2_init_23 : decode cX2_init 23 = .ok (.iconst (-1), 1) := by decide +kernel
theorem dX2_init_24 : decode cX2_init 24 = .ok (.putfield 17, 3) := by decide +kernel
theorem dX2_init_27 : decode cX2_init 27 = .ok (.aload_n 0, 1) := by decide +kernel
theorem dX2_init_28 : decode cX2_init 28 = .ok (.bipush 9, 2) := by decide +kernel
theorem dX2_init_30 : decode cX2_init 30 = .ok (.putfield 21, 3) := by decide +kernel
theorem dX2_init_33 : decode cX2_init 33 = .ok (.aload_n 0, 1) := by decide +kernel
theorem dX2_init_34 : decode cX2_init 34 = .ok (.iload_n 1, 1) := by decide +kernel
theorem dX2_init_35 : decode cX2_init 35 = .ok (.ifCond .ge 7, 3) := by decide +kernel
theorem dX2_init_38 : decode cX2_init 38 = .ok (.iconst 0, 1) := by decide +kernel
theorem dX2_init_39 : decode cX2_init 39 = .ok (.goto 15, 3) := by decide +kernel
theorem dX2_init_42 : decode cX2_init 42 = .ok (.iload_n 1, 1) := by decide +kernel
theorem dX2_init_43 : decode cX2_init 43 = .ok (.ldc 24, 2) := by decide +kernel
theorem dX2_init_45 : decode cX2_init 45 = .ok (.if_icmp .le 8, 3) := by decide +kernel
theorem dX2_init_48 : decode cX2_init 48 = .ok (.ldc 24, 2) := by decide +kernel
theorem dX2_init_50 : decode cX2_init 50 = .ok (.goto 4, 3) := by decide +kernel
theorem dX2_init_53 : decode cX2_init 53 = .ok (.iload_n 1, 1) := by decide +kernel
theorem dX2_init_54 : decode cX2_init 54 = .ok (.putfield 25, 3) := by decide +kernel
theorem dX2_init_57 : decode cX2_init 57 = .ok (.return_, 1) := by decide +kernel
theorem dX2_thrown_0 : decode cX2_thrown 0 = .ok (.aload_n 0, 1) := by decide +kernel
theorem dX2_thrown_1 : decode cX2_thrown 1 = .ok (.getfield 28, 3) := by decide +kernel
theorem dX2_thrown_4 : decode cX2_thrown 4 = .ok (.ireturn, 1) := by decide +kernel
theorem dX2_find_0 : decode cX2_find 0 = .ok (.iconst (-1), 1) := by decide +kernel
theorem dX2_find_1 : decode cX2_find 1 = .ok (.istore_n 2, 1) := by decide +kernel
theorem dX2_find_2 : decode cX2_find 2 = .ok (.iconst 0, 1) := by decide +kernel
theorem dX2_find_3 : decode cX2_find 3 = .ok (.istore_n 3, 1) := by decide +kernel
theorem dX2_find_4 : decode cX2_find 4 = .ok (.iload_n 3, 1) := by decide +kernel
theorem dX2_find_5 : decode cX2_find 5 = .ok (.aload_n 0, 1) := by decide +kernel
theorem dX2_find_6 : decode cX2_find 6 = .ok (.getfield 31, 3) := by decide +kernel
theorem dX2_find_9 : decode cX2_find 9 = .ok (.if_icmp .ge 25, 3) := by decide +kernel
theorem dX2_find_12 : decode cX2_find 12 = .ok (.aload_n 0, 1) := by decide +kernel
theorem dX2_find_13 : decode cX2_find 13 = .ok (.getfield 7, 3) := by decide +kernel
theorem dX2_find_16 : decode cX2_find 16 = .ok (.iload_n 3, 1) := by decide +kernel
theorem dX2_find_17 : decode cX2_find 17 = .ok (.iaload, 1) := by decide +kernel
theorem dX2_find_18 : decode cX2_find 18 = .ok (.iload_n 1, 1) := by decide +kernel
theorem dX2_find_19 : decode cX2_find 19 = .ok (.if_icmp .ne 7, 3) := by decide +kernel
theorem dX2_find_22 : decode cX2_find 22 = .ok (.iload_n 3, 1) := by decide +kernel
theorem dX2_find_23 : decode cX2_find 23 = .ok (.goto 4, 3) := by decide +kernel
theorem dX2_find_26 : decode cX2_find 26 = .ok (.iload_n 2, 1) := by decide +kernel
theorem dX2_find_27 : decode cX2_find 27 = .ok (.istore_n 2, 1) := by decide +kernel
theorem dX2_find_28 : decode cX2_find 28 = .ok (.iinc 3 1, 3) := by decide +kernel
theorem dX2_find_31 : decode cX2_find 31 = .ok (.goto (-27), 3) := by decide +kernel
theorem dX2_find_34 : decode cX2_find 34 = .ok (.iload_n 2, 1) := by decide +kernel
theorem dX2_find_35 : decode cX2_find 35 = .ok (.ireturn, 1) := by decide +kernel
theorem dX2_from_0 : decode cX2_from 0 = .ok (.iconst 0, 1) := by decide +kernel
theorem dX2_from_1 : decode cX2_from 1 = .ok (.istore_n 3, 1) := by decide +kernel
theorem dX2_from_2 : decode cX2_from 2 = .ok (.iconst 0, 1) := by decide +kernel
theorem dX2_from_3 : decode cX2_from 3 = .ok (.istore 4, 2) := by decide +kernel
theorem dX2_from_5 : decode cX2_from 5 = .ok (.iload 4, 2) := by decide +kernel
theorem dX2_from_7 : decode cX2_from 7 = .ok (.aload_n 0, 1) := by decide +kernel
theorem dX2_from_8 : decode cX2_from 8 = .ok (.getfield 31, 3) := by decide +kernel
theorem dX2_from_11 : decode cX2_from 11 = .ok (.if_icmp .ge 49, 3) := by decide +kernel
theorem dX2_from_14 : decode cX2_from 14 = .ok (.aload_n 0, 1) := by decide +kernel
theorem dX2_from_15 : decode cX2_from 15 = .ok (.getfield 7, 3) := by decide +kernel
theorem dX2_from_18 : decode cX2_from 18 = .ok (.iload 4, 2) := by decide +kernel
theorem dX2_from_20 : decode cX2_from 20 = .ok (.iaload, 1) := by decide +kernel
theorem dX2_from_21 : decode cX2_from 21 = .ok (.i2l, 1) := by decide +kernel
theorem dX2_from_22 : decode cX2_from 22 = .ok (.lload_n 1, 1) := by decide +kernel
theorem dX2_from_23 : decode cX2_from 23 = .ok (.lcmp, 1) := by decide +kernel
theorem dX2_from_24 : decode cX2_from 24 = .ok (.ifCond .lt 28, 3) := by decide +kernel
theorem dX2_from_27 : decode cX2_from 27 = .ok (.iload_n 3, 1) := by decide +kernel
theorem dX2_from_28 : decode cX2_from 28 = .ok (.ifCond .eq 14, 3) := by decide +kernel
theorem dX2_from_31 : decode cX2_from 31 = .ok (.aload_n 0, 1) := by decide +kernel
theorem dX2_from_32 : decode cX2_from 32 = .ok (.getfield 7, 3) := by decide +kernel
theorem dX2_from_35 : decode cX2_from 35 = .ok (.iload 4, 2) := by decide +kernel
theorem dX2_from_37 : decode cX2_from 37 = .ok (.iaload, 1) := by decide +kernel
theorem dX2_from_38 : decode cX2_from 38 = .ok (.iload_n 3, 1) := by decide +kernel
theorem dX2_from_39 : decode cX2_from 39 = .ok (.if_icmp .ge 13, 3) := by decide +kernel
theorem dX2_from_42 : decode cX2_from 42 = .ok (.aload_n 0, 1) := by decide +kernel
theorem dX2_from_43 : decode cX2_from 43 = .ok (.getfield 7, 3) := by decide +kernel
theorem dX2_from_46 : decode cX2_from 46 = .ok (.iload 4, 2) := by decide +kernel
theorem dX2_from_48 : decode cX2_from 48 = .ok (.iaload, 1) := by decide +kernel
theorem dX2_from_49 : decode cX2_from 49 = .ok (.goto 4, 3) := by decide +kernel
theorem dX2_from_52 : decode cX2_from 52 = .ok (.iload_n 3, 1) := by decide +kernel
theorem dX2_from_53 : decode cX2_from 53 = .ok (.istore_n 3, 1) := by decide +kernel
theorem dX2_from_54 : decode cX2_from 54 = .ok (.iinc 4 1, 3) := by decide +kernel
theorem dX2_from_57 : decode cX2_from 57 = .ok (.goto (-52), 3) := by decide +kernel
theorem dX2_from_60 : decode cX2_from 60 = .ok (.iload_n 3, 1) := by decide +kernel
theorem dX2_from_61 : decode cX2_from 61 = .ok (.ireturn, 1) := by decide +kernel
theorem dX2_upTo_0 : decode cX2_upTo 0 = .ok (.iconst 0, 1) := by decide +kernel
theorem dX2_upTo_1 : decode cX2_upTo 1 = .ok (.istore_n 3, 1) := by decide +kernel
theorem dX2_upTo_2 : decode cX2_upTo 2 = .ok (.iconst 0, 1) := by decide +kernel
theorem dX2_upTo_3 : decode cX2_upTo 3 = .ok (.istore 4, 2) := by decide +kernel
theorem dX2_upTo_5 : decode cX2_upTo 5 = .ok (.iload 4, 2) := by decide +kernel
theorem dX2_upTo_7 : decode cX2_upTo 7 = .ok (.aload_n 0, 1) := by decide +kernel
theorem dX2_upTo_8 : decode cX2_upTo 8 = .ok (.getfield 31, 3) := by decide +kernel
theorem dX2_upTo_11 : decode cX2_upTo 11 = .ok (.if_icmp .ge 45, 3) := by decide +kernel
theorem dX2_upTo_14 : decode cX2_upTo 14 = .ok (.aload_n 0, 1) := by decide +kernel
theorem dX2_upTo_15 : decode cX2_upTo 15 = .ok (.getfield 7, 3) := by decide +kernel
theorem dX2_upTo_18 : decode cX2_upTo 18 = .ok (.iload 4, 2) := by decide +kernel
theorem dX2_upTo_20 : decode cX2_upTo 20 = .ok (.iaload, 1) := by decide +kernel
theorem dX2_upTo_21 : decode cX2_upTo 21 = .ok (.i2l, 1) := by decide +kernel
theorem dX2_upTo_22 : decode cX2_upTo 22 = .ok (.lload_n 1, 1) := by decide +kernel
theorem dX2_upTo_23 : decode cX2_upTo 23 = .ok (.lcmp, 1) := by decide +kernel
theorem dX2_upTo_24 : decode cX2_upTo 24 = .ok (.ifCond .gt 24, 3) := by decide +kernel
theorem dX2_upTo_27 : decode cX2_upTo 27 = .ok (.aload_n 0, 1) := by decide +kernel
theorem dX2_upTo_28 : decode cX2_upTo 28 = .ok (.getfield 7, 3) := by decide +kernel
theorem dX2_upTo_31 : decode cX2_upTo 31 = .ok (.iload 4, 2) := by decide +kernel
theorem dX2_upTo_33 : decode cX2_upTo 33 = .ok (.iaload, 1) := by decide +kernel
theorem dX2_upTo_34 : decode cX2_upTo 34 = .ok (.iload_n 3, 1) := by decide +kernel
theorem dX2_upTo_35 : decode cX2_upTo 35 = .ok (.if_icmp .le 13, 3) := by decide +kernel
theorem dX2_upTo_38 : decode cX2_upTo 38 = .ok (.aload_n 0, 1) := by decide +kernel
theorem dX2_upTo_39 : decode cX2_upTo 39 = .ok (.getfield 7, 3) := by decide +kernel
theorem dX2_upTo_42 : decode cX2_upTo 42 = .ok (.iload 4, 2) := by decide +kernel
theorem dX2_upTo_44 : decode cX2_upTo 44 = .ok (.iaload, 1) := by decide +kernel
theorem dX2_upTo_45 : decode cX2_upTo 45 = .ok (.goto 4, 3) := by decide +kernel
theorem dX2_upTo_48 : decode cX2_upTo 48 = .ok (.iload_n 3, 1) := by decide +kernel
theorem dX2_upTo_49 : decode cX2_upTo 49 = .ok (.istore_n 3, 1) := by decide +kernel
theorem dX2_upTo_50 : decode cX2_upTo 50 = .ok (.iinc 4 1, 3) := by decide +kernel
theorem dX2_upTo_53 : decode cX2_upTo 53 = .ok (.goto (-48), 3) := by decide +kernel
theorem dX2_upTo_56 : decode cX2_upTo 56 = .ok (.iload_n 3, 1) := by decide +kernel
theorem dX2_upTo_57 : decode cX2_upTo 57 = .ok (.ireturn, 1) := by decide +kernel
theorem dX2_isLong_0 : decode cX2_isLong 0 = .ok (.lconst 1, 1) := by decide +kernel
theorem dX2_isLong_1 : decode cX2_isLong 1 = .ok (.lstore_n 2, 1) := by decide +kernel
theorem dX2_isLong_2 : decode cX2_isLong 2 = .ok (.iconst 0, 1) := by decide +kernel
theorem dX2_isLong_3 : decode cX2_isLong 3 = .ok (.istore 4, 2) := by decide +kernel
theorem dX2_isLong_5 : decode cX2_isLong 5 = .ok (.iload 4, 2) := by decide +kernel
theorem dX2_isLong_7 : decode cX2_isLong 7 = .ok (.aload_n 0, 1) := by decide +kernel
theorem dX2_isLong_8 : decode cX2_isLong 8 = .ok (.getfield 21, 3) := by decide +kernel
theorem dX2_isLong_11 : decode cX2_isLong 11 = .ok (.if_icmp .ge 15, 3) := by decide +kernel
theorem dX2_isLong_14 : decode cX2_isLong 14 = .ok (.lload_n 2, 1) := by decide +kernel
theorem dX2_isLong_15 : decode cX2_isLong 15 = .ok (.ldc2_w 34, 3) := by decide +kernel
theorem dX2_isLong_18 : decode cX2_isLong 18 = .ok (.lmul, 1) := by decide +kernel
theorem dX2_isLong_19 : decode cX2_isLong 19 = .ok (.lstore_n 2, 1) := by decide +kernel
theorem dX2_isLong_20 : decode cX2_isLong 20 = .ok (.iinc 4 1, 3) := by decide +kernel
theorem dX2_isLong_23 : decode cX2_isLong 23 = .ok (.goto (-18), 3) := by decide +kernel
theorem dX2_isLong_26 : decode cX2_isLong 26 = .ok (.iload_n 1, 1) := by decide +kernel
theorem dX2_isLong_27 : decode cX2_isLong 27 = .ok (.i2l, 1) := by decide +kernel
theorem dX2_isLong_28 : decode cX2_isLong 28 = .ok (.lload_n 2, 1) := by decide +kernel
theorem dX2_isLong_29 : decode cX2_isLong 29 = .ok (.lcmp, 1) := by decide +kernel
theorem dX2_isLong_30 : decode cX2_isLong 30 = .ok (.ifCond .lt 7, 3) := by decide +kernel
theorem dX2_isLong_33 : decode cX2_isLong 33 = .ok (.iconst 1, 1) := by decide +kernel
theorem dX2_isLong_34 : decode cX2_isLong 34 = .ok (.goto 4, 3) := by decide +kernel
theorem dX2_isLong_37 : decode cX2_isLong 37 = .ok (.iconst 0, 1) := by decide +kernel
theorem dX2_isLong_38 : decode cX2_isLong 38 = .ok (.ireturn, 1) := by decide +kernel
theorem dX2_isPlace_0 : decode cX2_isPlace 0 = .ok (.iload_n 1, 1) := by decide +kernel
theorem dX2_isPlace_1 : decode cX2_isPlace 1 = .ok (.ifCond .le 15, 3) := by decide +kernel
theorem dX2_isPlace_4 : decode cX2_isPlace 4 = .ok (.iload_n 1, 1) := by decide +kernel
theorem dX2_isPlace_5 : decode cX2_isPlace 5 = .ok (.aload_n 0, 1) := by decide +kernel
theorem dX2_isPlace_6 : decode cX2_isPlace 6 = .ok (.getfield 25, 3) := by decide +kernel
theorem dX2_isPlace_9 : decode cX2_isPlace 9 = .ok (.if_icmp .gt 7, 3) := by decide +kernel
theorem dX2_isPlace_12 : decode cX2_isPlace 12 = .ok (.iconst 1, 1) := by decide +kernel
theorem dX2_isPlace_13 : decode cX2_isPlace 13 = .ok (.goto 4, 3) := by decide +kernel
theorem dX2_isPlace_16 : decode cX2_isPlace 16 = .ok (.iconst 0, 1) := by decide +kernel
theorem dX2_isPlace_17 : decode cX2_isPlace 17 = .ok (.ireturn, 1) := by decide +kernel
theorem dX2_reads_0 : decode cX2_reads 0 = .ok (.aload_n 0, 1) := by decide +kernel
theorem dX2_reads_1 : decode cX2_reads 1 = .ok (.getfield 17, 3) := by decide +kernel
theorem dX2_reads_4 : decode cX2_reads 4 = .ok (.ifCond .eq 11, 3) := by decide +kernel
theorem dX2_reads_7 : decode cX2_reads 7 = .ok (.aload_n 0, 1) := by decide +kernel
theorem dX2_reads_8 : decode cX2_reads 8 = .ok (.getfield 17, 3) := by decide +kernel
theorem dX2_reads_11 : decode cX2_reads 11 = .ok (.iconst 2, 1) := by decide +kernel
theorem dX2_reads_12 : decode cX2_reads 12 = .ok (.if_icmp .ne 7, 3) := by decide +kernel
theorem dX2_reads_15 : decode cX2_reads 15 = .ok (.iconst 1, 1) := by decide +kernel
theorem dX2_reads_16 : decode cX2_reads 16 = .ok (.goto 4, 3) := by decide +kernel
theorem dX2_reads_19 : decode cX2_reads 19 = .ok (.iconst 0, 1) := by decide +kernel
theorem dX2_reads_20 : decode cX2_reads 20 = .ok (.ireturn, 1) := by decide +kernel
theorem dX2_open_0 : decode cX2_open 0 = .ok (.aload_n 0, 1) := by decide +kernel
theorem dX2_open_1 : decode cX2_open 1 = .ok (.iconst 0, 1) := by decide +kernel
theorem dX2_open_2 : decode cX2_open 2 = .ok (.putfield 28, 3) := by decide +kernel
theorem dX2_open_5 : decode cX2_open 5 = .ok (.iload_n 1, 1) := by decide +kernel
theorem dX2_open_6 : decode cX2_open 6 = .ok (.ifCond .lt 8, 3) := by decide +kernel
theorem dX2_open_9 : decode cX2_open 9 = .ok (.iload_n 1, 1) := by decide +kernel
theorem dX2_open_10 : decode cX2_open 10 = .ok (.iconst 4, 1) := by decide +kernel
theorem dX2_open_11 : decode cX2_open 11 = .ok (.if_icmp .le 5, 3) := by decide +kernel
theorem dX2_open_14 : decode cX2_open 14 = .ok (.iconst (-1), 1) := by decide +kernel
theorem dX2_open_15 : decode cX2_open 15 = .ok (.ireturn, 1) := by decide +kernel
theorem dX2_open_16 : decode cX2_open 16 = .ok (.iload_n 1, 1) := by decide +kernel
theorem dX2_open_17 : decode cX2_open 17 = .ok (.iconst 4, 1) := by decide +kernel
theorem dX2_open_18 : decode cX2_open 18 = .ok (.if_icmp .ne 26, 3) := by decide +kernel
theorem dX2_open_21 : decode cX2_open 21 = .ok (.aload_n 0, 1) := by decide +kernel
theorem dX2_open_22 : decode cX2_open 22 = .ok (.getfield 17, 3) := by decide +kernel
theorem dX2_open_25 : decode cX2_open 25 = .ok (.iconst (-1), 1) := by decide +kernel
theorem dX2_open_26 : decode cX2_open 26 = .ok (.if_icmp .ne 6, 3) := by decide +kernel
theorem dX2_open_29 : decode cX2_open 29 = .ok (.bipush 42, 2) := by decide +kernel
theorem dX2_open_31 : decode cX2_open 31 = .ok (.ireturn, 1) := by decide +kernel
theorem dX2_open_32 : decode cX2_open 32 = .ok (.aload_n 0, 1) := by decide +kernel
theorem dX2_open_33 : decode cX2_open 33 = .ok (.iconst (-1), 1) := by decide +kernel
theorem dX2_open_34 : decode cX2_open 34 = .ok (.putfield 17, 3) := by decide +kernel
theorem dX2_open_37 : decode cX2_open 37 = .ok (.aload_n 0, 1) := by decide +kernel
theorem dX2_open_38 : decode cX2_open 38 = .ok (.iconst 0, 1) := by decide +kernel
theorem dX2_open_39 : decode cX2_open 39 = .ok (.putfield 36, 3) := by decide +kernel
theorem dX2_open_42 : decode cX2_open 42 = .ok (.iconst 0, 1) := by decide +kernel
theorem dX2_open_43 : decode cX2_open 43 = .ok (.ireturn, 1) := by decide +kernel
theorem dX2_open_44 : decode cX2_open 44 = .ok (.aload_n 0, 1) := by decide +kernel
theorem dX2_open_45 : decode cX2_open 45 = .ok (.getfield 17, 3) := by decide +kernel
theorem dX2_open_48 : decode cX2_open 48 = .ok (.iconst (-1), 1) := by decide +kernel
theorem dX2_open_49 : decode cX2_open 49 = .ok (.if_icmp .eq 6, 3) := by decide +kernel
theorem dX2_open_52 : decode cX2_open 52 = .ok (.bipush 41, 2) := by decide +kernel
theorem dX2_open_54 : decode cX2_open 54 = .ok (.ireturn, 1) := by decide +kernel
theorem dX2_open_55 : decode cX2_open 55 = .ok (.aload_n 0, 1) := by decide +kernel
theorem dX2_open_56 : decode cX2_open 56 = .ok (.getfield 39, 3) := by decide +kernel
theorem dX2_open_59 : decode cX2_open 59 = .ok (.ifCond .ne 15, 3) := by decide +kernel
theorem dX2_open_62 : decode cX2_open 62 = .ok (.iload_n 1, 1) := by decide +kernel
theorem dX2_open_63 : decode cX2_open 63 = .ok (.ifCond .eq 8, 3) := by decide +kernel
theorem dX2_open_66 : decode cX2_open 66 = .ok (.iload_n 1, 1) := by decide +kernel
theorem dX2_open_67 : decode cX2_open 67 = .ok (.iconst 2, 1) := by decide +kernel
theorem dX2_open_68 : decode cX2_open 68 = .ok (.if_icmp .ne 6, 3) := by decide +kernel
theorem dX2_open_71 : decode cX2_open 71 = .ok (.bipush 35, 2) := by decide +kernel
theorem dX2_open_73 : decode cX2_open 73 = .ok (.ireturn, 1) := by decide +kernel
theorem dX2_open_74 : decode cX2_open 74 = .ok (.aload_n 0, 1) := by decide +kernel
theorem dX2_open_75 : decode cX2_open 75 = .ok (.getfield 39, 3) := by decide +kernel
theorem dX2_open_78 : decode cX2_open 78 = .ok (.ifCond .ne 7, 3) := by decide +kernel
theorem dX2_open_81 : decode cX2_open 81 = .ok (.iconst 1, 1) := by decide +kernel
theorem dX2_open_82 : decode cX2_open 82 = .ok (.goto 4, 3) := by decide +kernel
theorem dX2_open_85 : decode cX2_open 85 = .ok (.iconst 0, 1) := by decide +kernel
theorem dX2_open_86 : decode cX2_open 86 = .ok (.istore_n 2, 1) := by decide +kernel
theorem dX2_open_87 : decode cX2_open 87 = .ok (.aload_n 0, 1) := by decide +kernel
theorem dX2_open_88 : decode cX2_open 88 = .ok (.iconst 1, 1) := by decide +kernel
theorem dX2_open_89 : decode cX2_open 89 = .ok (.putfield 39, 3) := by decide +kernel
theorem dX2_open_92 : decode cX2_open 92 = .ok (.aload_n 0, 1) := by decide +kernel
theorem dX2_open_93 : decode cX2_open 93 = .ok (.iload_n 1, 1) := by decide +kernel
theorem dX2_open_94 : decode cX2_open 94 = .ok (.iconst 1, 1) := by decide +kernel
theorem dX2_open_95 : decode cX2_open 95 = .ok (.if_icmp .ne 7, 3) := by decide +kernel
theorem dX2_open_98 : decode cX2_open 98 = .ok (.iconst 0, 1) := by decide +kernel
theorem dX2_open_99 : decode cX2_open 99 = .ok (.goto 7, 3) := by decide +kernel
theorem dX2_open_102 : decode cX2_open 102 = .ok (.aload_n 0, 1) := by decide +kernel
theorem dX2_open_103 : decode cX2_open 103 = .ok (.getfield 31, 3) := by decide +kernel
theorem dX2_open_106 : decode cX2_open 106 = .ok (.putfield 31, 3) := by decide +kernel
theorem dX2_open_109 : decode cX2_open 109 = .ok (.aload_n 0, 1) := by decide +kernel
theorem dX2_open_110 : decode cX2_open 110 = .ok (.iload_n 1, 1) := by decide +kernel
theorem dX2_open_111 : decode cX2_open 111 = .ok (.putfield 17, 3) := by decide +kernel
theorem dX2_open_114 : decode cX2_open 114 = .ok (.aload_n 0, 1) := by decide +kernel
theorem dX2_open_115 : decode cX2_open 115 = .ok (.iconst 0, 1) := by decide +kernel
theorem dX2_open_116 : decode cX2_open 116 = .ok (.putfield 43, 3) := by decide +kernel
theorem dX2_open_119 : decode cX2_open 119 = .ok (.aload_n 0, 1) := by decide +kernel
theorem dX2_open_120 : decode cX2_open 120 = .ok (.iconst 0, 1) := by decide +kernel
theorem dX2_open_121 : decode cX2_open 121 = .ok (.putfield 46, 3) := by decide +kernel
theorem dX2_open_124 : decode cX2_open 124 = .ok (.aload_n 0, 1) := by decide +kernel
theorem dX2_open_125 : decode cX2_open 125 = .ok (.iconst 0, 1) := by decide +kernel
theorem dX2_open_126 : decode cX2_open 126 = .ok (.putfield 36, 3) := by decide +kernel
theorem dX2_open_129 : decode cX2_open 129 = .ok (.iload_n 1, 1) := by decide +kernel
theorem dX2_open_130 : decode cX2_open 130 = .ok (.iconst 3, 1) := by decide +kernel
theorem dX2_open_131 : decode cX2_open 131 = .ok (.if_icmp .ne 11, 3) := by decide +kernel
theorem dX2_open_134 : decode cX2_open 134 = .ok (.iload_n 2, 1) := by decide +kernel
theorem dX2_open_135 : decode cX2_open 135 = .ok (.ifCond .eq 7, 3) := by decide +kernel
theorem dX2_open_138 : decode cX2_open 138 = .ok (.iconst 5, 1) := by decide +kernel
theorem dX2_open_139 : decode cX2_open 139 = .ok (.goto 4, 3) := by decide +kernel
theorem dX2_open_142 : decode cX2_open 142 = .ok (.iconst 0, 1) := by decide +kernel
theorem dX2_open_143 : decode cX2_open 143 = .ok (.ireturn, 1) := by decide +kernel
theorem dX2_add_0 : decode cX2_add 0 = .ok (.aload_n 0, 1) := by decide +kernel
theorem dX2_add_1 : decode cX2_add 1 = .ok (.getfield 7, 3) := by decide +kernel
theorem dX2_add_4 : decode cX2_add 4 = .ok (.aload_n 0, 1) := by decide +kernel
theorem dX2_add_5 : decode cX2_add 5 = .ok (.getfield 31, 3) := by decide +kernel
theorem dX2_add_8 : decode cX2_add 8 = .ok (.iload_n 1, 1) := by decide +kernel
theorem dX2_add_9 : decode cX2_add 9 = .ok (.iastore, 1) := by decide +kernel
theorem dX2_add_10 : decode cX2_add 10 = .ok (.aload_n 0, 1) := by decide +kernel
theorem dX2_add_11 : decode cX2_add 11 = .ok (.getfield 13, 3) := by decide +kernel
theorem dX2_add_14 : decode cX2_add 14 = .ok (.aload_n 0, 1) := by decide +kernel
theorem dX2_add_15 : decode cX2_add 15 = .ok (.getfield 31, 3) := by decide +kernel
theorem dX2_add_18 : decode cX2_add 18 = .ok (.lload_n 2, 1) := by decide +kernel
theorem dX2_add_19 : decode cX2_add 19 = .ok (.lastore, 1) := by decide +kernel
theorem dX2_add_20 : decode cX2_add 20 = .ok (.aload_n 0, 1) := by decide +kernel
theorem dX2_add_21 : decode cX2_add 21 = .ok (.dup, 1) := by decide +kernel
theorem dX2_add_22 : decode cX2_add 22 = .ok (.getfield 31, 3) := by decide +kernel
theorem dX2_add_25 : decode cX2_add 25 = .ok (.iconst 1, 1) := by decide +kernel
theorem dX2_add_26 : decode cX2_add 26 = .ok (.iadd, 1) := by decide +kernel
theorem dX2_add_27 : decode cX2_add 27 = .ok (.putfield 31, 3) := by decide +kernel
theorem dX2_add_30 : decode cX2_add 30 = .ok (.aload_n 0, 1) := by decide +kernel
theorem dX2_add_31 : decode cX2_add 31 = .ok (.lload_n 2, 1) := by decide +kernel
theorem dX2_add_32 : decode cX2_add 32 = .ok (.putfield 49, 3) := by decide +kernel
theorem dX2_add_35 : decode cX2_add 35 = .ok (.return_, 1) := by decide +kernel
theorem dX2_write_0 : decode cX2_write 0 = .ok (.aload_n 0, 1) := by decide +kernel
theorem dX2_write_1 : decode cX2_write 1 = .ok (.iconst 0, 1) := by decide +kernel
theorem dX2_write_2 : decode cX2_write 2 = .ok (.putfield 28, 3) := by decide +kernel
theorem dX2_write_5 : decode cX2_write 5 = .ok (.aload_n 0, 1) := by decide +kernel
theorem dX2_write_6 : decode cX2_write 6 = .ok (.getfield 17, 3) := by decide +kernel
theorem dX2_write_9 : decode cX2_write 9 = .ok (.iconst (-1), 1) := by decide +kernel
theorem dX2_write_10 : decode cX2_write 10 = .ok (.if_icmp .ne 6, 3) := by decide +kernel
theorem dX2_write_13 : decode cX2_write 13 = .ok (.bipush 42, 2) := by decide +kernel
theorem dX2_write_15 : decode cX2_write 15 = .ok (.ireturn, 1) := by decide +kernel
theorem dX2_write_16 : decode cX2_write 16 = .ok (.aload_n 0, 1) := by decide +kernel
theorem dX2_write_17 : decode cX2_write 17 = .ok (.getfield 17, 3) := by decide +kernel
theorem dX2_write_20 : decode cX2_write 20 = .ok (.ifCond .ne 6, 3) := by decide +kernel
theorem dX2_write_23 : decode cX2_write 23 = .ok (.bipush 48, 2) := by decide +kernel
theorem dX2_write_25 : decode cX2_write 25 = .ok (.ireturn, 1) := by decide +kernel
theorem dX2_write_26 : decode cX2_write 26 = .ok (.aload_n 0, 1) := by decide +kernel
theorem dX2_write_27 : decode cX2_write 27 = .ok (.iconst 0, 1) := by decide +kernel
theorem dX2_write_28 : decode cX2_write 28 = .ok (.putfield 36, 3) := by decide +kernel
theorem dX2_write_31 : decode cX2_write 31 = .ok (.iload_n 1, 1) := by decide +kernel
theorem dX2_write_32 : decode cX2_write 32 = .ok (.iconst (-1), 1) := by decide +kernel
theorem dX2_write_33 : decode cX2_write 33 = .ok (.if_icmp .ne 14, 3) := by decide +kernel
theorem dX2_write_36 : decode cX2_write 36 = .ok (.aload_n 0, 1) := by decide +kernel
theorem dX2_write_37 : decode cX2_write 37 = .ok (.getfield 17, 3) := by decide +kernel
theorem dX2_write_40 : decode cX2_write 40 = .ok (.iconst 2, 1) := by decide +kernel
theorem dX2_write_41 : decode cX2_write 41 = .ok (.if_icmp .ne 6, 3) := by decide +kernel
theorem dX2_write_44 : decode cX2_write 44 = .ok (.bipush 24, 2) := by decide +kernel
theorem dX2_write_46 : decode cX2_write 46 = .ok (.ireturn, 1) := by decide +kernel
theorem dX2_write_47 : decode cX2_write 47 = .ok (.iload_n 1, 1) := by decide +kernel
theorem dX2_write_48 : decode cX2_write 48 = .ok (.iconst (-1), 1) := by decide +kernel
theorem dX2_write_49 : decode cX2_write 49 = .ok (.if_icmp .ne 17, 3) := by decide +kernel
theorem dX2_write_52 : decode cX2_write 52 = .ok (.aload_n 0, 1) := by decide +kernel
theorem dX2_write_53 : decode cX2_write 53 = .ok (.aload_n 0, 1) := by decide +kernel
theorem dX2_write_54 : decode cX2_write 54 = .ok (.getfield 25, 3) := by decide +kernel
theorem dX2_write_57 : decode cX2_write 57 = .ok (.i2l, 1) := by decide +kernel
theorem dX2_write_58 : decode cX2_write 58 = .ok (.invokevirtual 53, 3) := by decide +kernel
theorem dX2_write_61 : decode cX2_write 61 = .ok (.iconst 1, 1) := by decide +kernel
theorem dX2_write_62 : decode cX2_write 62 = .ok (.iadd, 1) := by decide +kernel
theorem dX2_write_63 : decode cX2_write 63 = .ok (.goto 4, 3) := by decide +kernel
theorem dX2_write_66 : decode cX2_write 66 = .ok (.iload_n 1, 1) := by decide +kernel
theorem dX2_write_67 : decode cX2_write 67 = .ok (.istore 4, 2) := by decide +kernel
theorem dX2_write_69 : decode cX2_write 69 = .ok (.aload_n 0, 1) := by decide +kernel
theorem dX2_write_70 : decode cX2_write 70 = .ok (.iload 4, 2) := by decide +kernel
theorem dX2_write_72 : decode cX2_write 72 = .ok (.invokevirtual 57, 3) := by decide +kernel
theorem dX2_write_75 : decode cX2_write 75 = .ok (.ifCond .eq 12, 3) := by decide +kernel
theorem dX2_write_78 : decode cX2_write 78 = .ok (.aload_n 0, 1) := by decide +kernel
theorem dX2_write_79 : decode cX2_write 79 = .ok (.iload 4, 2) := by decide +kernel
theorem dX2_write_81 : decode cX2_write 81 = .ok (.invokevirtual 61, 3) := by decide +kernel
theorem dX2_write_84 : decode cX2_write 84 = .ok (.ifCond .eq 6, 3) := by decide +kernel
theorem dX2_write_87 : decode cX2_write 87 = .ok (.bipush 24, 2) := by decide +kernel
theorem dX2_write_89 : decode cX2_write 89 = .ok (.ireturn, 1) := by decide +kernel
theorem dX2_write_90 : decode cX2_write 90 = .ok (.aload_n 0, 1) := by decide +kernel
theorem dX2_write_91 : decode cX2_write 91 = .ok (.iload 4, 2) := by decide +kernel
theorem dX2_write_93 : decode cX2_write 93 = .ok (.invokevirtual 64, 3) := by decide +kernel
theorem dX2_write_96 : decode cX2_write 96 = .ok (.iconst (-1), 1) := by decide +kernel
theorem dX2_write_97 : decode cX2_write 97 = .ok (.if_icmp .eq 6, 3) := by decide +kernel
theorem dX2_write_100 : decode cX2_write 100 = .ok (.bipush 22, 2) := by decide +kernel
theorem dX2_write_102 : decode cX2_write 102 = .ok (.ireturn, 1) := by decide +kernel
theorem dX2_write_103 : decode cX2_write 103 = .ok (.aload_n 0, 1) := by decide +kernel
theorem dX2_write_104 : decode cX2_write 104 = .ok (.iload 4, 2) := by decide +kernel
theorem dX2_write_106 : decode cX2_write 106 = .ok (.lload_n 2, 1) := by decide +kernel
theorem dX2_write_107 : decode cX2_write 107 = .ok (.invokevirtual 68, 3) := by decide +kernel
theorem dX2_write_110 : decode cX2_write 110 = .ok (.iconst 0, 1) := by decide +kernel
theorem dX2_write_111 : decode cX2_write 111 = .ok (.ireturn, 1) := by decide +kernel
theorem dX2_take_0 : decode cX2_take 0 = .ok (.aload_n 0, 1) := by decide +kernel
theorem dX2_take_1 : decode cX2_take 1 = .ok (.iconst 1, 1) := by decide +kernel
theorem dX2_take_2 : decode cX2_take 2 = .ok (.putfield 43, 3) := by decide +kernel
theorem dX2_take_5 : decode cX2_take 5 = .ok (.aload_n 0, 1) := by decide +kernel
theorem dX2_take_6 : decode cX2_take 6 = .ok (.iload_n 1, 1) := by decide +kernel
theorem dX2_take_7 : decode cX2_take 7 = .ok (.putfield 72, 3) := by decide +kernel
theorem dX2_take_10 : decode cX2_take 10 = .ok (.aload_n 0, 1) := by decide +kernel
theorem dX2_take_11 : decode cX2_take 11 = .ok (.iload_n 1, 1) := by decide +kernel
theorem dX2_take_12 : decode cX2_take 12 = .ok (.putfield 36, 3) := by decide +kernel
theorem dX2_take_15 : decode cX2_take 15 = .ok (.aload_n 0, 1) := by decide +kernel
theorem dX2_take_16 : decode cX2_take 16 = .ok (.aload_n 0, 1) := by decide +kernel
theorem dX2_take_17 : decode cX2_take 17 = .ok (.getfield 13, 3) := by decide +kernel
theorem dX2_take_20 : decode cX2_take 20 = .ok (.aload_n 0, 1) := by decide +kernel
theorem dX2_take_21 : decode cX2_take 21 = .ok (.iload_n 1, 1) := by decide +kernel
theorem dX2_take_22 : decode cX2_take 22 = .ok (.invokevirtual 64, 3) := by decide +kernel
theorem dX2_take_25 : decode cX2_take 25 = .ok (.laload, 1) := by decide +kernel
theorem dX2_take_26 : decode cX2_take 26 = .ok (.putfield 49, 3) := by decide +kernel
theorem dX2_take_29 : decode cX2_take 29 = .ok (.return_, 1) := by decide +kernel
theorem dX2_read_0 : decode cX2_read 0 = .ok (.aload_n 0, 1) := by decide +kernel
theorem dX2_read_1 : decode cX2_read 1 = .ok (.iconst 0, 1) := by decide +kernel
theorem dX2_read_2 : decode cX2_read 2 = .ok (.putfield 28, 3) := by decide +kernel
theorem dX2_read_5 : decode cX2_read 5 = .ok (.aload_n 0, 1) := by decide +kernel
theorem dX2_read_6 : decode cX2_read 6 = .ok (.getfield 17, 3) := by decide +kernel
theorem dX2_read_9 : decode cX2_read 9 = .ok (.iconst (-1), 1) := by decide +kernel
theorem dX2_read_10 : decode cX2_read 10 = .ok (.if_icmp .ne 6, 3) := by decide +kernel
theorem dX2_read_13 : decode cX2_read 13 = .ok (.bipush 42, 2) := by decide +kernel
theorem dX2_read_15 : decode cX2_read 15 = .ok (.ireturn, 1) := by decide +kernel
theorem dX2_read_16 : decode cX2_read 16 = .ok (.aload_n 0, 1) := by decide +kernel
theorem dX2_read_17 : decode cX2_read 17 = .ok (.invokevirtual 75, 3) := by decide +kernel
theorem dX2_read_20 : decode cX2_read 20 = .ok (.ifCond .ne 6, 3) := by decide +kernel
theorem dX2_read_23 : decode cX2_read 23 = .ok (.bipush 47, 2) := by decide +kernel
theorem dX2_read_25 : decode cX2_read 25 = .ok (.ireturn, 1) := by decide +kernel
theorem dX2_read_26 : decode cX2_read 26 = .ok (.aload_n 0, 1) := by decide +kernel
theorem dX2_read_27 : decode cX2_read 27 = .ok (.iconst 0, 1) := by decide +kernel
theorem dX2_read_28 : decode cX2_read 28 = .ok (.putfield 36, 3) := by decide +kernel
theorem dX2_read_31 : decode cX2_read 31 = .ok (.aload_n 0, 1) := by decide +kernel
theorem dX2_read_32 : decode cX2_read 32 = .ok (.iconst 0, 1) := by decide +kernel
theorem dX2_read_33 : decode cX2_read 33 = .ok (.putfield 46, 3) := by decide +kernel
theorem dX2_read_36 : decode cX2_read 36 = .ok (.aload_n 0, 1) := by decide +kernel
theorem dX2_read_37 : decode cX2_read 37 = .ok (.iconst 3, 1) := by decide +kernel
theorem dX2_read_38 : decode cX2_read 38 = .ok (.putfield 43, 3) := by decide +kernel
theorem dX2_read_41 : decode cX2_read 41 = .ok (.aload_n 0, 1) := by decide +kernel
theorem dX2_read_42 : decode cX2_read 42 = .ok (.iload_n 1, 1) := by decide +kernel
theorem dX2_read_43 : decode cX2_read 43 = .ok (.invokevirtual 64, 3) := by decide +kernel
theorem dX2_read_46 : decode cX2_read 46 = .ok (.iconst (-1), 1) := by decide +kernel
theorem dX2_read_47 : decode cX2_read 47 = .ok (.if_icmp .ne 6, 3) := by decide +kernel
theorem dX2_read_50 : decode cX2_read 50 = .ok (.bipush 23, 2) := by decide +kernel
theorem dX2_read_52 : decode cX2_read 52 = .ok (.ireturn, 1) := by decide +kernel
theorem dX2_read_53 : decode cX2_read 53 = .ok (.aload_n 0, 1) := by decide +kernel
theorem dX2_read_54 : decode cX2_read 54 = .ok (.iload_n 1, 1) := by decide +kernel
theorem dX2_read_55 : decode cX2_read 55 = .ok (.invokevirtual 79, 3) := by decide +kernel
theorem dX2_read_58 : decode cX2_read 58 = .ok (.iconst 0, 1) := by decide +kernel
theorem dX2_read_59 : decode cX2_read 59 = .ok (.ireturn, 1) := by decide +kernel
theorem dX2_value_0 : decode cX2_value 0 = .ok (.aload_n 0, 1) := by decide +kernel
theorem dX2_value_1 : decode cX2_value 1 = .ok (.iconst 0, 1) := by decide +kernel
theorem dX2_value_2 : decode cX2_value 2 = .ok (.putfield 28, 3) := by decide +kernel
theorem dX2_value_5 : decode cX2_value 5 = .ok (.aload_n 0, 1) := by decide +kernel
theorem dX2_value_6 : decode cX2_value 6 = .ok (.getfield 49, 3) := by decide +kernel
theorem dX2_value_9 : decode cX2_value 9 = .ok (.lreturn, 1) := by decide +kernel
theorem dX2_start_0 : decode cX2_start 0 = .ok (.aload_n 0, 1) := by decide +kernel
theorem dX2_start_1 : decode cX2_start 1 = .ok (.iconst 0, 1) := by decide +kernel
theorem dX2_start_2 : decode cX2_start 2 = .ok (.putfield 28, 3) := by decide +kernel
theorem dX2_start_5 : decode cX2_start 5 = .ok (.iload_n 1, 1) := by decide +kernel
theorem dX2_start_6 : decode cX2_start 6 = .ok (.ifCond .lt 8, 3) := by decide +kernel
theorem dX2_start_9 : decode cX2_start 9 = .ok (.iload_n 1, 1) := by decide +kernel
theorem dX2_start_10 : decode cX2_start 10 = .ok (.iconst 4, 1) := by decide +kernel
theorem dX2_start_11 : decode cX2_start 11 = .ok (.if_icmp .le 5, 3) := by decide +kernel
theorem dX2_start_14 : decode cX2_start 14 = .ok (.iconst (-1), 1) := by decide +kernel
theorem dX2_start_15 : decode cX2_start 15 = .ok (.ireturn, 1) := by decide +kernel
theorem dX2_start_16 : decode cX2_start 16 = .ok (.aload_n 0, 1) := by decide +kernel
theorem dX2_start_17 : decode cX2_start 17 = .ok (.getfield 17, 3) := by decide +kernel
theorem dX2_start_20 : decode cX2_start 20 = .ok (.iconst (-1), 1) := by decide +kernel
theorem dX2_start_21 : decode cX2_start 21 = .ok (.if_icmp .ne 6, 3) := by decide +kernel
theorem dX2_start_24 : decode cX2_start 24 = .ok (.bipush 42, 2) := by decide +kernel
theorem dX2_start_26 : decode cX2_start 26 = .ok (.ireturn, 1) := by decide +kernel
theorem dX2_start_27 : decode cX2_start 27 = .ok (.aload_n 0, 1) := by decide +kernel
theorem dX2_start_28 : decode cX2_start 28 = .ok (.invokevirtual 75, 3) := by decide +kernel
theorem dX2_start_31 : decode cX2_start 31 = .ok (.ifCond .ne 6, 3) := by decide +kernel
theorem dX2_start_34 : decode cX2_start 34 = .ok (.bipush 47, 2) := by decide +kernel
theorem dX2_start_36 : decode cX2_start 36 = .ok (.ireturn, 1) := by decide +kernel
theorem dX2_start_37 : decode cX2_start 37 = .ok (.aload_n 0, 1) := by decide +kernel
theorem dX2_start_38 : decode cX2_start 38 = .ok (.iconst 0, 1) := by decide +kernel
theorem dX2_start_39 : decode cX2_start 39 = .ok (.putfield 36, 3) := by decide +kernel
theorem dX2_start_42 : decode cX2_start 42 = .ok (.aload_n 0, 1) := by decide +kernel
theorem dX2_start_43 : decode cX2_start 43 = .ok (.iconst 0, 1) := by decide +kernel
theorem dX2_start_44 : decode cX2_start 44 = .ok (.putfield 46, 3) := by decide +kernel
theorem dX2_start_47 : decode cX2_start 47 = .ok (.iconst 0, 1) := by decide +kernel
theorem dX2_start_48 : decode cX2_start 48 = .ok (.istore_n 3, 1) := by decide +kernel
theorem dX2_start_49 : decode cX2_start 49 = .ok (.iload_n 1, 1) := by decide +kernel
theorem dX2_start_50 : decode cX2_start 50 = .ok (.tableswitch 82 0 3 #[30, 48, 60, 70], 30) := by decide +kernel
theorem dX2_start_80 : decode cX2_start 80 = .ok (.aload_n 0, 1) := by decide +kernel
theorem dX2_start_81 : decode cX2_start 81 = .ok (.iload_n 2, 1) := by decide +kernel
theorem dX2_start_82 : decode cX2_start 82 = .ok (.invokevirtual 64, 3) := by decide +kernel
theorem dX2_start_85 : decode cX2_start 85 = .ok (.iconst (-1), 1) := by decide +kernel
theorem dX2_start_86 : decode cX2_start 86 = .ok (.if_icmp .ne 7, 3) := by decide +kernel
theorem dX2_start_89 : decode cX2_start 89 = .ok (.iconst 0, 1) := by decide +kernel
theorem dX2_start_90 : decode cX2_start 90 = .ok (.goto 4, 3) := by decide +kernel
theorem dX2_start_93 : decode cX2_start 93 = .ok (.iload_n 2, 1) := by decide +kernel
theorem dX2_start_94 : decode cX2_start 94 = .ok (.istore_n 3, 1) := by decide +kernel
theorem dX2_start_95 : decode cX2_start 95 = .ok (.goto 44, 3) := by decide +kernel
theorem dX2_start_98 : decode cX2_start 98 = .ok (.aload_n 0, 1) := by decide +kernel
theorem dX2_start_99 : decode cX2_start 99 = .ok (.iload_n 2, 1) := by decide +kernel
theorem dX2_start_100 : decode cX2_start 100 = .ok (.i2l, 1) := by decide +kernel
theorem dX2_start_101 : decode cX2_start 101 = .ok (.lconst 1, 1) := by decide +kernel
theorem dX2_start_102 : decode cX2_start 102 = .ok (.ladd, 1) := by decide +kernel
theorem dX2_start_103 : decode cX2_start 103 = .ok (.invokevirtual 83, 3) := by decide +kernel
theorem dX2_start_106 : decode cX2_start 106 = .ok (.istore_n 3, 1) := by decide +kernel
theorem dX2_start_107 : decode cX2_start 107 = .ok (.goto 32, 3) := by decide +kernel
theorem dX2_start_110 : decode cX2_start 110 = .ok (.aload_n 0, 1) := by decide +kernel
theorem dX2_start_111 : decode cX2_start 111 = .ok (.iload_n 2, 1) := by decide +kernel
theorem dX2_start_112 : decode cX2_start 112 = .ok (.i2l, 1) := by decide +kernel
theorem dX2_start_113 : decode cX2_start 113 = .ok (.invokevirtual 83, 3) := by decide +kernel
theorem dX2_start_116 : decode cX2_start 116 = .ok (.istore_n 3, 1) := by decide +kernel
theorem dX2_start_117 : decode cX2_start 117 = .ok (.goto 22, 3) := by decide +kernel
theorem dX2_start_120 : decode cX2_start 120 = .ok (.aload_n 0, 1) := by decide +kernel
theorem dX2_start_121 : decode cX2_start 121 = .ok (.iload_n 2, 1) := by decide +kernel
theorem dX2_start_122 : decode cX2_start 122 = .ok (.i2l, 1) := by decide +kernel
theorem dX2_start_123 : decode cX2_start 123 = .ok (.lconst 1, 1) := by decide +kernel
theorem dX2_start_124 : decode cX2_start 124 = .ok (.lsub, 1) := by decide +kernel
theorem dX2_start_125 : decode cX2_start 125 = .ok (.invokevirtual 53, 3) := by decide +kernel
theorem dX2_start_128 : decode cX2_start 128 = .ok (.istore_n 3, 1) := by decide +kernel
theorem dX2_start_129 : decode cX2_start 129 = .ok (.goto 10, 3) := by decide +kernel
theorem dX2_start_132 : decode cX2_start 132 = .ok (.aload_n 0, 1) := by decide +kernel
theorem dX2_start_133 : decode cX2_start 133 = .ok (.iload_n 2, 1) := by decide +kernel
theorem dX2_start_134 : decode cX2_start 134 = .ok (.i2l, 1) := by decide +kernel
theorem dX2_start_135 : decode cX2_start 135 = .ok (.invokevirtual 53, 3) := by decide +kernel
theorem dX2_start_138 : decode cX2_start 138 = .ok (.istore_n 3, 1) := by decide +kernel
theorem dX2_start_139 : decode cX2_start 139 = .ok (.aload_n 0, 1) := by decide +kernel
theorem dX2_start_140 : decode cX2_start 140 = .ok (.iload_n 3, 1) := by decide +kernel
theorem dX2_start_141 : decode cX2_start 141 = .ok (.ifCond .ne 7, 3) := by decide +kernel
theorem dX2_start_144 : decode cX2_start 144 = .ok (.iconst 3, 1) := by decide +kernel
theorem dX2_start_145 : decode cX2_start 145 = .ok (.goto 4, 3) := by decide +kernel
theorem dX2_start_148 : decode cX2_start 148 = .ok (.iconst 2, 1) := by decide +kernel
theorem dX2_start_149 : decode cX2_start 149 = .ok (.putfield 43, 3) := by decide +kernel
theorem dX2_start_152 : decode cX2_start 152 = .ok (.aload_n 0, 1) := by decide +kernel
theorem dX2_start_153 : decode cX2_start 153 = .ok (.iload_n 3, 1) := by decide +kernel
theorem dX2_start_154 : decode cX2_start 154 = .ok (.putfield 72, 3) := by decide +kernel
theorem dX2_start_157 : decode cX2_start 157 = .ok (.iload_n 3, 1) := by decide +kernel
theorem dX2_start_158 : decode cX2_start 158 = .ok (.ifCond .ne 8, 3) := by decide +kernel
theorem dX2_start_161 : decode cX2_start 161 = .ok (.bipush 23, 2) := by decide +kernel
theorem dX2_start_163 : decode cX2_start 163 = .ok (.goto 4, 3) := by decide +kernel
theorem dX2_start_166 : decode cX2_start 166 = .ok (.iconst 0, 1) := by decide +kernel
theorem dX2_start_167 : decode cX2_start 167 = .ok (.ireturn, 1) := by decide +kernel
theorem dX2_next_0 : decode cX2_next 0 = .ok (.aload_n 0, 1) := by decide +kernel
theorem dX2_next_1 : decode cX2_next 1 = .ok (.iconst 0, 1) := by decide +kernel
theorem dX2_next_2 : decode cX2_next 2 = .ok (.putfield 28, 3) := by decide +kernel
theorem dX2_next_5 : decode cX2_next 5 = .ok (.aload_n 0, 1) := by decide +kernel
theorem dX2_next_6 : decode cX2_next 6 = .ok (.getfield 17, 3) := by decide +kernel
theorem dX2_next_9 : decode cX2_next 9 = .ok (.iconst (-1), 1) := by decide +kernel
theorem dX2_next_10 : decode cX2_next 10 = .ok (.if_icmp .ne 6, 3) := by decide +kernel
theorem dX2_next_13 : decode cX2_next 13 = .ok (.bipush 42, 2) := by decide +kernel
theorem dX2_next_15 : decode cX2_next 15 = .ok (.ireturn, 1) := by decide +kernel
theorem dX2_next_16 : decode cX2_next 16 = .ok (.aload_n 0, 1) := by decide +kernel
theorem dX2_next_17 : decode cX2_next 17 = .ok (.invokevirtual 75, 3) := by decide +kernel
theorem dX2_next_20 : decode cX2_next 20 = .ok (.ifCond .ne 6, 3) := by decide +kernel
theorem dX2_next_23 : decode cX2_next 23 = .ok (.bipush 47, 2) := by decide +kernel
theorem dX2_next_25 : decode cX2_next 25 = .ok (.ireturn, 1) := by decide +kernel
theorem dX2_next_26 : decode cX2_next 26 = .ok (.aload_n 0, 1) := by decide +kernel
theorem dX2_next_27 : decode cX2_next 27 = .ok (.iconst 0, 1) := by decide +kernel
theorem dX2_next_28 : decode cX2_next 28 = .ok (.putfield 36, 3) := by decide +kernel
theorem dX2_next_31 : decode cX2_next 31 = .ok (.aload_n 0, 1) := by decide +kernel
theorem dX2_next_32 : decode cX2_next 32 = .ok (.getfield 43, 3) := by decide +kernel
theorem dX2_next_35 : decode cX2_next 35 = .ok (.iconst 3, 1) := by decide +kernel
theorem dX2_next_36 : decode cX2_next 36 = .ok (.if_icmp .eq 10, 3) := by decide +kernel
theorem dX2_next_39 : decode cX2_next 39 = .ok (.aload_n 0, 1) := by decide +kernel
theorem dX2_next_40 : decode cX2_next 40 = .ok (.getfield 46, 3) := by decide +kernel
theorem dX2_next_43 : decode cX2_next 43 = .ok (.ifCond .eq 6, 3) := by decide +kernel
theorem dX2_next_46 : decode cX2_next 46 = .ok (.bipush 46, 2) := by decide +kernel
theorem dX2_next_48 : decode cX2_next 48 = .ok (.ireturn, 1) := by decide +kernel
theorem dX2_next_49 : decode cX2_next 49 = .ok (.aload_n 0, 1) := by decide +kernel
theorem dX2_next_50 : decode cX2_next 50 = .ok (.getfield 43, 3) := by decide +kernel
theorem dX2_next_53 : decode cX2_next 53 = .ok (.ifCond .ne 7, 3) := by decide +kernel
theorem dX2_next_56 : decode cX2_next 56 = .ok (.lconst 0, 1) := by decide +kernel
theorem dX2_next_57 : decode cX2_next 57 = .ok (.goto 40, 3) := by decide +kernel
theorem dX2_next_60 : decode cX2_next 60 = .ok (.aload_n 0, 1) := by decide +kernel
theorem dX2_next_61 : decode cX2_next 61 = .ok (.getfield 43, 3) := by decide +kernel
theorem dX2_next_64 : decode cX2_next 64 = .ok (.iconst 2, 1) := by decide +kernel
theorem dX2_next_65 : decode cX2_next 65 = .ok (.if_icmp .ne 11, 3) := by decide +kernel
theorem dX2_next_68 : decode cX2_next 68 = .ok (.aload_n 0, 1) := by decide +kernel
theorem dX2_next_69 : decode cX2_next 69 = .ok (.getfield 72, 3) := by decide +kernel
theorem dX2_next_72 : decode cX2_next 72 = .ok (.i2l, 1) := by decide +kernel
theorem dX2_next_73 : decode cX2_next 73 = .ok (.goto 24, 3) := by decide +kernel
theorem dX2_next_76 : decode cX2_next 76 = .ok (.iload_n 1, 1) := by decide +kernel
theorem dX2_next_77 : decode cX2_next 77 = .ok (.ifCond .eq 13, 3) := by decide +kernel
theorem dX2_next_80 : decode cX2_next 80 = .ok (.aload_n 0, 1) := by decide +kernel
theorem dX2_next_81 : decode cX2_next 81 = .ok (.getfield 72, 3) := by decide +kernel
theorem dX2_next_84 : decode cX2_next 84 = .ok (.i2l, 1) := by decide +kernel
theorem dX2_next_85 : decode cX2_next 85 = .ok (.lconst 1, 1) := by decide +kernel
theorem dX2_next_86 : decode cX2_next 86 = .ok (.lsub, 1) := by decide +kernel
theorem dX2_next_87 : decode cX2_next 87 = .ok (.goto 10, 3) := by decide +kernel
theorem dX2_next_90 : decode cX2_next 90 = .ok (.aload_n 0, 1) := by decide +kernel
theorem dX2_next_91 : decode cX2_next 91 = .ok (.getfield 72, 3) := by decide +kernel
theorem dX2_next_94 : decode cX2_next 94 = .ok (.i2l, 1) := by decide +kernel
theorem dX2_next_95 : decode cX2_next 95 = .ok (.lconst 1, 1) := by decide +kernel
theorem dX2_next_96 : decode cX2_next 96 = .ok (.ladd, 1) := by decide +kernel
theorem dX2_next_97 : decode cX2_next 97 = .ok (.lstore_n 2, 1) := by decide +kernel
theorem dX2_next_98 : decode cX2_next 98 = .ok (.iload_n 1, 1) := by decide +kernel
theorem dX2_next_99 : decode cX2_next 99 = .ok (.ifCond .eq 11, 3) := by decide +kernel
theorem dX2_next_102 : decode cX2_next 102 = .ok (.aload_n 0, 1) := by decide +kernel
theorem dX2_next_103 : decode cX2_next 103 = .ok (.lload_n 2, 1) := by decide +kernel
theorem dX2_next_104 : decode cX2_next 104 = .ok (.invokevirtual 53, 3) := by decide +kernel
theorem dX2_next_107 : decode cX2_next 107 = .ok (.goto 8, 3) := by decide +kernel
theorem dX2_next_110 : decode cX2_next 110 = .ok (.aload_n 0, 1) := by decide +kernel
theorem dX2_next_111 : decode cX2_next 111 = .ok (.lload_n 2, 1) := by decide +kernel
theorem dX2_next_112 : decode cX2_next 112 = .ok (.invokevirtual 83, 3) := by decide +kernel
theorem dX2_next_115 : decode cX2_next 115 = .ok (.istore 4, 2) := by decide +kernel
theorem dX2_next_117 : decode cX2_next 117 = .ok (.aload_n 0, 1) := by decide +kernel
theorem dX2_next_118 : decode cX2_next 118 = .ok (.iload 4, 2) := by decide +kernel
theorem dX2_next_120 : decode cX2_next 120 = .ok (.ifCond .ne 7, 3) := by decide +kernel
theorem dX2_next_123 : decode cX2_next 123 = .ok (.iconst 1, 1) := by decide +kernel
theorem dX2_next_124 : decode cX2_next 124 = .ok (.goto 4, 3) := by decide +kernel
theorem dX2_next_127 : decode cX2_next 127 = .ok (.iconst 0, 1) := by decide +kernel
theorem dX2_next_128 : decode cX2_next 128 = .ok (.putfield 46, 3) := by decide +kernel
theorem dX2_next_131 : decode cX2_next 131 = .ok (.aload_n 0, 1) := by decide +kernel
theorem dX2_next_132 : decode cX2_next 132 = .ok (.getfield 46, 3) := by decide +kernel
theorem dX2_next_135 : decode cX2_next 135 = .ok (.ifCond .eq 6, 3) := by decide +kernel
theorem dX2_next_138 : decode cX2_next 138 = .ok (.bipush 10, 2) := by decide +kernel
theorem dX2_next_140 : decode cX2_next 140 = .ok (.ireturn, 1) := by decide +kernel
theorem dX2_next_141 : decode cX2_next 141 = .ok (.aload_n 0, 1) := by decide +kernel
theorem dX2_next_142 : decode cX2_next 142 = .ok (.iload 4, 2) := by decide +kernel
theorem dX2_next_144 : decode cX2_next 144 = .ok (.invokevirtual 61, 3) := by decide +kernel
theorem dX2_next_147 : decode cX2_next 147 = .ok (.ifCond .eq 11, 3) := by decide +kernel
theorem dX2_next_150 : decode cX2_next 150 = .ok (.aload_n 0, 1) := by decide +kernel
theorem dX2_next_151 : decode cX2_next 151 = .ok (.iconst 3, 1) := by decide +kernel
theorem dX2_next_152 : decode cX2_next 152 = .ok (.putfield 43, 3) := by decide +kernel
theorem dX2_next_155 : decode cX2_next 155 = .ok (.bipush 14, 2) := by decide +kernel
theorem dX2_next_157 : decode cX2_next 157 = .ok (.ireturn, 1) := by decide +kernel
theorem dX2_next_158 : decode cX2_next 158 = .ok (.aload_n 0, 1) := by decide +kernel
theorem dX2_next_159 : decode cX2_next 159 = .ok (.iload 4, 2) := by decide +kernel
theorem dX2_next_161 : decode cX2_next 161 = .ok (.invokevirtual 79, 3) := by decide +kernel
theorem dX2_next_164 : decode cX2_next 164 = .ok (.iconst 0, 1) := by decide +kernel
theorem dX2_next_165 : decode cX2_next 165 = .ok (.ireturn, 1) := by decide +kernel
theorem dX2_meant_0 : decode cX2_meant 0 = .ok (.iload_n 1, 1) := by decide +kernel
theorem dX2_meant_1 : decode cX2_meant 1 = .ok (.iconst (-1), 1) := by decide +kernel
theorem dX2_meant_2 : decode cX2_meant 2 = .ok (.if_icmp .ne 25, 3) := by decide +kernel
theorem dX2_meant_5 : decode cX2_meant 5 = .ok (.aload_n 0, 1) := by decide +kernel
theorem dX2_meant_6 : decode cX2_meant 6 = .ok (.getfield 36, 3) := by decide +kernel
theorem dX2_meant_9 : decode cX2_meant 9 = .ok (.ifCond .ne 7, 3) := by decide +kernel
theorem dX2_meant_12 : decode cX2_meant 12 = .ok (.iconst (-1), 1) := by decide +kernel
theorem dX2_meant_13 : decode cX2_meant 13 = .ok (.goto 19, 3) := by decide +kernel
theorem dX2_meant_16 : decode cX2_meant 16 = .ok (.aload_n 0, 1) := by decide +kernel
theorem dX2_meant_17 : decode cX2_meant 17 = .ok (.aload_n 0, 1) := by decide +kernel
theorem dX2_meant_18 : decode cX2_meant 18 = .ok (.getfield 36, 3) := by decide +kernel
theorem dX2_meant_21 : decode cX2_meant 21 = .ok (.invokevirtual 64, 3) := by decide +kernel
theorem dX2_meant_24 : decode cX2_meant 24 = .ok (.goto 8, 3) := by decide +kernel
theorem dX2_meant_27 : decode cX2_meant 27 = .ok (.aload_n 0, 1) := by decide +kernel
theorem dX2_meant_28 : decode cX2_meant 28 = .ok (.iload_n 1, 1) := by decide +kernel
theorem dX2_meant_29 : decode cX2_meant 29 = .ok (.invokevirtual 64, 3) := by decide +kernel
theorem dX2_meant_32 : decode cX2_meant 32 = .ok (.ireturn, 1) := by decide +kernel
theorem dX2_rewrite_0 : decode cX2_rewrite 0 = .ok (.aload_n 0, 1) := by decide +kernel
theorem dX2_rewrite_1 : decode cX2_rewrite 1 = .ok (.iconst 0, 1) := by decide +kernel
theorem dX2_rewrite_2 : decode cX2_rewrite 2 = .ok (.putfield 28, 3) := by decide +kernel
theorem dX2_rewrite_5 : decode cX2_rewrite 5 = .ok (.aload_n 0, 1) := by decide +kernel
theorem dX2_rewrite_6 : decode cX2_rewrite 6 = .ok (.getfield 17, 3) := by decide +kernel
theorem dX2_rewrite_9 : decode cX2_rewrite 9 = .ok (.iconst (-1), 1) := by decide +kernel
theorem dX2_rewrite_10 : decode cX2_rewrite 10 = .ok (.if_icmp .ne 6, 3) := by decide +kernel
theorem dX2_rewrite_13 : decode cX2_rewrite 13 = .ok (.bipush 42, 2) := by decide +kernel
theorem dX2_rewrite_15 : decode cX2_rewrite 15 = .ok (.ireturn, 1) := by decide +kernel
theorem dX2_rewrite_16 : decode cX2_rewrite 16 = .ok (.aload_n 0, 1) := by decide +kernel
theorem dX2_rewrite_17 : decode cX2_rewrite 17 = .ok (.getfield 17, 3) := by decide +kernel
theorem dX2_rewrite_20 : decode cX2_rewrite 20 = .ok (.iconst 2, 1) := by decide +kernel
theorem dX2_rewrite_21 : decode cX2_rewrite 21 = .ok (.if_icmp .eq 6, 3) := by decide +kernel
theorem dX2_rewrite_24 : decode cX2_rewrite 24 = .ok (.bipush 49, 2) := by decide +kernel
theorem dX2_rewrite_26 : decode cX2_rewrite 26 = .ok (.ireturn, 1) := by decide +kernel
theorem dX2_rewrite_27 : decode cX2_rewrite 27 = .ok (.aload_n 0, 1) := by decide +kernel
theorem dX2_rewrite_28 : decode cX2_rewrite 28 = .ok (.iload_n 1, 1) := by decide +kernel
theorem dX2_rewrite_29 : decode cX2_rewrite 29 = .ok (.invokevirtual 86, 3) := by decide +kernel
theorem dX2_rewrite_32 : decode cX2_rewrite 32 = .ok (.istore 4, 2) := by decide +kernel
theorem dX2_rewrite_34 : decode cX2_rewrite 34 = .ok (.aload_n 0, 1) := by decide +kernel
theorem dX2_rewrite_35 : decode cX2_rewrite 35 = .ok (.iconst 0, 1) := by decide +kernel
theorem dX2_rewrite_36 : decode cX2_rewrite 36 = .ok (.putfield 36, 3) := by decide +kernel
theorem dX2_rewrite_39 : decode cX2_rewrite 39 = .ok (.iload 4, 2) := by decide +kernel
theorem dX2_rewrite_41 : decode cX2_rewrite 41 = .ok (.iconst (-1), 1) := by decide +kernel
theorem dX2_rewrite_42 : decode cX2_rewrite 42 = .ok (.if_icmp .ne 16, 3) := by decide +kernel
theorem dX2_rewrite_45 : decode cX2_rewrite 45 = .ok (.iload_n 1, 1) := by decide +kernel
theorem dX2_rewrite_46 : decode cX2_rewrite 46 = .ok (.iconst (-1), 1) := by decide +kernel
theorem dX2_rewrite_47 : decode cX2_rewrite 47 = .ok (.if_icmp .ne 8, 3) := by decide +kernel
theorem dX2_rewrite_50 : decode cX2_rewrite 50 = .ok (.bipush 43, 2) := by decide +kernel
theorem dX2_rewrite_52 : decode cX2_rewrite 52 = .ok (.goto 5, 3) := by decide +kernel
theorem dX2_rewrite_55 : decode cX2_rewrite 55 = .ok (.bipush 23, 2) := by decide +kernel
theorem dX2_rewrite_57 : decode cX2_rewrite 57 = .ok (.ireturn, 1) := by decide +kernel
theorem dX2_rewrite_58 : decode cX2_rewrite 58 = .ok (.aload_n 0, 1) := by decide +kernel
theorem dX2_rewrite_59 : decode cX2_rewrite 59 = .ok (.getfield 13, 3) := by decide +kernel
theorem dX2_rewrite_62 : decode cX2_rewrite 62 = .ok (.iload 4, 2) := by decide +kernel
theorem dX2_rewrite_64 : decode cX2_rewrite 64 = .ok (.lload_n 2, 1) := by decide +kernel
theorem dX2_rewrite_65 : decode cX2_rewrite 65 = .ok (.lastore, 1) := by decide +kernel
theorem dX2_rewrite_66 : decode cX2_rewrite 66 = .ok (.aload_n 0, 1) := by decide +kernel
theorem dX2_rewrite_67 : decode cX2_rewrite 67 = .ok (.lload_n 2, 1) := by decide +kernel
theorem dX2_rewrite_68 : decode cX2_rewrite 68 = .ok (.putfield 49, 3) := by decide +kernel
theorem dX2_rewrite_71 : decode cX2_rewrite 71 = .ok (.iconst 0, 1) := by decide +kernel
theorem dX2_rewrite_72 : decode cX2_rewrite 72 = .ok (.ireturn, 1) := by decide +kernel
theorem dX2_remove_0 : decode cX2_remove 0 = .ok (.aload_n 0, 1) := by decide +kernel
theorem dX2_remove_1 : decode cX2_remove 1 = .ok (.iconst 0, 1) := by decide +kernel
theorem dX2_remove_2 : decode cX2_remove 2 = .ok (.putfield 28, 3) := by decide +kernel
theorem dX2_remove_5 : decode cX2_remove 5 = .ok (.aload_n 0, 1) := by decide +kernel
theorem dX2_remove_6 : decode cX2_remove 6 = .ok (.getfield 17, 3) := by decide +kernel
theorem dX2_remove_9 : decode cX2_remove 9 = .ok (.iconst (-1), 1) := by decide +kernel
theorem dX2_remove_10 : decode cX2_remove 10 = .ok (.if_icmp .ne 6, 3) := by decide +kernel
theorem dX2_remove_13 : decode cX2_remove 13 = .ok (.bipush 42, 2) := by decide +kernel
theorem dX2_remove_15 : decode cX2_remove 15 = .ok (.ireturn, 1) := by decide +kernel
theorem dX2_remove_16 : decode cX2_remove 16 = .ok (.aload_n 0, 1) := by decide +kernel
theorem dX2_remove_17 : decode cX2_remove 17 = .ok (.getfield 17, 3) := by decide +kernel
theorem dX2_remove_20 : decode cX2_remove 20 = .ok (.iconst 2, 1) := by decide +kernel
theorem dX2_remove_21 : decode cX2_remove 21 = .ok (.if_icmp .eq 6, 3) := by decide +kernel
theorem dX2_remove_24 : decode cX2_remove 24 = .ok (.bipush 49, 2) := by decide +kernel
theorem dX2_remove_26 : decode cX2_remove 26 = .ok (.ireturn, 1) := by decide +kernel
theorem dX2_remove_27 : decode cX2_remove 27 = .ok (.aload_n 0, 1) := by decide +kernel
theorem dX2_remove_28 : decode cX2_remove 28 = .ok (.iload_n 1, 1) := by decide +kernel
theorem dX2_remove_29 : decode cX2_remove 29 = .ok (.invokevirtual 86, 3) := by decide +kernel
theorem dX2_remove_32 : decode cX2_remove 32 = .ok (.istore_n 2, 1) := by decide +kernel
theorem dX2_remove_33 : decode cX2_remove 33 = .ok (.aload_n 0, 1) := by decide +kernel
theorem dX2_remove_34 : decode cX2_remove 34 = .ok (.iconst 0, 1) := by decide +kernel
theorem dX2_remove_35 : decode cX2_remove 35 = .ok (.putfield 36, 3) := by decide +kernel
theorem dX2_remove_38 : decode cX2_remove 38 = .ok (.iload_n 2, 1) := by decide +kernel
theorem dX2_remove_39 : decode cX2_remove 39 = .ok (.iconst (-1), 1) := by decide +kernel
theorem dX2_remove_40 : decode cX2_remove 40 = .ok (.if_icmp .ne 16, 3) := by decide +kernel
theorem dX2_remove_43 : decode cX2_remove 43 = .ok (.iload_n 1, 1) := by decide +kernel
theorem dX2_remove_44 : decode cX2_remove 44 = .ok (.iconst (-1), 1) := by decide +kernel
theorem dX2_remove_45 : decode cX2_remove 45 = .ok (.if_icmp .ne 8, 3) := by decide +kernel
theorem dX2_remove_48 : decode cX2_remove 48 = .ok (.bipush 43, 2) := by decide +kernel
theorem dX2_remove_50 : decode cX2_remove 50 = .ok (.goto 5, 3) := by decide +kernel
theorem dX2_remove_53 : decode cX2_remove 53 = .ok (.bipush 23, 2) := by decide +kernel
theorem dX2_remove_55 : decode cX2_remove 55 = .ok (.ireturn, 1) := by decide +kernel
theorem dX2_remove_56 : decode cX2_remove 56 = .ok (.aload_n 0, 1) := by decide +kernel
theorem dX2_remove_57 : decode cX2_remove 57 = .ok (.dup, 1) := by decide +kernel
theorem dX2_remove_58 : decode cX2_remove 58 = .ok (.getfield 31, 3) := by decide +kernel
theorem dX2_remove_61 : decode cX2_remove 61 = .ok (.iconst 1, 1) := by decide +kernel
theorem dX2_remove_62 : decode cX2_remove 62 = .ok (.isub, 1) := by decide +kernel
theorem dX2_remove_63 : decode cX2_remove 63 = .ok (.putfield 31, 3) := by decide +kernel
theorem dX2_remove_66 : decode cX2_remove 66 = .ok (.aload_n 0, 1) := by decide +kernel
theorem dX2_remove_67 : decode cX2_remove 67 = .ok (.getfield 7, 3) := by decide +kernel
theorem dX2_remove_70 : decode cX2_remove 70 = .ok (.iload_n 2, 1) := by decide +kernel
theorem dX2_remove_71 : decode cX2_remove 71 = .ok (.aload_n 0, 1) := by decide +kernel
theorem dX2_remove_72 : decode cX2_remove 72 = .ok (.getfield 7, 3) := by decide +kernel
theorem dX2_remove_75 : decode cX2_remove 75 = .ok (.aload_n 0, 1) := by decide +kernel
theorem dX2_remove_76 : decode cX2_remove 76 = .ok (.getfield 31, 3) := by decide +kernel
theorem dX2_remove_79 : decode cX2_remove 79 = .ok (.iaload, 1) := by decide +kernel
theorem dX2_remove_80 : decode cX2_remove 80 = .ok (.iastore, 1) := by decide +kernel
theorem dX2_remove_81 : decode cX2_remove 81 = .ok (.aload_n 0, 1) := by decide +kernel
theorem dX2_remove_82 : decode cX2_remove 82 = .ok (.getfield 13, 3) := by decide +kernel
theorem dX2_remove_85 : decode cX2_remove 85 = .ok (.iload_n 2, 1) := by decide +kernel
theorem dX2_remove_86 : decode cX2_remove 86 = .ok (.aload_n 0, 1) := by decide +kernel
theorem dX2_remove_87 : decode cX2_remove 87 = .ok (.getfield 13, 3) := by decide +kernel
theorem dX2_remove_90 : decode cX2_remove 90 = .ok (.aload_n 0, 1) := by decide +kernel
theorem dX2_remove_91 : decode cX2_remove 91 = .ok (.getfield 31, 3) := by decide +kernel
theorem dX2_remove_94 : decode cX2_remove 94 = .ok (.laload, 1) := by decide +kernel
theorem dX2_remove_95 : decode cX2_remove 95 = .ok (.lastore, 1) := by decide +kernel
theorem dX2_remove_96 : decode cX2_remove 96 = .ok (.iconst 0, 1) := by decide +kernel
theorem dX2_remove_97 : decode cX2_remove 97 = .ok (.ireturn, 1) := by decide +kernel
theorem dX2_number_0 : decode cX2_number 0 = .ok (.aload_n 0, 1) := by decide +kernel
theorem dX2_number_1 : decode cX2_number 1 = .ok (.iconst 0, 1) := by decide +kernel
theorem dX2_number_2 : decode cX2_number 2 = .ok (.putfield 28, 3) := by decide +kernel
theorem dX2_number_5 : decode cX2_number 5 = .ok (.aload_n 0, 1) := by decide +kernel
theorem dX2_number_6 : decode cX2_number 6 = .ok (.getfield 36, 3) := by decide +kernel
theorem dX2_number_9 : decode cX2_number 9 = .ok (.ireturn, 1) := by decide +kernel
theorem dX2_cell_0 : decode cX2_cell 0 = .ok (.aload_n 0, 1) := by decide +kernel
theorem dX2_cell_1 : decode cX2_cell 1 = .ok (.aload_n 0, 1) := by decide +kernel
theorem dX2_cell_2 : decode cX2_cell 2 = .ok (.iload_n 1, 1) := by decide +kernel
theorem dX2_cell_3 : decode cX2_cell 3 = .ok (.invokevirtual 57, 3) := by decide +kernel
theorem dX2_cell_6 : decode cX2_cell 6 = .ok (.ifCond .eq 7, 3) := by decide +kernel
theorem dX2_cell_9 : decode cX2_cell 9 = .ok (.iconst 0, 1) := by decide +kernel
theorem dX2_cell_10 : decode cX2_cell 10 = .ok (.goto 4, 3) := by decide +kernel
theorem dX2_cell_13 : decode cX2_cell 13 = .ok (.iconst 1, 1) := by decide +kernel
theorem dX2_cell_14 : decode cX2_cell 14 = .ok (.putfield 28, 3) := by decide +kernel
theorem dX2_cell_17 : decode cX2_cell 17 = .ok (.aload_n 0, 1) := by decide +kernel
theorem dX2_cell_18 : decode cX2_cell 18 = .ok (.iload_n 1, 1) := by decide +kernel
theorem dX2_cell_19 : decode cX2_cell 19 = .ok (.invokevirtual 64, 3) := by decide +kernel
theorem dX2_cell_22 : decode cX2_cell 22 = .ok (.istore_n 2, 1) := by decide +kernel
theorem dX2_cell_23 : decode cX2_cell 23 = .ok (.aload_n 0, 1) := by decide +kernel
theorem dX2_cell_24 : decode cX2_cell 24 = .ok (.getfield 28, 3) := by decide +kernel
theorem dX2_cell_27 : decode cX2_cell 27 = .ok (.ifCond .gt 8, 3) := by decide +kernel
theorem dX2_cell_30 : decode cX2_cell 30 = .ok (.iload_n 2, 1) := by decide +kernel
theorem dX2_cell_31 : decode cX2_cell 31 = .ok (.iconst (-1), 1) := by decide +kernel
theorem dX2_cell_32 : decode cX2_cell 32 = .ok (.if_icmp .ne 7, 3) := by decide +kernel
theorem dX2_cell_35 : decode cX2_cell 35 = .ok (.lconst 0, 1) := by decide +kernel
theorem dX2_cell_36 : decode cX2_cell 36 = .ok (.goto 9, 3) := by decide +kernel
theorem dX2_cell_39 : decode cX2_cell 39 = .ok (.aload_n 0, 1) := by decide +kernel
theorem dX2_cell_40 : decode cX2_cell 40 = .ok (.getfield 13, 3) := by decide +kernel
theorem dX2_cell_43 : decode cX2_cell 43 = .ok (.iload_n 2, 1) := by decide +kernel
theorem dX2_cell_44 : decode cX2_cell 44 = .ok (.laload, 1) := by decide +kernel
theorem dX2_cell_45 : decode cX2_cell 45 = .ok (.lreturn, 1) := by decide +kernel
theorem dX2_records_0 : decode cX2_records 0 = .ok (.aload_n 0, 1) := by decide +kernel
theorem dX2_records_1 : decode cX2_records 1 = .ok (.iconst 0, 1) := by decide +kernel
theorem dX2_records_2 : decode cX2_records 2 = .ok (.putfield 28, 3) := by decide +kernel
theorem dX2_records_5 : decode cX2_records 5 = .ok (.aload_n 0, 1) := by decide +kernel
theorem dX2_records_6 : decode cX2_records 6 = .ok (.getfield 31, 3) := by decide +kernel
theorem dX2_records_9 : decode cX2_records 9 = .ok (.ireturn, 1) := by decide +kernel
theorem dX2_digits_0 : decode cX2_digits 0 = .ok (.aload_n 0, 1) := by decide +kernel
theorem dX2_digits_1 : decode cX2_digits 1 = .ok (.iconst 0, 1) := by decide +kernel
theorem dX2_digits_2 : decode cX2_digits 2 = .ok (.putfield 28, 3) := by decide +kernel
theorem dX2_digits_5 : decode cX2_digits 5 = .ok (.iload_n 1, 1) := by decide +kernel
theorem dX2_digits_6 : decode cX2_digits 6 = .ok (.iconst 1, 1) := by decide +kernel
theorem dX2_digits_7 : decode cX2_digits 7 = .ok (.if_icmp .lt 9, 3) := by decide +kernel
theorem dX2_digits_10 : decode cX2_digits 10 = .ok (.iload_n 1, 1) := by decide +kernel
theorem dX2_digits_11 : decode cX2_digits 11 = .ok (.bipush 9, 2) := by decide +kernel
theorem dX2_digits_13 : decode cX2_digits 13 = .ok (.if_icmp .le 5, 3) := by decide +kernel
theorem dX2_digits_16 : decode cX2_digits 16 = .ok (.iconst (-1), 1) := by decide +kernel
theorem dX2_digits_17 : decode cX2_digits 17 = .ok (.ireturn, 1) := by decide +kernel
theorem dX2_digits_18 : decode cX2_digits 18 = .ok (.aload_n 0, 1) := by decide +kernel
theorem dX2_digits_19 : decode cX2_digits 19 = .ok (.getfield 21, 3) := by decide +kernel
theorem dX2_digits_22 : decode cX2_digits 22 = .ok (.istore_n 2, 1) := by decide +kernel
theorem dX2_digits_23 : decode cX2_digits 23 = .ok (.aload_n 0, 1) := by decide +kernel
theorem dX2_digits_24 : decode cX2_digits 24 = .ok (.iload_n 1, 1) := by decide +kernel
theorem dX2_digits_25 : decode cX2_digits 25 = .ok (.putfield 21, 3) := by decide +kernel
theorem dX2_digits_28 : decode cX2_digits 28 = .ok (.iload_n 2, 1) := by decide +kernel
theorem dX2_digits_29 : decode cX2_digits 29 = .ok (.ireturn, 1) := by decide +kernel
theorem dX2_count_0 : decode cX2_count 0 = .ok (.aload_n 0, 1) := by decide +kernel
theorem dX2_count_1 : decode cX2_count 1 = .ok (.iconst 0, 1) := by decide +kernel
theorem dX2_count_2 : decode cX2_count 2 = .ok (.putfield 28, 3) := by decide +kernel
theorem dX2_count_5 : decode cX2_count 5 = .ok (.iload_n 1, 1) := by decide +kernel
theorem dX2_count_6 : decode cX2_count 6 = .ok (.tableswitch 73 0 4 #[34, 39, 52, 57, 67], 34) := by decide +kernel
theorem dX2_count_40 : decode cX2_count 40 = .ok (.aload_n 0, 1) := by decide +kernel
theorem dX2_count_41 : decode cX2_count 41 = .ok (.getfield 25, 3) := by decide +kernel
theorem dX2_count_44 : decode cX2_count 44 = .ok (.ireturn, 1) := by decide +kernel
theorem dX2_count_45 : decode cX2_count 45 = .ok (.aload_n 0, 1) := by decide +kernel
theorem dX2_count_46 : decode cX2_count 46 = .ok (.getfield 39, 3) := by decide +kernel
theorem dX2_count_49 : decode cX2_count 49 = .ok (.ifCond .eq 7, 3) := by decide +kernel
theorem dX2_count_52 : decode cX2_count 52 = .ok (.iconst 1, 1) := by decide +kernel
theorem dX2_count_53 : decode cX2_count 53 = .ok (.goto 4, 3) := by decide +kernel
theorem dX2_count_56 : decode cX2_count 56 = .ok (.iconst 0, 1) := by decide +kernel
theorem dX2_count_57 : decode cX2_count 57 = .ok (.ireturn, 1) := by decide +kernel
theorem dX2_count_58 : decode cX2_count 58 = .ok (.aload_n 0, 1) := by decide +kernel
theorem dX2_count_59 : decode cX2_count 59 = .ok (.getfield 17, 3) := by decide +kernel
theorem dX2_count_62 : decode cX2_count 62 = .ok (.ireturn, 1) := by decide +kernel
theorem dX2_count_63 : decode cX2_count 63 = .ok (.aload_n 0, 1) := by decide +kernel
theorem dX2_count_64 : decode cX2_count 64 = .ok (.aload_n 0, 1) := by decide +kernel
theorem dX2_count_65 : decode cX2_count 65 = .ok (.getfield 25, 3) := by decide +kernel
theorem dX2_count_68 : decode cX2_count 68 = .ok (.i2l, 1) := by decide +kernel
theorem dX2_count_69 : decode cX2_count 69 = .ok (.invokevirtual 53, 3) := by decide +kernel
theorem dX2_count_72 : decode cX2_count 72 = .ok (.ireturn, 1) := by decide +kernel
theorem dX2_count_73 : decode cX2_count 73 = .ok (.aload_n 0, 1) := by decide +kernel
theorem dX2_count_74 : decode cX2_count 74 = .ok (.lconst 1, 1) := by decide +kernel
theorem dX2_count_75 : decode cX2_count 75 = .ok (.invokevirtual 83, 3) := by decide +kernel
theorem dX2_count_78 : decode cX2_count 78 = .ok (.ireturn, 1) := by decide +kernel
theorem dX2_count_79 : decode cX2_count 79 = .ok (.iconst (-1), 1) := by decide +kernel
theorem dX2_count_80 : decode cX2_count 80 = .ok (.ireturn, 1) := by decide +kernel
