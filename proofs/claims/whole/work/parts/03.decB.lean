theorem dX6_init_0 : decode cX6_init 0 = .ok (.aload_n 0, 1) := by decide +kernel
theorem dX6_init_1 : decode cX6_init 1 = .ok (.invokespecial 1, 3) := by decide +kernel
theorem dX6_init_4 : decode cX6_init 4 = .ok (.aload_n 0, 1) := by decide +kernel
theorem dX6_init_5 : decode cX6_init 5 = .ok (.bipush 100, 2) := by decide +kernel
theorem dX6_init_7 : decode cX6_init 7 = .ok (.newarray .int, 2) := by decide +kernel
theorem dX6_init_9 : decode cX6_init 9 = .ok (.putfield 7, 3) := by decide +kernel
theorem dX6_init_12 : decode cX6_init 12 = .ok (.aload_n 0, 1) := by decide +kernel
theorem dX6_init_13 : decode cX6_init 13 = .ok (.sipush 191, 3) := by decide +kernel
theorem dX6_init_16 : decode cX6_init 16 = .ok (.newarray .int, 2) := by decide +kernel
theorem dX6_init_18 : decode cX6_init 18 = .ok (.putfield 13, 3) := by decide +kernel
theorem dX6_init_21 : decode cX6_init 21 = .ok (.aload_n 0, 1) := by decide +kernel
theorem dX6_init_22 : decode cX6_init 22 = .ok (.sipush 191, 3) := by decide +kernel
theorem dX6_init_25 : decode cX6_init 25 = .ok (.newarray .int, 2) := by decide +kernel
theorem dX6_init_27 : decode cX6_init 27 = .ok (.putfield 16, 3) := by decide +kernel
theorem dX6_init_30 : decode cX6_init 30 = .ok (.aload_n 0, 1) := by decide +kernel
theorem dX6_init_31 : decode cX6_init 31 = .ok (.sipush 191, 3) := by decide +kernel
theorem dX6_init_34 : decode cX6_init 34 = .ok (.newarray .int, 2) := by decide +kernel
theorem dX6_init_36 : decode cX6_init 36 = .ok (.putfield 19, 3) := by decide +kernel
theorem dX6_init_39 : decode cX6_init 39 = .ok (.aload_n 0, 1) := by decide +kernel
theorem dX6_init_40 : decode cX6_init 40 = .ok (.sipush 2674, 3) := by decide +kernel
theorem dX6_init_43 : decode cX6_init 43 = .ok (.newarray .int, 2) := by decide +kernel
theorem dX6_init_45 : decode cX6_init 45 = .ok (.putfield 22, 3) := by decide +kernel
theorem dX6_init_48 : decode cX6_init 48 = .ok (.aload_n 0, 1) := by decide +kernel
theorem dX6_init_49 : decode cX6_init 49 = .ok (.sipush 382, 3) := by decide +kernel
theorem dX6_init_52 : decode cX6_init 52 = .ok (.newarray .int, 2) := by decide +kernel
theorem dX6_init_54 : decode cX6_init 54 = .ok (.putfield 25, 3) := by decide +kernel
theorem dX6_init_57 : decode cX6_init 57 = .ok (.aload_n 0, 1) := by decide +kernel
theorem dX6_init_58 : decode cX6_init 58 = .ok (.iconst 2, 1) := by decide +kernel
theorem dX6_init_59 : decode cX6_init 59 = .ok (.newarray .boolean, 2) := by decide +kernel
theorem dX6_init_61 : decode cX6_init 61 = .ok (.putfield 28, 3) := by decide +kernel
theorem dX6_init_64 : decode cX6_init 64 = .ok (.aload_n 0, 1) := by decide +kernel
theorem dX6_init_65 : decode cX6_init 65 = .ok (.getfield 16, 3) := by decide +kernel
theorem dX6_init_68 : decode cX6_init 68 = .ok (.invokestatic 32, 3) := by decide +kernel
theorem dX6_init_71 : decode cX6_init 71 = .ok (.return_, 1) := by decide +kernel
theorem dX6_thrown_0 : decode cX6_thrown 0 = .ok (.aload_n 0, 1) := by decide +kernel
theorem dX6_thrown_1 : decode cX6_thrown 1 = .ok (.getfield 36, 3) := by decide +kernel
theorem dX6_thrown_4 : decode cX6_thrown 4 = .ok (.ireturn, 1) := by decide +kernel
theorem dX6_refused_0 : decode cX6_refused 0 = .ok (.aload_n 0, 1) := by decide +kernel
theorem dX6_refused_1 : decode cX6_refused 1 = .ok (.iload_n 1, 1) := by decide +kernel
theorem dX6_refused_2 : decode cX6_refused 2 = .ok (.putfield 36, 3) := by decide +kernel
theorem dX6_refused_5 : decode cX6_refused 5 = .ok (.iload_n 1, 1) := by decide +kernel
theorem dX6_refused_6 : decode cX6_refused 6 = .ok (.ifCond .le 7, 3) := by decide +kernel
theorem dX6_refused_9 : decode cX6_refused 9 = .ok (.iconst 1, 1) := by decide +kernel
theorem dX6_refused_10 : decode cX6_refused 10 = .ok (.goto 4, 3) := by decide +kernel
theorem dX6_refused_13 : decode cX6_refused 13 = .ok (.iconst 0, 1) := by decide +kernel
theorem dX6_refused_14 : decode cX6_refused 14 = .ok (.ireturn, 1) := by decide +kernel
theorem dX6_in_0 : decode cX6_in 0 = .ok (.lload_n 0, 1) := by decide +kernel
theorem dX6_in_1 : decode cX6_in 1 = .ok (.lload_n 2, 1) := by decide +kernel
theorem dX6_in_2 : decode cX6_in 2 = .ok (.lcmp, 1) := by decide +kernel
theorem dX6_in_3 : decode cX6_in 3 = .ok (.ifCond .lt 14, 3) := by decide +kernel
theorem dX6_in_6 : decode cX6_in 6 = .ok (.lload_n 0, 1) := by decide +kernel
theorem dX6_in_7 : decode cX6_in 7 = .ok (.lload 4, 2) := by decide +kernel
theorem dX6_in_9 : decode cX6_in 9 = .ok (.lcmp, 1) := by decide +kernel
theorem dX6_in_10 : decode cX6_in 10 = .ok (.ifCond .gt 7, 3) := by decide +kernel
theorem dX6_in_13 : decode cX6_in 13 = .ok (.iconst 1, 1) := by decide +kernel
theorem dX6_in_14 : decode cX6_in 14 = .ok (.goto 4, 3) := by decide +kernel
theorem dX6_in_17 : decode cX6_in 17 = .ok (.iconst 0, 1) := by decide +kernel
theorem dX6_in_18 : decode cX6_in 18 = .ok (.ireturn, 1) := by decide +kernel
theorem dX6_copy_0 : decode cX6_copy 0 = .ok (.iconst 0, 1) := by decide +kernel
theorem dX6_copy_1 : decode cX6_copy 1 = .ok (.istore 5, 2) := by decide +kernel
theorem dX6_copy_3 : decode cX6_copy 3 = .ok (.iload 5, 2) := by decide +kernel
theorem dX6_copy_5 : decode cX6_copy 5 = .ok (.iload 4, 2) := by decide +kernel
theorem dX6_copy_7 : decode cX6_copy 7 = .ok (.if_icmp .ge 21, 3) := by decide +kernel
theorem dX6_copy_10 : decode cX6_copy 10 = .ok (.aload_n 2, 1) := by decide +kernel
theorem dX6_copy_11 : decode cX6_copy 11 = .ok (.iload_n 3, 1) := by decide +kernel
theorem dX6_copy_12 : decode cX6_copy 12 = .ok (.iload 5, 2) := by decide +kernel
theorem dX6_copy_14 : decode cX6_copy 14 = .ok (.iadd, 1) := by decide +kernel
theorem dX6_copy_15 : decode cX6_copy 15 = .ok (.aload_n 0, 1) := by decide +kernel
theorem dX6_copy_16 : decode cX6_copy 16 = .ok (.iload_n 1, 1) := by decide +kernel
theorem dX6_copy_17 : decode cX6_copy 17 = .ok (.iload 5, 2) := by decide +kernel
theorem dX6_copy_19 : decode cX6_copy 19 = .ok (.iadd, 1) := by decide +kernel
theorem dX6_copy_20 : decode cX6_copy 20 = .ok (.iaload, 1) := by decide +kernel
theorem dX6_copy_21 : decode cX6_copy 21 = .ok (.iastore, 1) := by decide +kernel
theorem dX6_copy_22 : decode cX6_copy 22 = .ok (.iinc 5 1, 3) := by decide +kernel
theorem dX6_copy_25 : decode cX6_copy 25 = .ok (.goto (-22), 3) := by decide +kernel
theorem dX6_copy_28 : decode cX6_copy 28 = .ok (.return_, 1) := by decide +kernel
theorem dX6_tenTo_0 : decode cX6_tenTo 0 = .ok (.lconst 1, 1) := by decide +kernel
theorem dX6_tenTo_1 : decode cX6_tenTo 1 = .ok (.lstore_n 1, 1) := by decide +kernel
theorem dX6_tenTo_2 : decode cX6_tenTo 2 = .ok (.iconst 0, 1) := by decide +kernel
theorem dX6_tenTo_3 : decode cX6_tenTo 3 = .ok (.istore_n 3, 1) := by decide +kernel
theorem dX6_tenTo_4 : decode cX6_tenTo 4 = .ok (.iload_n 3, 1) := by decide +kernel
theorem dX6_tenTo_5 : decode cX6_tenTo 5 = .ok (.iload_n 0, 1) := by decide +kernel
theorem dX6_tenTo_6 : decode cX6_tenTo 6 = .ok (.if_icmp .ge 15, 3) := by decide +kernel
theorem dX6_tenTo_9 : decode cX6_tenTo 9 = .ok (.lload_n 1, 1) := by decide +kernel
theorem dX6_tenTo_10 : decode cX6_tenTo 10 = .ok (.ldc2_w 40, 3) := by decide +kernel
theorem dX6_tenTo_13 : decode cX6_tenTo 13 = .ok (.lmul, 1) := by decide +kernel
theorem dX6_tenTo_14 : decode cX6_tenTo 14 = .ok (.lstore_n 1, 1) := by decide +kernel
theorem dX6_tenTo_15 : decode cX6_tenTo 15 = .ok (.iinc 3 1, 3) := by decide +kernel
theorem dX6_tenTo_18 : decode cX6_tenTo 18 = .ok (.goto (-14), 3) := by decide +kernel
theorem dX6_tenTo_21 : decode cX6_tenTo 21 = .ok (.lload_n 1, 1) := by decide +kernel
theorem dX6_tenTo_22 : decode cX6_tenTo 22 = .ok (.lreturn, 1) := by decide +kernel
theorem dX6_least_0 : decode cX6_least 0 = .ok (.iload_n 0, 1) := by decide +kernel
theorem dX6_least_1 : decode cX6_least 1 = .ok (.iconst 4, 1) := by decide +kernel
theorem dX6_least_2 : decode cX6_least 2 = .ok (.if_icmp .ne 9, 3) := by decide +kernel
theorem dX6_least_5 : decode cX6_least 5 = .ok (.sipush 500, 3) := by decide +kernel
theorem dX6_least_8 : decode cX6_least 8 = .ok (.goto 18, 3) := by decide +kernel
theorem dX6_least_11 : decode cX6_least 11 = .ok (.iload_n 0, 1) := by decide +kernel
theorem dX6_least_12 : decode cX6_least 12 = .ok (.iconst 2, 1) := by decide +kernel
theorem dX6_least_13 : decode cX6_least 13 = .ok (.if_icmp .eq 8, 3) := by decide +kernel
theorem dX6_least_16 : decode cX6_least 16 = .ok (.iload_n 0, 1) := by decide +kernel
theorem dX6_least_17 : decode cX6_least 17 = .ok (.iconst 3, 1) := by decide +kernel
theorem dX6_least_18 : decode cX6_least 18 = .ok (.if_icmp .ne 7, 3) := by decide +kernel
theorem dX6_least_21 : decode cX6_least 21 = .ok (.iconst 1, 1) := by decide +kernel
theorem dX6_least_22 : decode cX6_least 22 = .ok (.goto 4, 3) := by decide +kernel
theorem dX6_least_25 : decode cX6_least 25 = .ok (.iconst 0, 1) := by decide +kernel
theorem dX6_least_26 : decode cX6_least 26 = .ok (.ireturn, 1) := by decide +kernel
theorem dX6_most_0 : decode cX6_most 0 = .ok (.iload_n 0, 1) := by decide +kernel
theorem dX6_most_1 : decode cX6_most 1 = .ok (.ifCond .ne 8, 3) := by decide +kernel
theorem dX6_most_4 : decode cX6_most 4 = .ok (.bipush 40, 2) := by decide +kernel
theorem dX6_most_6 : decode cX6_most 6 = .ok (.goto 37, 3) := by decide +kernel
theorem dX6_most_9 : decode cX6_most 9 = .ok (.iload_n 0, 1) := by decide +kernel
theorem dX6_most_10 : decode cX6_most 10 = .ok (.iconst 1, 1) := by decide +kernel
theorem dX6_most_11 : decode cX6_most 11 = .ok (.if_icmp .ne 8, 3) := by decide +kernel
theorem dX6_most_14 : decode cX6_most 14 = .ok (.bipush 20, 2) := by decide +kernel
theorem dX6_most_16 : decode cX6_most 16 = .ok (.goto 27, 3) := by decide +kernel
theorem dX6_most_19 : decode cX6_most 19 = .ok (.iload_n 0, 1) := by decide +kernel
theorem dX6_most_20 : decode cX6_most 20 = .ok (.iconst 2, 1) := by decide +kernel
theorem dX6_most_21 : decode cX6_most 21 = .ok (.if_icmp .ne 8, 3) := by decide +kernel
theorem dX6_most_24 : decode cX6_most 24 = .ok (.bipush 9, 2) := by decide +kernel
theorem dX6_most_26 : decode cX6_most 26 = .ok (.goto 17, 3) := by decide +kernel
theorem dX6_most_29 : decode cX6_most 29 = .ok (.iload_n 0, 1) := by decide +kernel
theorem dX6_most_30 : decode cX6_most 30 = .ok (.iconst 3, 1) := by decide +kernel
theorem dX6_most_31 : decode cX6_most 31 = .ok (.if_icmp .ne 9, 3) := by decide +kernel
theorem dX6_most_34 : decode cX6_most 34 = .ok (.sipush 200, 3) := by decide +kernel
theorem dX6_most_37 : decode cX6_most 37 = .ok (.goto 6, 3) := by decide +kernel
theorem dX6_most_40 : decode cX6_most 40 = .ok (.sipush 5000, 3) := by decide +kernel
theorem dX6_most_43 : decode cX6_most 43 = .ok (.ireturn, 1) := by decide +kernel
theorem dX6_firstBorder_0 : decode cX6_firstBorder 0 = .ok (.iload_n 0, 1) := by decide +kernel
theorem dX6_firstBorder_1 : decode cX6_firstBorder 1 = .ok (.iconst 1, 1) := by decide +kernel
theorem dX6_firstBorder_2 : decode cX6_firstBorder 2 = .ok (.if_icmp .ne 8, 3) := by decide +kernel
theorem dX6_firstBorder_5 : decode cX6_firstBorder 5 = .ok (.bipush 100, 2) := by decide +kernel
theorem dX6_firstBorder_7 : decode cX6_firstBorder 7 = .ok (.goto 62, 3) := by decide +kernel
theorem dX6_firstBorder_10 : decode cX6_firstBorder 10 = .ok (.iload_n 0, 1) := by decide +kernel
theorem dX6_firstBorder_11 : decode cX6_firstBorder 11 = .ok (.iconst 2, 1) := by decide +kernel
theorem dX6_firstBorder_12 : decode cX6_firstBorder 12 = .ok (.if_icmp .ne 9, 3) := by decide +kernel
theorem dX6_firstBorder_15 : decode cX6_firstBorder 15 = .ok (.sipush 225, 3) := by decide +kernel
theorem dX6_firstBorder_18 : decode cX6_firstBorder 18 = .ok (.goto 51, 3) := by decide +kernel
theorem dX6_firstBorder_21 : decode cX6_firstBorder 21 = .ok (.iload_n 0, 1) := by decide +kernel
theorem dX6_firstBorder_22 : decode cX6_firstBorder 22 = .ok (.iconst 3, 1) := by decide +kernel
theorem dX6_firstBorder_23 : decode cX6_firstBorder 23 = .ok (.if_icmp .ne 9, 3) := by decide +kernel
theorem dX6_firstBorder_26 : decode cX6_firstBorder 26 = .ok (.sipush 400, 3) := by decide +kernel
theorem dX6_firstBorder_29 : decode cX6_firstBorder 29 = .ok (.goto 40, 3) := by decide +kernel
theorem dX6_firstBorder_32 : decode cX6_firstBorder 32 = .ok (.iload_n 0, 1) := by decide +kernel
theorem dX6_firstBorder_33 : decode cX6_firstBorder 33 = .ok (.iconst 4, 1) := by decide +kernel
theorem dX6_firstBorder_34 : decode cX6_firstBorder 34 = .ok (.if_icmp .ne 9, 3) := by decide +kernel
theorem dX6_firstBorder_37 : decode cX6_firstBorder 37 = .ok (.sipush 900, 3) := by decide +kernel
theorem dX6_firstBorder_40 : decode cX6_firstBorder 40 = .ok (.goto 29, 3) := by decide +kernel
theorem dX6_firstBorder_43 : decode cX6_firstBorder 43 = .ok (.iload_n 0, 1) := by decide +kernel
theorem dX6_firstBorder_44 : decode cX6_firstBorder 44 = .ok (.iconst 5, 1) := by decide +kernel
theorem dX6_firstBorder_45 : decode cX6_firstBorder 45 = .ok (.if_icmp .ne 9, 3) := by decide +kernel
theorem dX6_firstBorder_48 : decode cX6_firstBorder 48 = .ok (.sipush 1600, 3) := by decide +kernel
theorem dX6_firstBorder_51 : decode cX6_firstBorder 51 = .ok (.goto 18, 3) := by decide +kernel
theorem dX6_firstBorder_54 : decode cX6_firstBorder 54 = .ok (.iload_n 0, 1) := by decide +kernel
theorem dX6_firstBorder_55 : decode cX6_firstBorder 55 = .ok (.bipush 6, 2) := by decide +kernel
theorem dX6_firstBorder_57 : decode cX6_firstBorder 57 = .ok (.if_icmp .ne 9, 3) := by decide +kernel
theorem dX6_firstBorder_60 : decode cX6_firstBorder 60 = .ok (.sipush 2500, 3) := by decide +kernel
theorem dX6_firstBorder_63 : decode cX6_firstBorder 63 = .ok (.goto 6, 3) := by decide +kernel
theorem dX6_firstBorder_66 : decode cX6_firstBorder 66 = .ok (.sipush 3600, 3) := by decide +kernel
theorem dX6_firstBorder_69 : decode cX6_firstBorder 69 = .ok (.ireturn, 1) := by decide +kernel
theorem dX6_clean_0 : decode cX6_clean 0 = .ok (.iconst 0, 1) := by decide +kernel
theorem dX6_clean_1 : decode cX6_clean 1 = .ok (.istore_n 1, 1) := by decide +kernel
theorem dX6_clean_2 : decode cX6_clean 2 = .ok (.iload_n 1, 1) := by decide +kernel
theorem dX6_clean_3 : decode cX6_clean 3 = .ok (.sipush 191, 3) := by decide +kernel
theorem dX6_clean_6 : decode cX6_clean 6 = .ok (.if_icmp .ge 13, 3) := by decide +kernel
theorem dX6_clean_9 : decode cX6_clean 9 = .ok (.aload_n 0, 1) := by decide +kernel
theorem dX6_clean_10 : decode cX6_clean 10 = .ok (.iload_n 1, 1) := by decide +kernel
theorem dX6_clean_11 : decode cX6_clean 11 = .ok (.iconst 0, 1) := by decide +kernel
theorem dX6_clean_12 : decode cX6_clean 12 = .ok (.iastore, 1) := by decide +kernel
theorem dX6_clean_13 : decode cX6_clean 13 = .ok (.iinc 1 1, 3) := by decide +kernel
theorem dX6_clean_16 : decode cX6_clean 16 = .ok (.goto (-14), 3) := by decide +kernel
theorem dX6_clean_19 : decode cX6_clean 19 = .ok (.aload_n 0, 1) := by decide +kernel
theorem dX6_clean_20 : decode cX6_clean 20 = .ok (.iconst 2, 1) := by decide +kernel
theorem dX6_clean_21 : decode cX6_clean 21 = .ok (.iconst 3, 1) := by decide +kernel
theorem dX6_clean_22 : decode cX6_clean 22 = .ok (.iastore, 1) := by decide +kernel
theorem dX6_clean_23 : decode cX6_clean 23 = .ok (.aload_n 0, 1) := by decide +kernel
theorem dX6_clean_24 : decode cX6_clean 24 = .ok (.iconst 3, 1) := by decide +kernel
theorem dX6_clean_25 : decode cX6_clean 25 = .ok (.iconst 4, 1) := by decide +kernel
theorem dX6_clean_26 : decode cX6_clean 26 = .ok (.iastore, 1) := by decide +kernel
theorem dX6_clean_27 : decode cX6_clean 27 = .ok (.aload_n 0, 1) := by decide +kernel
theorem dX6_clean_28 : decode cX6_clean 28 = .ok (.iconst 4, 1) := by decide +kernel
theorem dX6_clean_29 : decode cX6_clean 29 = .ok (.bipush 20, 2) := by decide +kernel
theorem dX6_clean_31 : decode cX6_clean 31 = .ok (.iastore, 1) := by decide +kernel
theorem dX6_clean_32 : decode cX6_clean 32 = .ok (.aload_n 0, 1) := by decide +kernel
theorem dX6_clean_33 : decode cX6_clean 33 = .ok (.iconst 5, 1) := by decide +kernel
theorem dX6_clean_34 : decode cX6_clean 34 = .ok (.sipush 3000, 3) := by decide +kernel
theorem dX6_clean_37 : decode cX6_clean 37 = .ok (.iastore, 1) := by decide +kernel
theorem dX6_clean_38 : decode cX6_clean 38 = .ok (.iconst 1, 1) := by decide +kernel
theorem dX6_clean_39 : decode cX6_clean 39 = .ok (.istore_n 1, 1) := by decide +kernel
theorem dX6_clean_40 : decode cX6_clean 40 = .ok (.iload_n 1, 1) := by decide +kernel
theorem dX6_clean_41 : decode cX6_clean 41 = .ok (.bipush 8, 2) := by decide +kernel
theorem dX6_clean_43 : decode cX6_clean 43 = .ok (.if_icmp .ge 21, 3) := by decide +kernel
theorem dX6_clean_46 : decode cX6_clean 46 = .ok (.aload_n 0, 1) := by decide +kernel
theorem dX6_clean_47 : decode cX6_clean 47 = .ok (.bipush 16, 2) := by decide +kernel
theorem dX6_clean_49 : decode cX6_clean 49 = .ok (.iload_n 1, 1) := by decide +kernel
theorem dX6_clean_50 : decode cX6_clean 50 = .ok (.iadd, 1) := by decide +kernel
theorem dX6_clean_51 : decode cX6_clean 51 = .ok (.iconst 1, 1) := by decide +kernel
theorem dX6_clean_52 : decode cX6_clean 52 = .ok (.isub, 1) := by decide +kernel
theorem dX6_clean_53 : decode cX6_clean 53 = .ok (.iload_n 1, 1) := by decide +kernel
theorem dX6_clean_54 : decode cX6_clean 54 = .ok (.invokestatic 42, 3) := by decide +kernel
theorem dX6_clean_57 : decode cX6_clean 57 = .ok (.iastore, 1) := by decide +kernel
theorem dX6_clean_58 : decode cX6_clean 58 = .ok (.iinc 1 1, 3) := by decide +kernel
theorem dX6_clean_61 : decode cX6_clean 61 = .ok (.goto (-21), 3) := by decide +kernel
theorem dX6_clean_64 : decode cX6_clean 64 = .ok (.return_, 1) := by decide +kernel
theorem dX6_note_0 : decode cX6_note 0 = .ok (.aload_n 0, 1) := by decide +kernel
theorem dX6_note_1 : decode cX6_note 1 = .ok (.getfield 46, 3) := by decide +kernel
theorem dX6_note_4 : decode cX6_note 4 = .ok (.bipush 14, 2) := by decide +kernel
theorem dX6_note_6 : decode cX6_note 6 = .ok (.if_icmp .ne 31, 3) := by decide +kernel
theorem dX6_note_9 : decode cX6_note 9 = .ok (.aload_n 0, 1) := by decide +kernel
theorem dX6_note_10 : decode cX6_note 10 = .ok (.getfield 22, 3) := by decide +kernel
theorem dX6_note_13 : decode cX6_note 13 = .ok (.sipush 191, 3) := by decide +kernel
theorem dX6_note_16 : decode cX6_note 16 = .ok (.aload_n 0, 1) := by decide +kernel
theorem dX6_note_17 : decode cX6_note 17 = .ok (.getfield 22, 3) := by decide +kernel
theorem dX6_note_20 : decode cX6_note 20 = .ok (.iconst 0, 1) := by decide +kernel
theorem dX6_note_21 : decode cX6_note 21 = .ok (.sipush 2483, 3) := by decide +kernel
theorem dX6_note_24 : decode cX6_note 24 = .ok (.invokestatic 49, 3) := by decide +kernel
theorem dX6_note_27 : decode cX6_note 27 = .ok (.aload_n 0, 1) := by decide +kernel
theorem dX6_note_28 : decode cX6_note 28 = .ok (.dup, 1) := by decide +kernel
theorem dX6_note_29 : decode cX6_note 29 = .ok (.getfield 46, 3) := by decide +kernel
theorem dX6_note_32 : decode cX6_note 32 = .ok (.iconst 1, 1) := by decide +kernel
theorem dX6_note_33 : decode cX6_note 33 = .ok (.isub, 1) := by decide +kernel
theorem dX6_note_34 : decode cX6_note 34 = .ok (.putfield 46, 3) := by decide +kernel
theorem dX6_note_37 : decode cX6_note 37 = .ok (.aload_n 0, 1) := by decide +kernel
theorem dX6_note_38 : decode cX6_note 38 = .ok (.getfield 16, 3) := by decide +kernel
theorem dX6_note_41 : decode cX6_note 41 = .ok (.iconst 0, 1) := by decide +kernel
theorem dX6_note_42 : decode cX6_note 42 = .ok (.aload_n 0, 1) := by decide +kernel
theorem dX6_note_43 : decode cX6_note 43 = .ok (.getfield 22, 3) := by decide +kernel
theorem dX6_note_46 : decode cX6_note 46 = .ok (.sipush 191, 3) := by decide +kernel
theorem dX6_note_49 : decode cX6_note 49 = .ok (.aload_n 0, 1) := by decide +kernel
theorem dX6_note_50 : decode cX6_note 50 = .ok (.getfield 46, 3) := by decide +kernel
theorem dX6_note_53 : decode cX6_note 53 = .ok (.imul, 1) := by decide +kernel
theorem dX6_note_54 : decode cX6_note 54 = .ok (.sipush 191, 3) := by decide +kernel
theorem dX6_note_57 : decode cX6_note 57 = .ok (.invokestatic 49, 3) := by decide +kernel
theorem dX6_note_60 : decode cX6_note 60 = .ok (.aload_n 0, 1) := by decide +kernel
theorem dX6_note_61 : decode cX6_note 61 = .ok (.dup, 1) := by decide +kernel
theorem dX6_note_62 : decode cX6_note 62 = .ok (.getfield 46, 3) := by decide +kernel
theorem dX6_note_65 : decode cX6_note 65 = .ok (.iconst 1, 1) := by decide +kernel
theorem dX6_note_66 : decode cX6_note 66 = .ok (.iadd, 1) := by decide +kernel
theorem dX6_note_67 : decode cX6_note 67 = .ok (.putfield 46, 3) := by decide +kernel
theorem dX6_note_70 : decode cX6_note 70 = .ok (.return_, 1) := by decide +kernel
theorem dX6_begin_0 : decode cX6_begin 0 = .ok (.aload_n 0, 1) := by decide +kernel
theorem dX6_begin_1 : decode cX6_begin 1 = .ok (.getfield 16, 3) := by decide +kernel
theorem dX6_begin_4 : decode cX6_begin 4 = .ok (.iconst 0, 1) := by decide +kernel
theorem dX6_begin_5 : decode cX6_begin 5 = .ok (.aload_n 0, 1) := by decide +kernel
theorem dX6_begin_6 : decode cX6_begin 6 = .ok (.getfield 19, 3) := by decide +kernel
theorem dX6_begin_9 : decode cX6_begin 9 = .ok (.iconst 0, 1) := by decide +kernel
theorem dX6_begin_10 : decode cX6_begin 10 = .ok (.sipush 191, 3) := by decide +kernel
theorem dX6_begin_13 : decode cX6_begin 13 = .ok (.invokestatic 49, 3) := by decide +kernel
theorem dX6_begin_16 : decode cX6_begin 16 = .ok (.return_, 1) := by decide +kernel
theorem dX6_levelAt_0 : decode cX6_levelAt 0 = .ok (.aload_n 0, 1) := by decide +kernel
theorem dX6_levelAt_1 : decode cX6_levelAt 1 = .ok (.bipush 10, 2) := by decide +kernel
theorem dX6_levelAt_3 : decode cX6_levelAt 3 = .ok (.iaload, 1) := by decide +kernel
theorem dX6_levelAt_4 : decode cX6_levelAt 4 = .ok (.ifCond .ne 5, 3) := by decide +kernel
theorem dX6_levelAt_7 : decode cX6_levelAt 7 = .ok (.iconst 0, 1) := by decide +kernel
theorem dX6_levelAt_8 : decode cX6_levelAt 8 = .ok (.ireturn, 1) := by decide +kernel
theorem dX6_levelAt_9 : decode cX6_levelAt 9 = .ok (.aload_n 0, 1) := by decide +kernel
theorem dX6_levelAt_10 : decode cX6_levelAt 10 = .ok (.bipush 12, 2) := by decide +kernel
theorem dX6_levelAt_12 : decode cX6_levelAt 12 = .ok (.iaload, 1) := by decide +kernel
theorem dX6_levelAt_13 : decode cX6_levelAt 13 = .ok (.istore_n 2, 1) := by decide +kernel
theorem dX6_levelAt_14 : decode cX6_levelAt 14 = .ok (.iload_n 1, 1) := by decide +kernel
theorem dX6_levelAt_15 : decode cX6_levelAt 15 = .ok (.aload_n 0, 1) := by decide +kernel
theorem dX6_levelAt_16 : decode cX6_levelAt 16 = .ok (.bipush 11, 2) := by decide +kernel
theorem dX6_levelAt_18 : decode cX6_levelAt 18 = .ok (.iaload, 1) := by decide +kernel
theorem dX6_levelAt_19 : decode cX6_levelAt 19 = .ok (.isub, 1) := by decide +kernel
theorem dX6_levelAt_20 : decode cX6_levelAt 20 = .ok (.aload_n 0, 1) := by decide +kernel
theorem dX6_levelAt_21 : decode cX6_levelAt 21 = .ok (.iconst 3, 1) := by decide +kernel
theorem dX6_levelAt_22 : decode cX6_levelAt 22 = .ok (.iaload, 1) := by decide +kernel
theorem dX6_levelAt_23 : decode cX6_levelAt 23 = .ok (.idiv, 1) := by decide +kernel
theorem dX6_levelAt_24 : decode cX6_levelAt 24 = .ok (.istore_n 3, 1) := by decide +kernel
theorem dX6_levelAt_25 : decode cX6_levelAt 25 = .ok (.iload_n 3, 1) := by decide +kernel
theorem dX6_levelAt_26 : decode cX6_levelAt 26 = .ok (.ifCond .le 17, 3) := by decide +kernel
theorem dX6_levelAt_29 : decode cX6_levelAt 29 = .ok (.iload_n 2, 1) := by decide +kernel
theorem dX6_levelAt_30 : decode cX6_levelAt 30 = .ok (.ifCond .le 13, 3) := by decide +kernel
theorem dX6_levelAt_33 : decode cX6_levelAt 33 = .ok (.iload_n 2, 1) := by decide +kernel
theorem dX6_levelAt_34 : decode cX6_levelAt 34 = .ok (.iconst 2, 1) := by decide +kernel
theorem dX6_levelAt_35 : decode cX6_levelAt 35 = .ok (.idiv, 1) := by decide +kernel
theorem dX6_levelAt_36 : decode cX6_levelAt 36 = .ok (.istore_n 2, 1) := by decide +kernel
theorem dX6_levelAt_37 : decode cX6_levelAt 37 = .ok (.iinc 3 (-1), 3) := by decide +kernel
theorem dX6_levelAt_40 : decode cX6_levelAt 40 = .ok (.goto (-15), 3) := by decide +kernel
theorem dX6_levelAt_43 : decode cX6_levelAt 43 = .ok (.iload_n 2, 1) := by decide +kernel
theorem dX6_levelAt_44 : decode cX6_levelAt 44 = .ok (.ireturn, 1) := by decide +kernel
theorem dX6_level_0 : decode cX6_level 0 = .ok (.aload_n 0, 1) := by decide +kernel
theorem dX6_level_1 : decode cX6_level 1 = .ok (.aload_n 0, 1) := by decide +kernel
theorem dX6_level_2 : decode cX6_level 2 = .ok (.iconst 0, 1) := by decide +kernel
theorem dX6_level_3 : decode cX6_level 3 = .ok (.iaload, 1) := by decide +kernel
theorem dX6_level_4 : decode cX6_level 4 = .ok (.invokestatic 53, 3) := by decide +kernel
theorem dX6_level_7 : decode cX6_level 7 = .ok (.ireturn, 1) := by decide +kernel
theorem dX6_low_0 : decode cX6_low 0 = .ok (.iload_n 1, 1) := by decide +kernel
theorem dX6_low_1 : decode cX6_low 1 = .ok (.ifCond .ne 7, 3) := by decide +kernel
theorem dX6_low_4 : decode cX6_low 4 = .ok (.iconst 0, 1) := by decide +kernel
theorem dX6_low_5 : decode cX6_low 5 = .ok (.goto 11, 3) := by decide +kernel
theorem dX6_low_8 : decode cX6_low 8 = .ok (.aload_n 0, 1) := by decide +kernel
theorem dX6_low_9 : decode cX6_low 9 = .ok (.bipush 16, 2) := by decide +kernel
theorem dX6_low_11 : decode cX6_low 11 = .ok (.iload_n 1, 1) := by decide +kernel
theorem dX6_low_12 : decode cX6_low 12 = .ok (.iadd, 1) := by decide +kernel
theorem dX6_low_13 : decode cX6_low 13 = .ok (.iconst 1, 1) := by decide +kernel
theorem dX6_low_14 : decode cX6_low 14 = .ok (.isub, 1) := by decide +kernel
theorem dX6_low_15 : decode cX6_low 15 = .ok (.iaload, 1) := by decide +kernel
theorem dX6_low_16 : decode cX6_low 16 = .ok (.ireturn, 1) := by decide +kernel
theorem dX6_high_0 : decode cX6_high 0 = .ok (.iload_n 1, 1) := by decide +kernel
theorem dX6_high_1 : decode cX6_high 1 = .ok (.bipush 7, 2) := by decide +kernel
theorem dX6_high_3 : decode cX6_high 3 = .ok (.if_icmp .ne 9, 3) := by decide +kernel
theorem dX6_high_6 : decode cX6_high 6 = .ok (.sipush 5000, 3) := by decide +kernel
theorem dX6_high_9 : decode cX6_high 9 = .ok (.goto 11, 3) := by decide +kernel
theorem dX6_high_12 : decode cX6_high 12 = .ok (.aload_n 0, 1) := by decide +kernel
theorem dX6_high_13 : decode cX6_high 13 = .ok (.bipush 16, 2) := by decide +kernel
theorem dX6_high_15 : decode cX6_high 15 = .ok (.iload_n 1, 1) := by decide +kernel
theorem dX6_high_16 : decode cX6_high 16 = .ok (.iadd, 1) := by decide +kernel
theorem dX6_high_17 : decode cX6_high 17 = .ok (.iaload, 1) := by decide +kernel
theorem dX6_high_18 : decode cX6_high 18 = .ok (.iconst 1, 1) := by decide +kernel
theorem dX6_high_19 : decode cX6_high 19 = .ok (.isub, 1) := by decide +kernel
theorem dX6_high_20 : decode cX6_high 20 = .ok (.ireturn, 1) := by decide +kernel
theorem dX6_close_0 : decode cX6_close 0 = .ok (.bipush 7, 2) := by decide +kernel
theorem dX6_close_2 : decode cX6_close 2 = .ok (.istore_n 1, 1) := by decide +kernel
theorem dX6_close_3 : decode cX6_close 3 = .ok (.iload_n 1, 1) := by decide +kernel
theorem dX6_close_4 : decode cX6_close 4 = .ok (.ifCond .le 24, 3) := by decide +kernel
theorem dX6_close_7 : decode cX6_close 7 = .ok (.aload_n 0, 1) := by decide +kernel
theorem dX6_close_8 : decode cX6_close 8 = .ok (.bipush 16, 2) := by decide +kernel
theorem dX6_close_10 : decode cX6_close 10 = .ok (.iload_n 1, 1) := by decide +kernel
theorem dX6_close_11 : decode cX6_close 11 = .ok (.iadd, 1) := by decide +kernel
theorem dX6_close_12 : decode cX6_close 12 = .ok (.iconst 1, 1) := by decide +kernel
theorem dX6_close_13 : decode cX6_close 13 = .ok (.isub, 1) := by decide +kernel
theorem dX6_close_14 : decode cX6_close 14 = .ok (.iaload, 1) := by decide +kernel
theorem dX6_close_15 : decode cX6_close 15 = .ok (.aload_n 0, 1) := by decide +kernel
theorem dX6_close_16 : decode cX6_close 16 = .ok (.bipush 12, 2) := by decide +kernel
theorem dX6_close_18 : decode cX6_close 18 = .ok (.iaload, 1) := by decide +kernel
theorem dX6_close_19 : decode cX6_close 19 = .ok (.if_icmp .le 9, 3) := by decide +kernel
theorem dX6_close_22 : decode cX6_close 22 = .ok (.iinc 1 (-1), 3) := by decide +kernel
theorem dX6_close_25 : decode cX6_close 25 = .ok (.goto (-22), 3) := by decide +kernel
theorem dX6_close_28 : decode cX6_close 28 = .ok (.aload_n 0, 1) := by decide +kernel
theorem dX6_close_29 : decode cX6_close 29 = .ok (.bipush 23, 2) := by decide +kernel
theorem dX6_close_31 : decode cX6_close 31 = .ok (.iconst 3, 1) := by decide +kernel
theorem dX6_close_32 : decode cX6_close 32 = .ok (.iload_n 1, 1) := by decide +kernel
theorem dX6_close_33 : decode cX6_close 33 = .ok (.imul, 1) := by decide +kernel
theorem dX6_close_34 : decode cX6_close 34 = .ok (.iadd, 1) := by decide +kernel
theorem dX6_close_35 : decode cX6_close 35 = .ok (.dup2, 1) := by decide +kernel
theorem dX6_close_36 : decode cX6_close 36 = .ok (.iaload, 1) := by decide +kernel
theorem dX6_close_37 : decode cX6_close 37 = .ok (.iconst 1, 1) := by decide +kernel
theorem dX6_close_38 : decode cX6_close 38 = .ok (.iadd, 1) := by decide +kernel
theorem dX6_close_39 : decode cX6_close 39 = .ok (.iastore, 1) := by decide +kernel
theorem dX6_close_40 : decode cX6_close 40 = .ok (.aload_n 0, 1) := by decide +kernel
theorem dX6_close_41 : decode cX6_close 41 = .ok (.bipush 23, 2) := by decide +kernel
theorem dX6_close_43 : decode cX6_close 43 = .ok (.iconst 3, 1) := by decide +kernel
theorem dX6_close_44 : decode cX6_close 44 = .ok (.iload_n 1, 1) := by decide +kernel
theorem dX6_close_45 : decode cX6_close 45 = .ok (.imul, 1) := by decide +kernel
theorem dX6_close_46 : decode cX6_close 46 = .ok (.iadd, 1) := by decide +kernel
theorem dX6_close_47 : decode cX6_close 47 = .ok (.iconst 1, 1) := by decide +kernel
theorem dX6_close_48 : decode cX6_close 48 = .ok (.iadd, 1) := by decide +kernel
theorem dX6_close_49 : decode cX6_close 49 = .ok (.dup2, 1) := by decide +kernel
theorem dX6_close_50 : decode cX6_close 50 = .ok (.iaload, 1) := by decide +kernel
theorem dX6_close_51 : decode cX6_close 51 = .ok (.aload_n 0, 1) := by decide +kernel
theorem dX6_close_52 : decode cX6_close 52 = .ok (.bipush 15, 2) := by decide +kernel
theorem dX6_close_54 : decode cX6_close 54 = .ok (.iaload, 1) := by decide +kernel
theorem dX6_close_55 : decode cX6_close 55 = .ok (.iadd, 1) := by decide +kernel
theorem dX6_close_56 : decode cX6_close 56 = .ok (.iastore, 1) := by decide +kernel
theorem dX6_close_57 : decode cX6_close 57 = .ok (.aload_n 0, 1) := by decide +kernel
theorem dX6_close_58 : decode cX6_close 58 = .ok (.bipush 23, 2) := by decide +kernel
theorem dX6_close_60 : decode cX6_close 60 = .ok (.iconst 3, 1) := by decide +kernel
theorem dX6_close_61 : decode cX6_close 61 = .ok (.iload_n 1, 1) := by decide +kernel
theorem dX6_close_62 : decode cX6_close 62 = .ok (.imul, 1) := by decide +kernel
theorem dX6_close_63 : decode cX6_close 63 = .ok (.iadd, 1) := by decide +kernel
theorem dX6_close_64 : decode cX6_close 64 = .ok (.iconst 2, 1) := by decide +kernel
theorem dX6_close_65 : decode cX6_close 65 = .ok (.iadd, 1) := by decide +kernel
theorem dX6_close_66 : decode cX6_close 66 = .ok (.dup2, 1) := by decide +kernel
theorem dX6_close_67 : decode cX6_close 67 = .ok (.iaload, 1) := by decide +kernel
theorem dX6_close_68 : decode cX6_close 68 = .ok (.aload_n 0, 1) := by decide +kernel
theorem dX6_close_69 : decode cX6_close 69 = .ok (.bipush 14, 2) := by decide +kernel
theorem dX6_close_71 : decode cX6_close 71 = .ok (.iaload, 1) := by decide +kernel
theorem dX6_close_72 : decode cX6_close 72 = .ok (.iadd, 1) := by decide +kernel
theorem dX6_close_73 : decode cX6_close 73 = .ok (.iastore, 1) := by decide +kernel
theorem dX6_close_74 : decode cX6_close 74 = .ok (.aload_n 0, 1) := by decide +kernel
theorem dX6_close_75 : decode cX6_close 75 = .ok (.bipush 13, 2) := by decide +kernel
theorem dX6_close_77 : decode cX6_close 77 = .ok (.iconst 0, 1) := by decide +kernel
theorem dX6_close_78 : decode cX6_close 78 = .ok (.iastore, 1) := by decide +kernel
theorem dX6_close_79 : decode cX6_close 79 = .ok (.return_, 1) := by decide +kernel
theorem dX6_isInWindow_0 : decode cX6_isInWindow 0 = .ok (.aload_n 0, 1) := by decide +kernel
theorem dX6_isInWindow_1 : decode cX6_isInWindow 1 = .ok (.iconst 0, 1) := by decide +kernel
theorem dX6_isInWindow_2 : decode cX6_isInWindow 2 = .ok (.iaload, 1) := by decide +kernel
theorem dX6_isInWindow_3 : decode cX6_isInWindow 3 = .ok (.aload_n 0, 1) := by decide +kernel
theorem dX6_isInWindow_4 : decode cX6_isInWindow 4 = .ok (.bipush 11, 2) := by decide +kernel
theorem dX6_isInWindow_6 : decode cX6_isInWindow 6 = .ok (.iaload, 1) := by decide +kernel
theorem dX6_isInWindow_7 : decode cX6_isInWindow 7 = .ok (.isub, 1) := by decide +kernel
theorem dX6_isInWindow_8 : decode cX6_isInWindow 8 = .ok (.aload_n 0, 1) := by decide +kernel
theorem dX6_isInWindow_9 : decode cX6_isInWindow 9 = .ok (.iconst 2, 1) := by decide +kernel
theorem dX6_isInWindow_10 : decode cX6_isInWindow 10 = .ok (.iaload, 1) := by decide +kernel
theorem dX6_isInWindow_11 : decode cX6_isInWindow 11 = .ok (.if_icmp .ge 7, 3) := by decide +kernel
theorem dX6_isInWindow_14 : decode cX6_isInWindow 14 = .ok (.iconst 1, 1) := by decide +kernel
theorem dX6_isInWindow_15 : decode cX6_isInWindow 15 = .ok (.goto 4, 3) := by decide +kernel
theorem dX6_isInWindow_18 : decode cX6_isInWindow 18 = .ok (.iconst 0, 1) := by decide +kernel
theorem dX6_isInWindow_19 : decode cX6_isInWindow 19 = .ok (.ireturn, 1) := by decide +kernel
theorem dX6_goTicks_0 : decode cX6_goTicks 0 = .ok (.aload_n 0, 1) := by decide +kernel
theorem dX6_goTicks_1 : decode cX6_goTicks 1 = .ok (.iconst 0, 1) := by decide +kernel
theorem dX6_goTicks_2 : decode cX6_goTicks 2 = .ok (.dup2, 1) := by decide +kernel
theorem dX6_goTicks_3 : decode cX6_goTicks 3 = .ok (.iaload, 1) := by decide +kernel
theorem dX6_goTicks_4 : decode cX6_goTicks 4 = .ok (.iload_n 1, 1) := by decide +kernel
theorem dX6_goTicks_5 : decode cX6_goTicks 5 = .ok (.iadd, 1) := by decide +kernel
theorem dX6_goTicks_6 : decode cX6_goTicks 6 = .ok (.iastore, 1) := by decide +kernel
theorem dX6_goTicks_7 : decode cX6_goTicks 7 = .ok (.iload_n 1, 1) := by decide +kernel
theorem dX6_goTicks_8 : decode cX6_goTicks 8 = .ok (.ifCond .le 22, 3) := by decide +kernel
theorem dX6_goTicks_11 : decode cX6_goTicks 11 = .ok (.aload_n 0, 1) := by decide +kernel
theorem dX6_goTicks_12 : decode cX6_goTicks 12 = .ok (.bipush 13, 2) := by decide +kernel
theorem dX6_goTicks_14 : decode cX6_goTicks 14 = .ok (.iaload, 1) := by decide +kernel
theorem dX6_goTicks_15 : decode cX6_goTicks 15 = .ok (.iconst 1, 1) := by decide +kernel
theorem dX6_goTicks_16 : decode cX6_goTicks 16 = .ok (.if_icmp .ne 14, 3) := by decide +kernel
theorem dX6_goTicks_19 : decode cX6_goTicks 19 = .ok (.aload_n 0, 1) := by decide +kernel
theorem dX6_goTicks_20 : decode cX6_goTicks 20 = .ok (.invokestatic 57, 3) := by decide +kernel
theorem dX6_goTicks_23 : decode cX6_goTicks 23 = .ok (.ifCond .ne 7, 3) := by decide +kernel
theorem dX6_goTicks_26 : decode cX6_goTicks 26 = .ok (.aload_n 0, 1) := by decide +kernel
theorem dX6_goTicks_27 : decode cX6_goTicks 27 = .ok (.invokestatic 61, 3) := by decide +kernel
theorem dX6_goTicks_30 : decode cX6_goTicks 30 = .ok (.return_, 1) := by decide +kernel
theorem dX6_setMuch_0 : decode cX6_setMuch 0 = .ok (.aload_n 0, 1) := by decide +kernel
theorem dX6_setMuch_1 : decode cX6_setMuch 1 = .ok (.iconst 5, 1) := by decide +kernel
theorem dX6_setMuch_2 : decode cX6_setMuch 2 = .ok (.iaload, 1) := by decide +kernel
theorem dX6_setMuch_3 : decode cX6_setMuch 3 = .ok (.istore_n 2, 1) := by decide +kernel
theorem dX6_setMuch_4 : decode cX6_setMuch 4 = .ok (.aload_n 0, 1) := by decide +kernel
theorem dX6_setMuch_5 : decode cX6_setMuch 5 = .ok (.bipush 15, 2) := by decide +kernel
theorem dX6_setMuch_7 : decode cX6_setMuch 7 = .ok (.iload_n 1, 1) := by decide +kernel
theorem dX6_setMuch_8 : decode cX6_setMuch 8 = .ok (.iload_n 2, 1) := by decide +kernel
theorem dX6_setMuch_9 : decode cX6_setMuch 9 = .ok (.if_icmp .le 7, 3) := by decide +kernel
theorem dX6_setMuch_12 : decode cX6_setMuch 12 = .ok (.iconst 1, 1) := by decide +kernel
theorem dX6_setMuch_13 : decode cX6_setMuch 13 = .ok (.goto 7, 3) := by decide +kernel
theorem dX6_setMuch_16 : decode cX6_setMuch 16 = .ok (.aload_n 0, 1) := by decide +kernel
theorem dX6_setMuch_17 : decode cX6_setMuch 17 = .ok (.bipush 15, 2) := by decide +kernel
theorem dX6_setMuch_19 : decode cX6_setMuch 19 = .ok (.iaload, 1) := by decide +kernel
theorem dX6_setMuch_20 : decode cX6_setMuch 20 = .ok (.iastore, 1) := by decide +kernel
theorem dX6_setMuch_21 : decode cX6_setMuch 21 = .ok (.aload_n 0, 1) := by decide +kernel
theorem dX6_setMuch_22 : decode cX6_setMuch 22 = .ok (.bipush 12, 2) := by decide +kernel
theorem dX6_setMuch_24 : decode cX6_setMuch 24 = .ok (.iload_n 1, 1) := by decide +kernel
theorem dX6_setMuch_25 : decode cX6_setMuch 25 = .ok (.iload_n 2, 1) := by decide +kernel
theorem dX6_setMuch_26 : decode cX6_setMuch 26 = .ok (.if_icmp .le 7, 3) := by decide +kernel
theorem dX6_setMuch_29 : decode cX6_setMuch 29 = .ok (.iload_n 2, 1) := by decide +kernel
theorem dX6_setMuch_30 : decode cX6_setMuch 30 = .ok (.goto 4, 3) := by decide +kernel
theorem dX6_setMuch_33 : decode cX6_setMuch 33 = .ok (.iload_n 1, 1) := by decide +kernel
theorem dX6_setMuch_34 : decode cX6_setMuch 34 = .ok (.iastore, 1) := by decide +kernel
theorem dX6_setMuch_35 : decode cX6_setMuch 35 = .ok (.return_, 1) := by decide +kernel
theorem dX6_fall_0 : decode cX6_fall 0 = .ok (.iload_n 1, 1) := by decide +kernel
theorem dX6_fall_1 : decode cX6_fall 1 = .ok (.iload_n 1, 1) := by decide +kernel
theorem dX6_fall_2 : decode cX6_fall 2 = .ok (.imul, 1) := by decide +kernel
theorem dX6_fall_3 : decode cX6_fall 3 = .ok (.bipush 100, 2) := by decide +kernel
theorem dX6_fall_5 : decode cX6_fall 5 = .ok (.iconst 2, 1) := by decide +kernel
theorem dX6_fall_6 : decode cX6_fall 6 = .ok (.aload_n 0, 1) := by decide +kernel
theorem dX6_fall_7 : decode cX6_fall 7 = .ok (.iconst 1, 1) := by decide +kernel
theorem dX6_fall_8 : decode cX6_fall 8 = .ok (.iaload, 1) := by decide +kernel
theorem dX6_fall_9 : decode cX6_fall 9 = .ok (.imul, 1) := by decide +kernel
theorem dX6_fall_10 : decode cX6_fall 10 = .ok (.isub, 1) := by decide +kernel
theorem dX6_fall_11 : decode cX6_fall 11 = .ok (.imul, 1) := by decide +kernel
theorem dX6_fall_12 : decode cX6_fall 12 = .ok (.bipush 100, 2) := by decide +kernel
theorem dX6_fall_14 : decode cX6_fall 14 = .ok (.idiv, 1) := by decide +kernel
theorem dX6_fall_15 : decode cX6_fall 15 = .ok (.istore_n 2, 1) := by decide +kernel
theorem dX6_fall_16 : decode cX6_fall 16 = .ok (.aload_n 0, 1) := by decide +kernel
theorem dX6_fall_17 : decode cX6_fall 17 = .ok (.bipush 13, 2) := by decide +kernel
theorem dX6_fall_19 : decode cX6_fall 19 = .ok (.iaload, 1) := by decide +kernel
theorem dX6_fall_20 : decode cX6_fall 20 = .ok (.iconst 1, 1) := by decide +kernel
theorem dX6_fall_21 : decode cX6_fall 21 = .ok (.if_icmp .ne 30, 3) := by decide +kernel
theorem dX6_fall_24 : decode cX6_fall 24 = .ok (.aload_n 0, 1) := by decide +kernel
theorem dX6_fall_25 : decode cX6_fall 25 = .ok (.invokestatic 57, 3) := by decide +kernel
theorem dX6_fall_28 : decode cX6_fall 28 = .ok (.ifCond .eq 23, 3) := by decide +kernel
theorem dX6_fall_31 : decode cX6_fall 31 = .ok (.aload_n 0, 1) := by decide +kernel
theorem dX6_fall_32 : decode cX6_fall 32 = .ok (.aload_n 0, 1) := by decide +kernel
theorem dX6_fall_33 : decode cX6_fall 33 = .ok (.bipush 12, 2) := by decide +kernel
theorem dX6_fall_35 : decode cX6_fall 35 = .ok (.iaload, 1) := by decide +kernel
theorem dX6_fall_36 : decode cX6_fall 36 = .ok (.iload_n 2, 1) := by decide +kernel
theorem dX6_fall_37 : decode cX6_fall 37 = .ok (.iadd, 1) := by decide +kernel
theorem dX6_fall_38 : decode cX6_fall 38 = .ok (.invokestatic 64, 3) := by decide +kernel
theorem dX6_fall_41 : decode cX6_fall 41 = .ok (.aload_n 0, 1) := by decide +kernel
theorem dX6_fall_42 : decode cX6_fall 42 = .ok (.bipush 14, 2) := by decide +kernel
theorem dX6_fall_44 : decode cX6_fall 44 = .ok (.dup2, 1) := by decide +kernel
theorem dX6_fall_45 : decode cX6_fall 45 = .ok (.iaload, 1) := by decide +kernel
theorem dX6_fall_46 : decode cX6_fall 46 = .ok (.iconst 1, 1) := by decide +kernel
theorem dX6_fall_47 : decode cX6_fall 47 = .ok (.iadd, 1) := by decide +kernel
theorem dX6_fall_48 : decode cX6_fall 48 = .ok (.iastore, 1) := by decide +kernel
theorem dX6_fall_49 : decode cX6_fall 49 = .ok (.iconst 1, 1) := by decide +kernel
theorem dX6_fall_50 : decode cX6_fall 50 = .ok (.ireturn, 1) := by decide +kernel
theorem dX6_fall_51 : decode cX6_fall 51 = .ok (.aload_n 0, 1) := by decide +kernel
theorem dX6_fall_52 : decode cX6_fall 52 = .ok (.bipush 13, 2) := by decide +kernel
theorem dX6_fall_54 : decode cX6_fall 54 = .ok (.iaload, 1) := by decide +kernel
theorem dX6_fall_55 : decode cX6_fall 55 = .ok (.iconst 1, 1) := by decide +kernel
theorem dX6_fall_56 : decode cX6_fall 56 = .ok (.if_icmp .ne 7, 3) := by decide +kernel
theorem dX6_fall_59 : decode cX6_fall 59 = .ok (.aload_n 0, 1) := by decide +kernel
theorem dX6_fall_60 : decode cX6_fall 60 = .ok (.invokestatic 61, 3) := by decide +kernel
theorem dX6_fall_63 : decode cX6_fall 63 = .ok (.iload_n 2, 1) := by decide +kernel
theorem dX6_fall_64 : decode cX6_fall 64 = .ok (.aload_n 0, 1) := by decide +kernel
theorem dX6_fall_65 : decode cX6_fall 65 = .ok (.iconst 4, 1) := by decide +kernel
theorem dX6_fall_66 : decode cX6_fall 66 = .ok (.iaload, 1) := by decide +kernel
theorem dX6_fall_67 : decode cX6_fall 67 = .ok (.if_icmp .ge 5, 3) := by decide +kernel
theorem dX6_fall_70 : decode cX6_fall 70 = .ok (.iconst 3, 1) := by decide +kernel
theorem dX6_fall_71 : decode cX6_fall 71 = .ok (.ireturn, 1) := by decide +kernel
theorem dX6_fall_72 : decode cX6_fall 72 = .ok (.aload_n 0, 1) := by decide +kernel
theorem dX6_fall_73 : decode cX6_fall 73 = .ok (.invokestatic 68, 3) := by decide +kernel
theorem dX6_fall_76 : decode cX6_fall 76 = .ok (.istore_n 3, 1) := by decide +kernel
theorem dX6_fall_77 : decode cX6_fall 77 = .ok (.iload_n 3, 1) := by decide +kernel
theorem dX6_fall_78 : decode cX6_fall 78 = .ok (.iload_n 2, 1) := by decide +kernel
theorem dX6_fall_79 : decode cX6_fall 79 = .ok (.if_icmp .le 5, 3) := by decide +kernel
theorem dX6_fall_82 : decode cX6_fall 82 = .ok (.iconst 2, 1) := by decide +kernel
theorem dX6_fall_83 : decode cX6_fall 83 = .ok (.ireturn, 1) := by decide +kernel
theorem dX6_fall_84 : decode cX6_fall 84 = .ok (.aload_n 0, 1) := by decide +kernel
theorem dX6_fall_85 : decode cX6_fall 85 = .ok (.bipush 13, 2) := by decide +kernel
theorem dX6_fall_87 : decode cX6_fall 87 = .ok (.iconst 1, 1) := by decide +kernel
theorem dX6_fall_88 : decode cX6_fall 88 = .ok (.iastore, 1) := by decide +kernel
theorem dX6_fall_89 : decode cX6_fall 89 = .ok (.aload_n 0, 1) := by decide +kernel
theorem dX6_fall_90 : decode cX6_fall 90 = .ok (.bipush 14, 2) := by decide +kernel
theorem dX6_fall_92 : decode cX6_fall 92 = .ok (.iconst 1, 1) := by decide +kernel
theorem dX6_fall_93 : decode cX6_fall 93 = .ok (.iastore, 1) := by decide +kernel
theorem dX6_fall_94 : decode cX6_fall 94 = .ok (.aload_n 0, 1) := by decide +kernel
theorem dX6_fall_95 : decode cX6_fall 95 = .ok (.bipush 15, 2) := by decide +kernel
theorem dX6_fall_97 : decode cX6_fall 97 = .ok (.iconst 0, 1) := by decide +kernel
theorem dX6_fall_98 : decode cX6_fall 98 = .ok (.iastore, 1) := by decide +kernel
theorem dX6_fall_99 : decode cX6_fall 99 = .ok (.aload_n 0, 1) := by decide +kernel
theorem dX6_fall_100 : decode cX6_fall 100 = .ok (.bipush 10, 2) := by decide +kernel
theorem dX6_fall_102 : decode cX6_fall 102 = .ok (.iconst 1, 1) := by decide +kernel
theorem dX6_fall_103 : decode cX6_fall 103 = .ok (.iastore, 1) := by decide +kernel
theorem dX6_fall_104 : decode cX6_fall 104 = .ok (.aload_n 0, 1) := by decide +kernel
theorem dX6_fall_105 : decode cX6_fall 105 = .ok (.bipush 11, 2) := by decide +kernel
theorem dX6_fall_107 : decode cX6_fall 107 = .ok (.aload_n 0, 1) := by decide +kernel
theorem dX6_fall_108 : decode cX6_fall 108 = .ok (.iconst 0, 1) := by decide +kernel
theorem dX6_fall_109 : decode cX6_fall 109 = .ok (.iaload, 1) := by decide +kernel
theorem dX6_fall_110 : decode cX6_fall 110 = .ok (.iastore, 1) := by decide +kernel
theorem dX6_fall_111 : decode cX6_fall 111 = .ok (.aload_n 0, 1) := by decide +kernel
theorem dX6_fall_112 : decode cX6_fall 112 = .ok (.iload_n 2, 1) := by decide +kernel
theorem dX6_fall_113 : decode cX6_fall 113 = .ok (.iload_n 3, 1) := by decide +kernel
theorem dX6_fall_114 : decode cX6_fall 114 = .ok (.iconst 2, 1) := by decide +kernel
theorem dX6_fall_115 : decode cX6_fall 115 = .ok (.idiv, 1) := by decide +kernel
theorem dX6_fall_116 : decode cX6_fall 116 = .ok (.iadd, 1) := by decide +kernel
theorem dX6_fall_117 : decode cX6_fall 117 = .ok (.invokestatic 64, 3) := by decide +kernel
theorem dX6_fall_120 : decode cX6_fall 120 = .ok (.iconst 0, 1) := by decide +kernel
theorem dX6_fall_121 : decode cX6_fall 121 = .ok (.ireturn, 1) := by decide +kernel
theorem dX6_trace_0 : decode cX6_trace 0 = .ok (.aload_n 0, 1) := by decide +kernel
theorem dX6_trace_1 : decode cX6_trace 1 = .ok (.bipush 47, 2) := by decide +kernel
theorem dX6_trace_3 : decode cX6_trace 3 = .ok (.iaload, 1) := by decide +kernel
theorem dX6_trace_4 : decode cX6_trace 4 = .ok (.bipush 60, 2) := by decide +kernel
theorem dX6_trace_6 : decode cX6_trace 6 = .ok (.if_icmp .ne 22, 3) := by decide +kernel
theorem dX6_trace_9 : decode cX6_trace 9 = .ok (.aload_n 0, 1) := by decide +kernel
theorem dX6_trace_10 : decode cX6_trace 10 = .ok (.bipush 49, 2) := by decide +kernel
theorem dX6_trace_12 : decode cX6_trace 12 = .ok (.aload_n 0, 1) := by decide +kernel
theorem dX6_trace_13 : decode cX6_trace 13 = .ok (.bipush 48, 2) := by decide +kernel
theorem dX6_trace_15 : decode cX6_trace 15 = .ok (.bipush 59, 2) := by decide +kernel
theorem dX6_trace_17 : decode cX6_trace 17 = .ok (.invokestatic 49, 3) := by decide +kernel
theorem dX6_trace_20 : decode cX6_trace 20 = .ok (.aload_n 0, 1) := by decide +kernel
theorem dX6_trace_21 : decode cX6_trace 21 = .ok (.bipush 47, 2) := by decide +kernel
theorem dX6_trace_23 : decode cX6_trace 23 = .ok (.dup2, 1) := by decide +kernel
theorem dX6_trace_24 : decode cX6_trace 24 = .ok (.iaload, 1) := by decide +kernel
theorem dX6_trace_25 : decode cX6_trace 25 = .ok (.iconst 1, 1) := by decide +kernel
theorem dX6_trace_26 : decode cX6_trace 26 = .ok (.isub, 1) := by decide +kernel
theorem dX6_trace_27 : decode cX6_trace 27 = .ok (.iastore, 1) := by decide +kernel
theorem dX6_trace_28 : decode cX6_trace 28 = .ok (.aload_n 0, 1) := by decide +kernel
theorem dX6_trace_29 : decode cX6_trace 29 = .ok (.bipush 48, 2) := by decide +kernel
theorem dX6_trace_31 : decode cX6_trace 31 = .ok (.aload_n 0, 1) := by decide +kernel
theorem dX6_trace_32 : decode cX6_trace 32 = .ok (.bipush 47, 2) := by decide +kernel
theorem dX6_trace_34 : decode cX6_trace 34 = .ok (.iaload, 1) := by decide +kernel
theorem dX6_trace_35 : decode cX6_trace 35 = .ok (.iadd, 1) := by decide +kernel
theorem dX6_trace_36 : decode cX6_trace 36 = .ok (.iload_n 1, 1) := by decide +kernel
theorem dX6_trace_37 : decode cX6_trace 37 = .ok (.iastore, 1) := by decide +kernel
theorem dX6_trace_38 : decode cX6_trace 38 = .ok (.aload_n 0, 1) := by decide +kernel
theorem dX6_trace_39 : decode cX6_trace 39 = .ok (.bipush 47, 2) := by decide +kernel
theorem dX6_trace_41 : decode cX6_trace 41 = .ok (.dup2, 1) := by decide +kernel
theorem dX6_trace_42 : decode cX6_trace 42 = .ok (.iaload, 1) := by decide +kernel
theorem dX6_trace_43 : decode cX6_trace 43 = .ok (.iconst 1, 1) := by decide +kernel
theorem dX6_trace_44 : decode cX6_trace 44 = .ok (.iadd, 1) := by decide +kernel
theorem dX6_trace_45 : decode cX6_trace 45 = .ok (.iastore, 1) := by decide +kernel
theorem dX6_trace_46 : decode cX6_trace 46 = .ok (.return_, 1) := by decide +kernel
theorem dX6_record_0 : decode cX6_record 0 = .ok (.aload_n 0, 1) := by decide +kernel
theorem dX6_record_1 : decode cX6_record 1 = .ok (.bipush 108, 2) := by decide +kernel
theorem dX6_record_3 : decode cX6_record 3 = .ok (.iaload, 1) := by decide +kernel
theorem dX6_record_4 : decode cX6_record 4 = .ok (.bipush 40, 2) := by decide +kernel
theorem dX6_record_6 : decode cX6_record 6 = .ok (.if_icmp .ne 22, 3) := by decide +kernel
theorem dX6_record_9 : decode cX6_record 9 = .ok (.aload_n 0, 1) := by decide +kernel
theorem dX6_record_10 : decode cX6_record 10 = .ok (.bipush 111, 2) := by decide +kernel
theorem dX6_record_12 : decode cX6_record 12 = .ok (.aload_n 0, 1) := by decide +kernel
theorem dX6_record_13 : decode cX6_record 13 = .ok (.bipush 109, 2) := by decide +kernel
theorem dX6_record_15 : decode cX6_record 15 = .ok (.bipush 78, 2) := by decide +kernel
theorem dX6_record_17 : decode cX6_record 17 = .ok (.invokestatic 49, 3) := by decide +kernel
theorem dX6_record_20 : decode cX6_record 20 = .ok (.aload_n 0, 1) := by decide +kernel
theorem dX6_record_21 : decode cX6_record 21 = .ok (.bipush 108, 2) := by decide +kernel
theorem dX6_record_23 : decode cX6_record 23 = .ok (.dup2, 1) := by decide +kernel
theorem dX6_record_24 : decode cX6_record 24 = .ok (.iaload, 1) := by decide +kernel
theorem dX6_record_25 : decode cX6_record 25 = .ok (.iconst 1, 1) := by decide +kernel
theorem dX6_record_26 : decode cX6_record 26 = .ok (.isub, 1) := by decide +kernel
theorem dX6_record_27 : decode cX6_record 27 = .ok (.iastore, 1) := by decide +kernel
theorem dX6_record_28 : decode cX6_record 28 = .ok (.aload_n 0, 1) := by decide +kernel
theorem dX6_record_29 : decode cX6_record 29 = .ok (.bipush 109, 2) := by decide +kernel
theorem dX6_record_31 : decode cX6_record 31 = .ok (.iconst 2, 1) := by decide +kernel
theorem dX6_record_32 : decode cX6_record 32 = .ok (.aload_n 0, 1) := by decide +kernel
theorem dX6_record_33 : decode cX6_record 33 = .ok (.bipush 108, 2) := by decide +kernel
theorem dX6_record_35 : decode cX6_record 35 = .ok (.iaload, 1) := by decide +kernel
theorem dX6_record_36 : decode cX6_record 36 = .ok (.imul, 1) := by decide +kernel
theorem dX6_record_37 : decode cX6_record 37 = .ok (.iadd, 1) := by decide +kernel
theorem dX6_record_38 : decode cX6_record 38 = .ok (.aload_n 0, 1) := by decide +kernel
theorem dX6_record_39 : decode cX6_record 39 = .ok (.iconst 0, 1) := by decide +kernel
theorem dX6_record_40 : decode cX6_record 40 = .ok (.iaload, 1) := by decide +kernel
theorem dX6_record_41 : decode cX6_record 41 = .ok (.aload_n 0, 1) := by decide +kernel
theorem dX6_record_42 : decode cX6_record 42 = .ok (.sipush 189, 3) := by decide +kernel
theorem dX6_record_45 : decode cX6_record 45 = .ok (.iaload, 1) := by decide +kernel
theorem dX6_record_46 : decode cX6_record 46 = .ok (.isub, 1) := by decide +kernel
theorem dX6_record_47 : decode cX6_record 47 = .ok (.iastore, 1) := by decide +kernel
theorem dX6_record_48 : decode cX6_record 48 = .ok (.aload_n 0, 1) := by decide +kernel
theorem dX6_record_49 : decode cX6_record 49 = .ok (.bipush 109, 2) := by decide +kernel
theorem dX6_record_51 : decode cX6_record 51 = .ok (.iconst 2, 1) := by decide +kernel
theorem dX6_record_52 : decode cX6_record 52 = .ok (.aload_n 0, 1) := by decide +kernel
theorem dX6_record_53 : decode cX6_record 53 = .ok (.bipush 108, 2) := by decide +kernel
theorem dX6_record_55 : decode cX6_record 55 = .ok (.iaload, 1) := by decide +kernel
theorem dX6_record_56 : decode cX6_record 56 = .ok (.imul, 1) := by decide +kernel
theorem dX6_record_57 : decode cX6_record 57 = .ok (.iadd, 1) := by decide +kernel
theorem dX6_record_58 : decode cX6_record 58 = .ok (.iconst 1, 1) := by decide +kernel
theorem dX6_record_59 : decode cX6_record 59 = .ok (.iadd, 1) := by decide +kernel
theorem dX6_record_60 : decode cX6_record 60 = .ok (.iload_n 1, 1) := by decide +kernel
theorem dX6_record_61 : decode cX6_record 61 = .ok (.iastore, 1) := by decide +kernel
theorem dX6_record_62 : decode cX6_record 62 = .ok (.aload_n 0, 1) := by decide +kernel
theorem dX6_record_63 : decode cX6_record 63 = .ok (.bipush 108, 2) := by decide +kernel
theorem dX6_record_65 : decode cX6_record 65 = .ok (.dup2, 1) := by decide +kernel
theorem dX6_record_66 : decode cX6_record 66 = .ok (.iaload, 1) := by decide +kernel
theorem dX6_record_67 : decode cX6_record 67 = .ok (.iconst 1, 1) := by decide +kernel
theorem dX6_record_68 : decode cX6_record 68 = .ok (.iadd, 1) := by decide +kernel
theorem dX6_record_69 : decode cX6_record 69 = .ok (.iastore, 1) := by decide +kernel
theorem dX6_record_70 : decode cX6_record 70 = .ok (.aload_n 0, 1) := by decide +kernel
theorem dX6_record_71 : decode cX6_record 71 = .ok (.sipush 189, 3) := by decide +kernel
theorem dX6_record_74 : decode cX6_record 74 = .ok (.aload_n 0, 1) := by decide +kernel
theorem dX6_record_75 : decode cX6_record 75 = .ok (.iconst 0, 1) := by decide +kernel
theorem dX6_record_76 : decode cX6_record 76 = .ok (.iaload, 1) := by decide +kernel
theorem dX6_record_77 : decode cX6_record 77 = .ok (.iastore, 1) := by decide +kernel
theorem dX6_record_78 : decode cX6_record 78 = .ok (.return_, 1) := by decide +kernel
theorem dX6_goDrop_0 : decode cX6_goDrop 0 = .ok (.aload_n 0, 1) := by decide +kernel
theorem dX6_goDrop_1 : decode cX6_goDrop 1 = .ok (.iload_n 1, 1) := by decide +kernel
theorem dX6_goDrop_2 : decode cX6_goDrop 2 = .ok (.invokestatic 72, 3) := by decide +kernel
theorem dX6_goDrop_5 : decode cX6_goDrop 5 = .ok (.aload_n 0, 1) := by decide +kernel
theorem dX6_goDrop_6 : decode cX6_goDrop 6 = .ok (.iload_n 2, 1) := by decide +kernel
theorem dX6_goDrop_7 : decode cX6_goDrop 7 = .ok (.invokestatic 75, 3) := by decide +kernel
theorem dX6_goDrop_10 : decode cX6_goDrop 10 = .ok (.istore_n 3, 1) := by decide +kernel
theorem dX6_goDrop_11 : decode cX6_goDrop 11 = .ok (.aload_n 0, 1) := by decide +kernel
theorem dX6_goDrop_12 : decode cX6_goDrop 12 = .ok (.bipush 6, 2) := by decide +kernel
theorem dX6_goDrop_14 : decode cX6_goDrop 14 = .ok (.iload_n 3, 1) := by decide +kernel
theorem dX6_goDrop_15 : decode cX6_goDrop 15 = .ok (.iadd, 1) := by decide +kernel
theorem dX6_goDrop_16 : decode cX6_goDrop 16 = .ok (.dup2, 1) := by decide +kernel
theorem dX6_goDrop_17 : decode cX6_goDrop 17 = .ok (.iaload, 1) := by decide +kernel
theorem dX6_goDrop_18 : decode cX6_goDrop 18 = .ok (.iconst 1, 1) := by decide +kernel
theorem dX6_goDrop_19 : decode cX6_goDrop 19 = .ok (.iadd, 1) := by decide +kernel
theorem dX6_goDrop_20 : decode cX6_goDrop 20 = .ok (.iastore, 1) := by decide +kernel
theorem dX6_goDrop_21 : decode cX6_goDrop 21 = .ok (.aload_n 0, 1) := by decide +kernel
theorem dX6_goDrop_22 : decode cX6_goDrop 22 = .ok (.sipush 190, 3) := by decide +kernel
theorem dX6_goDrop_25 : decode cX6_goDrop 25 = .ok (.dup2, 1) := by decide +kernel
theorem dX6_goDrop_26 : decode cX6_goDrop 26 = .ok (.iaload, 1) := by decide +kernel
theorem dX6_goDrop_27 : decode cX6_goDrop 27 = .ok (.iload_n 2, 1) := by decide +kernel
theorem dX6_goDrop_28 : decode cX6_goDrop 28 = .ok (.iload_n 2, 1) := by decide +kernel
theorem dX6_goDrop_29 : decode cX6_goDrop 29 = .ok (.imul, 1) := by decide +kernel
theorem dX6_goDrop_30 : decode cX6_goDrop 30 = .ok (.iload_n 2, 1) := by decide +kernel
theorem dX6_goDrop_31 : decode cX6_goDrop 31 = .ok (.imul, 1) := by decide +kernel
theorem dX6_goDrop_32 : decode cX6_goDrop 32 = .ok (.iadd, 1) := by decide +kernel
theorem dX6_goDrop_33 : decode cX6_goDrop 33 = .ok (.iastore, 1) := by decide +kernel
theorem dX6_goDrop_34 : decode cX6_goDrop 34 = .ok (.aload_n 0, 1) := by decide +kernel
theorem dX6_goDrop_35 : decode cX6_goDrop 35 = .ok (.iload_n 3, 1) := by decide +kernel
theorem dX6_goDrop_36 : decode cX6_goDrop 36 = .ok (.invokestatic 78, 3) := by decide +kernel
theorem dX6_goDrop_39 : decode cX6_goDrop 39 = .ok (.aload_n 0, 1) := by decide +kernel
theorem dX6_goDrop_40 : decode cX6_goDrop 40 = .ok (.iload_n 2, 1) := by decide +kernel
theorem dX6_goDrop_41 : decode cX6_goDrop 41 = .ok (.invokestatic 81, 3) := by decide +kernel
theorem dX6_goDrop_44 : decode cX6_goDrop 44 = .ok (.iload_n 3, 1) := by decide +kernel
theorem dX6_goDrop_45 : decode cX6_goDrop 45 = .ok (.ireturn, 1) := by decide +kernel
theorem dX6_append_0 : decode cX6_append 0 = .ok (.aload_n 0, 1) := by decide +kernel
theorem dX6_append_1 : decode cX6_append 1 = .ok (.iload_n 1, 1) := by decide +kernel
theorem dX6_append_2 : decode cX6_append 2 = .ok (.i2l, 1) := by decide +kernel
theorem dX6_append_3 : decode cX6_append 3 = .ok (.lconst 0, 1) := by decide +kernel
theorem dX6_append_4 : decode cX6_append 4 = .ok (.ldc2_w 84, 3) := by decide +kernel
theorem dX6_append_7 : decode cX6_append 7 = .ok (.invokestatic 86, 3) := by decide +kernel
theorem dX6_append_10 : decode cX6_append 10 = .ok (.ifCond .ne 7, 3) := by decide +kernel
theorem dX6_append_13 : decode cX6_append 13 = .ok (.iconst 1, 1) := by decide +kernel
theorem dX6_append_14 : decode cX6_append 14 = .ok (.goto 17, 3) := by decide +kernel
theorem dX6_append_17 : decode cX6_append 17 = .ok (.aload_n 0, 1) := by decide +kernel
theorem dX6_append_18 : decode cX6_append 18 = .ok (.getfield 90, 3) := by decide +kernel
theorem dX6_append_21 : decode cX6_append 21 = .ok (.bipush 100, 2) := by decide +kernel
theorem dX6_append_23 : decode cX6_append 23 = .ok (.if_icmp .ne 7, 3) := by decide +kernel
theorem dX6_append_26 : decode cX6_append 26 = .ok (.iconst 2, 1) := by decide +kernel
theorem dX6_append_27 : decode cX6_append 27 = .ok (.goto 4, 3) := by decide +kernel
theorem dX6_append_30 : decode cX6_append 30 = .ok (.iconst 0, 1) := by decide +kernel
theorem dX6_append_31 : decode cX6_append 31 = .ok (.invokevirtual 93, 3) := by decide +kernel
theorem dX6_append_34 : decode cX6_append 34 = .ok (.ifCond .eq 5, 3) := by decide +kernel
theorem dX6_append_37 : decode cX6_append 37 = .ok (.iconst 0, 1) := by decide +kernel
theorem dX6_append_38 : decode cX6_append 38 = .ok (.ireturn, 1) := by decide +kernel
theorem dX6_append_39 : decode cX6_append 39 = .ok (.aload_n 0, 1) := by decide +kernel
theorem dX6_append_40 : decode cX6_append 40 = .ok (.getfield 7, 3) := by decide +kernel
theorem dX6_append_43 : decode cX6_append 43 = .ok (.aload_n 0, 1) := by decide +kernel
theorem dX6_append_44 : decode cX6_append 44 = .ok (.getfield 90, 3) := by decide +kernel
theorem dX6_append_47 : decode cX6_append 47 = .ok (.iload_n 1, 1) := by decide +kernel
theorem dX6_append_48 : decode cX6_append 48 = .ok (.iastore, 1) := by decide +kernel
theorem dX6_append_49 : decode cX6_append 49 = .ok (.aload_n 0, 1) := by decide +kernel
theorem dX6_append_50 : decode cX6_append 50 = .ok (.dup, 1) := by decide +kernel
theorem dX6_append_51 : decode cX6_append 51 = .ok (.getfield 90, 3) := by decide +kernel
theorem dX6_append_54 : decode cX6_append 54 = .ok (.iconst 1, 1) := by decide +kernel
theorem dX6_append_55 : decode cX6_append 55 = .ok (.iadd, 1) := by decide +kernel
theorem dX6_append_56 : decode cX6_append 56 = .ok (.putfield 90, 3) := by decide +kernel
theorem dX6_append_59 : decode cX6_append 59 = .ok (.aload_n 0, 1) := by decide +kernel
theorem dX6_append_60 : decode cX6_append 60 = .ok (.getfield 90, 3) := by decide +kernel
theorem dX6_append_63 : decode cX6_append 63 = .ok (.ireturn, 1) := by decide +kernel
theorem dX6_clearText_0 : decode cX6_clearText 0 = .ok (.aload_n 0, 1) := by decide +kernel
theorem dX6_clearText_1 : decode cX6_clearText 1 = .ok (.iconst 0, 1) := by decide +kernel
theorem dX6_clearText_2 : decode cX6_clearText 2 = .ok (.putfield 36, 3) := by decide +kernel
theorem dX6_clearText_5 : decode cX6_clearText 5 = .ok (.aload_n 0, 1) := by decide +kernel
theorem dX6_clearText_6 : decode cX6_clearText 6 = .ok (.getfield 90, 3) := by decide +kernel
theorem dX6_clearText_9 : decode cX6_clearText 9 = .ok (.istore_n 1, 1) := by decide +kernel
theorem dX6_clearText_10 : decode cX6_clearText 10 = .ok (.aload_n 0, 1) := by decide +kernel
theorem dX6_clearText_11 : decode cX6_clearText 11 = .ok (.iconst 0, 1) := by decide +kernel
theorem dX6_clearText_12 : decode cX6_clearText 12 = .ok (.putfield 90, 3) := by decide +kernel
theorem dX6_clearText_15 : decode cX6_clearText 15 = .ok (.iload_n 1, 1) := by decide +kernel
theorem dX6_clearText_16 : decode cX6_clearText 16 = .ok (.ireturn, 1) := by decide +kernel
theorem dX6_isNext_0 : decode cX6_isNext 0 = .ok (.aload_n 0, 1) := by decide +kernel
theorem dX6_isNext_1 : decode cX6_isNext 1 = .ok (.getfield 97, 3) := by decide +kernel
theorem dX6_isNext_4 : decode cX6_isNext 4 = .ok (.aload_n 0, 1) := by decide +kernel
theorem dX6_isNext_5 : decode cX6_isNext 5 = .ok (.getfield 90, 3) := by decide +kernel
theorem dX6_isNext_8 : decode cX6_isNext 8 = .ok (.if_icmp .ge 20, 3) := by decide +kernel
theorem dX6_isNext_11 : decode cX6_isNext 11 = .ok (.aload_n 0, 1) := by decide +kernel
theorem dX6_isNext_12 : decode cX6_isNext 12 = .ok (.getfield 7, 3) := by decide +kernel
theorem dX6_isNext_15 : decode cX6_isNext 15 = .ok (.aload_n 0, 1) := by decide +kernel
theorem dX6_isNext_16 : decode cX6_isNext 16 = .ok (.getfield 97, 3) := by decide +kernel
theorem dX6_isNext_19 : decode cX6_isNext 19 = .ok (.iaload, 1) := by decide +kernel
theorem dX6_isNext_20 : decode cX6_isNext 20 = .ok (.iload_n 1, 1) := by decide +kernel
theorem dX6_isNext_21 : decode cX6_isNext 21 = .ok (.if_icmp .ne 7, 3) := by decide +kernel
theorem dX6_isNext_24 : decode cX6_isNext 24 = .ok (.iconst 1, 1) := by decide +kernel
theorem dX6_isNext_25 : decode cX6_isNext 25 = .ok (.goto 4, 3) := by decide +kernel
theorem dX6_isNext_28 : decode cX6_isNext 28 = .ok (.iconst 0, 1) := by decide +kernel
theorem dX6_isNext_29 : decode cX6_isNext 29 = .ok (.ireturn, 1) := by decide +kernel
theorem dX6_accept_0 : decode cX6_accept 0 = .ok (.aload_n 0, 1) := by decide +kernel
theorem dX6_accept_1 : decode cX6_accept 1 = .ok (.aload_n 0, 1) := by decide +kernel
theorem dX6_accept_2 : decode cX6_accept 2 = .ok (.getfield 100, 3) := by decide +kernel
theorem dX6_accept_5 : decode cX6_accept 5 = .ok (.ifCond .eq 11, 3) := by decide +kernel
theorem dX6_accept_8 : decode cX6_accept 8 = .ok (.iload_n 1, 1) := by decide +kernel
theorem dX6_accept_9 : decode cX6_accept 9 = .ok (.ifCond .eq 7, 3) := by decide +kernel
theorem dX6_accept_12 : decode cX6_accept 12 = .ok (.iconst 1, 1) := by decide +kernel
theorem dX6_accept_13 : decode cX6_accept 13 = .ok (.goto 4, 3) := by decide +kernel
theorem dX6_accept_16 : decode cX6_accept 16 = .ok (.iconst 0, 1) := by decide +kernel
theorem dX6_accept_17 : decode cX6_accept 17 = .ok (.putfield 100, 3) := by decide +kernel
theorem dX6_accept_20 : decode cX6_accept 20 = .ok (.aload_n 0, 1) := by decide +kernel
theorem dX6_accept_21 : decode cX6_accept 21 = .ok (.dup, 1) := by decide +kernel
theorem dX6_accept_22 : decode cX6_accept 22 = .ok (.getfield 97, 3) := by decide +kernel
theorem dX6_accept_25 : decode cX6_accept 25 = .ok (.aload_n 0, 1) := by decide +kernel
theorem dX6_accept_26 : decode cX6_accept 26 = .ok (.getfield 100, 3) := by decide +kernel
theorem dX6_accept_29 : decode cX6_accept 29 = .ok (.ifCond .eq 7, 3) := by decide +kernel
theorem dX6_accept_32 : decode cX6_accept 32 = .ok (.iconst 1, 1) := by decide +kernel
theorem dX6_accept_33 : decode cX6_accept 33 = .ok (.goto 4, 3) := by decide +kernel
theorem dX6_accept_36 : decode cX6_accept 36 = .ok (.iconst 0, 1) := by decide +kernel
theorem dX6_accept_37 : decode cX6_accept 37 = .ok (.iadd, 1) := by decide +kernel
theorem dX6_accept_38 : decode cX6_accept 38 = .ok (.putfield 97, 3) := by decide +kernel
theorem dX6_accept_41 : decode cX6_accept 41 = .ok (.return_, 1) := by decide +kernel
theorem dX6_digit_0 : decode cX6_digit 0 = .ok (.aload_n 0, 1) := by decide +kernel
theorem dX6_digit_1 : decode cX6_digit 1 = .ok (.getfield 97, 3) := by decide +kernel
theorem dX6_digit_4 : decode cX6_digit 4 = .ok (.aload_n 0, 1) := by decide +kernel
theorem dX6_digit_5 : decode cX6_digit 5 = .ok (.getfield 90, 3) := by decide +kernel
theorem dX6_digit_8 : decode cX6_digit 8 = .ok (.if_icmp .ge 18, 3) := by decide +kernel
theorem dX6_digit_11 : decode cX6_digit 11 = .ok (.aload_n 0, 1) := by decide +kernel
theorem dX6_digit_12 : decode cX6_digit 12 = .ok (.getfield 7, 3) := by decide +kernel
theorem dX6_digit_15 : decode cX6_digit 15 = .ok (.aload_n 0, 1) := by decide +kernel
theorem dX6_digit_16 : decode cX6_digit 16 = .ok (.getfield 97, 3) := by decide +kernel
theorem dX6_digit_19 : decode cX6_digit 19 = .ok (.iaload, 1) := by decide +kernel
theorem dX6_digit_20 : decode cX6_digit 20 = .ok (.bipush 48, 2) := by decide +kernel
theorem dX6_digit_22 : decode cX6_digit 22 = .ok (.isub, 1) := by decide +kernel
theorem dX6_digit_23 : decode cX6_digit 23 = .ok (.goto 5, 3) := by decide +kernel
theorem dX6_digit_26 : decode cX6_digit 26 = .ok (.bipush (-9), 2) := by decide +kernel
theorem dX6_digit_28 : decode cX6_digit 28 = .ok (.istore_n 3, 1) := by decide +kernel
theorem dX6_digit_29 : decode cX6_digit 29 = .ok (.aload_n 0, 1) := by decide +kernel
theorem dX6_digit_30 : decode cX6_digit 30 = .ok (.iload_n 3, 1) := by decide +kernel
theorem dX6_digit_31 : decode cX6_digit 31 = .ok (.i2l, 1) := by decide +kernel
theorem dX6_digit_32 : decode cX6_digit 32 = .ok (.lconst 0, 1) := by decide +kernel
theorem dX6_digit_33 : decode cX6_digit 33 = .ok (.ldc2_w 104, 3) := by decide +kernel
theorem dX6_digit_36 : decode cX6_digit 36 = .ok (.invokestatic 86, 3) := by decide +kernel
theorem dX6_digit_39 : decode cX6_digit 39 = .ok (.ifCond .eq 19, 3) := by decide +kernel
theorem dX6_digit_42 : decode cX6_digit 42 = .ok (.iload_n 3, 1) := by decide +kernel
theorem dX6_digit_43 : decode cX6_digit 43 = .ok (.i2l, 1) := by decide +kernel
theorem dX6_digit_44 : decode cX6_digit 44 = .ok (.iload_n 1, 1) := by decide +kernel
theorem dX6_digit_45 : decode cX6_digit 45 = .ok (.i2l, 1) := by decide +kernel
theorem dX6_digit_46 : decode cX6_digit 46 = .ok (.iload_n 2, 1) := by decide +kernel
theorem dX6_digit_47 : decode cX6_digit 47 = .ok (.i2l, 1) := by decide +kernel
theorem dX6_digit_48 : decode cX6_digit 48 = .ok (.invokestatic 86, 3) := by decide +kernel
theorem dX6_digit_51 : decode cX6_digit 51 = .ok (.ifCond .eq 7, 3) := by decide +kernel
theorem dX6_digit_54 : decode cX6_digit 54 = .ok (.iconst 1, 1) := by decide +kernel
theorem dX6_digit_55 : decode cX6_digit 55 = .ok (.goto 4, 3) := by decide +kernel
theorem dX6_digit_58 : decode cX6_digit 58 = .ok (.iconst 0, 1) := by decide +kernel
theorem dX6_digit_59 : decode cX6_digit 59 = .ok (.invokevirtual 106, 3) := by decide +kernel
theorem dX6_digit_62 : decode cX6_digit 62 = .ok (.aload_n 0, 1) := by decide +kernel
theorem dX6_digit_63 : decode cX6_digit 63 = .ok (.getfield 100, 3) := by decide +kernel
theorem dX6_digit_66 : decode cX6_digit 66 = .ok (.ifCond .eq 7, 3) := by decide +kernel
theorem dX6_digit_69 : decode cX6_digit 69 = .ok (.iload_n 3, 1) := by decide +kernel
theorem dX6_digit_70 : decode cX6_digit 70 = .ok (.goto 4, 3) := by decide +kernel
theorem dX6_digit_73 : decode cX6_digit 73 = .ok (.iload_n 1, 1) := by decide +kernel
theorem dX6_digit_74 : decode cX6_digit 74 = .ok (.ireturn, 1) := by decide +kernel
theorem dX6_two_0 : decode cX6_two 0 = .ok (.aload_n 0, 1) := by decide +kernel
theorem dX6_two_1 : decode cX6_two 1 = .ok (.iload_n 1, 1) := by decide +kernel
theorem dX6_two_2 : decode cX6_two 2 = .ok (.bipush 10, 2) := by decide +kernel
theorem dX6_two_4 : decode cX6_two 4 = .ok (.idiv, 1) := by decide +kernel
theorem dX6_two_5 : decode cX6_two 5 = .ok (.iload_n 2, 1) := by decide +kernel
theorem dX6_two_6 : decode cX6_two 6 = .ok (.bipush 10, 2) := by decide +kernel
theorem dX6_two_8 : decode cX6_two 8 = .ok (.idiv, 1) := by decide +kernel
theorem dX6_two_9 : decode cX6_two 9 = .ok (.invokevirtual 110, 3) := by decide +kernel
theorem dX6_two_12 : decode cX6_two 12 = .ok (.istore_n 3, 1) := by decide +kernel
theorem dX6_two_13 : decode cX6_two 13 = .ok (.iload_n 1, 1) := by decide +kernel
theorem dX6_two_14 : decode cX6_two 14 = .ok (.bipush 10, 2) := by decide +kernel
theorem dX6_two_16 : decode cX6_two 16 = .ok (.iload_n 3, 1) := by decide +kernel
theorem dX6_two_17 : decode cX6_two 17 = .ok (.imul, 1) := by decide +kernel
theorem dX6_two_18 : decode cX6_two 18 = .ok (.isub, 1) := by decide +kernel
theorem dX6_two_19 : decode cX6_two 19 = .ok (.istore 4, 2) := by decide +kernel
theorem dX6_two_21 : decode cX6_two 21 = .ok (.iload_n 2, 1) := by decide +kernel
theorem dX6_two_22 : decode cX6_two 22 = .ok (.bipush 10, 2) := by decide +kernel
theorem dX6_two_24 : decode cX6_two 24 = .ok (.iload_n 3, 1) := by decide +kernel
theorem dX6_two_25 : decode cX6_two 25 = .ok (.imul, 1) := by decide +kernel
theorem dX6_two_26 : decode cX6_two 26 = .ok (.isub, 1) := by decide +kernel
theorem dX6_two_27 : decode cX6_two 27 = .ok (.istore 5, 2) := by decide +kernel
theorem dX6_two_29 : decode cX6_two 29 = .ok (.bipush 10, 2) := by decide +kernel
theorem dX6_two_31 : decode cX6_two 31 = .ok (.iload_n 3, 1) := by decide +kernel
theorem dX6_two_32 : decode cX6_two 32 = .ok (.imul, 1) := by decide +kernel
theorem dX6_two_33 : decode cX6_two 33 = .ok (.aload_n 0, 1) := by decide +kernel
theorem dX6_two_34 : decode cX6_two 34 = .ok (.iload 4, 2) := by decide +kernel
theorem dX6_two_36 : decode cX6_two 36 = .ok (.ifCond .ge 7, 3) := by decide +kernel
theorem dX6_two_39 : decode cX6_two 39 = .ok (.iconst 0, 1) := by decide +kernel
theorem dX6_two_40 : decode cX6_two 40 = .ok (.goto 5, 3) := by decide +kernel
theorem dX6_two_43 : decode cX6_two 43 = .ok (.iload 4, 2) := by decide +kernel
theorem dX6_two_45 : decode cX6_two 45 = .ok (.iload 5, 2) := by decide +kernel
theorem dX6_two_47 : decode cX6_two 47 = .ok (.bipush 9, 2) := by decide +kernel
theorem dX6_two_49 : decode cX6_two 49 = .ok (.if_icmp .le 8, 3) := by decide +kernel
theorem dX6_two_52 : decode cX6_two 52 = .ok (.bipush 9, 2) := by decide +kernel
theorem dX6_two_54 : decode cX6_two 54 = .ok (.goto 5, 3) := by decide +kernel
theorem dX6_two_57 : decode cX6_two 57 = .ok (.iload 5, 2) := by decide +kernel
theorem dX6_two_59 : decode cX6_two 59 = .ok (.invokevirtual 110, 3) := by decide +kernel
theorem dX6_two_62 : decode cX6_two 62 = .ok (.iadd, 1) := by decide +kernel
theorem dX6_two_63 : decode cX6_two 63 = .ok (.ireturn, 1) := by decide +kernel
theorem dX6_readPart_0 : decode cX6_readPart 0 = .ok (.aload_n 0, 1) := by decide +kernel
theorem dX6_readPart_1 : decode cX6_readPart 1 = .ok (.getfield 7, 3) := by decide +kernel
theorem dX6_readPart_4 : decode cX6_readPart 4 = .ok (.aload_n 0, 1) := by decide +kernel
theorem dX6_readPart_5 : decode cX6_readPart 5 = .ok (.getfield 97, 3) := by decide +kernel
theorem dX6_readPart_8 : decode cX6_readPart 8 = .ok (.iaload, 1) := by decide +kernel
theorem dX6_readPart_9 : decode cX6_readPart 9 = .ok (.istore_n 1, 1) := by decide +kernel
theorem dX6_readPart_10 : decode cX6_readPart 10 = .ok (.aload_n 0, 1) := by decide +kernel
theorem dX6_readPart_11 : decode cX6_readPart 11 = .ok (.iload_n 1, 1) := by decide +kernel
theorem dX6_readPart_12 : decode cX6_readPart 12 = .ok (.bipush 100, 2) := by decide +kernel
theorem dX6_readPart_14 : decode cX6_readPart 14 = .ok (.if_icmp .eq 27, 3) := by decide +kernel
theorem dX6_readPart_17 : decode cX6_readPart 17 = .ok (.iload_n 1, 1) := by decide +kernel
theorem dX6_readPart_18 : decode cX6_readPart 18 = .ok (.bipush 112, 2) := by decide +kernel
theorem dX6_readPart_20 : decode cX6_readPart 20 = .ok (.if_icmp .eq 21, 3) := by decide +kernel
theorem dX6_readPart_23 : decode cX6_readPart 23 = .ok (.iload_n 1, 1) := by decide +kernel
theorem dX6_readPart_24 : decode cX6_readPart 24 = .ok (.bipush 116, 2) := by decide +kernel
theorem dX6_readPart_26 : decode cX6_readPart 26 = .ok (.if_icmp .eq 15, 3) := by decide +kernel
theorem dX6_readPart_29 : decode cX6_readPart 29 = .ok (.iload_n 1, 1) := by decide +kernel
theorem dX6_readPart_30 : decode cX6_readPart 30 = .ok (.bipush 119, 2) := by decide +kernel
theorem dX6_readPart_32 : decode cX6_readPart 32 = .ok (.if_icmp .eq 9, 3) := by decide +kernel
theorem dX6_readPart_35 : decode cX6_readPart 35 = .ok (.iload_n 1, 1) := by decide +kernel
theorem dX6_readPart_36 : decode cX6_readPart 36 = .ok (.bipush 103, 2) := by decide +kernel
theorem dX6_readPart_38 : decode cX6_readPart 38 = .ok (.if_icmp .ne 7, 3) := by decide +kernel
theorem dX6_readPart_41 : decode cX6_readPart 41 = .ok (.iconst 1, 1) := by decide +kernel
theorem dX6_readPart_42 : decode cX6_readPart 42 = .ok (.goto 4, 3) := by decide +kernel
theorem dX6_readPart_45 : decode cX6_readPart 45 = .ok (.iconst 0, 1) := by decide +kernel
theorem dX6_readPart_46 : decode cX6_readPart 46 = .ok (.invokevirtual 106, 3) := by decide +kernel
theorem dX6_readPart_49 : decode cX6_readPart 49 = .ok (.aload_n 0, 1) := by decide +kernel
theorem dX6_readPart_50 : decode cX6_readPart 50 = .ok (.getfield 100, 3) := by decide +kernel
theorem dX6_readPart_53 : decode cX6_readPart 53 = .ok (.ifCond .ne 4, 3) := by decide +kernel
theorem dX6_readPart_56 : decode cX6_readPart 56 = .ok (.return_, 1) := by decide +kernel
theorem dX6_readPart_57 : decode cX6_readPart 57 = .ok (.iload_n 1, 1) := by decide +kernel
theorem dX6_readPart_58 : decode cX6_readPart 58 = .ok (.bipush 103, 2) := by decide +kernel
theorem dX6_readPart_60 : decode cX6_readPart 60 = .ok (.if_icmp .ne 35, 3) := by decide +kernel
theorem dX6_readPart_63 : decode cX6_readPart 63 = .ok (.aload_n 0, 1) := by decide +kernel
theorem dX6_readPart_64 : decode cX6_readPart 64 = .ok (.iconst 1, 1) := by decide +kernel
theorem dX6_readPart_65 : decode cX6_readPart 65 = .ok (.bipush 9, 2) := by decide +kernel
theorem dX6_readPart_67 : decode cX6_readPart 67 = .ok (.invokevirtual 110, 3) := by decide +kernel
theorem dX6_readPart_70 : decode cX6_readPart 70 = .ok (.istore_n 2, 1) := by decide +kernel
theorem dX6_readPart_71 : decode cX6_readPart 71 = .ok (.aload_n 0, 1) := by decide +kernel
theorem dX6_readPart_72 : decode cX6_readPart 72 = .ok (.getfield 13, 3) := by decide +kernel
theorem dX6_readPart_75 : decode cX6_readPart 75 = .ok (.iconst 3, 1) := by decide +kernel
theorem dX6_readPart_76 : decode cX6_readPart 76 = .ok (.aload_n 0, 1) := by decide +kernel
theorem dX6_readPart_77 : decode cX6_readPart 77 = .ok (.getfield 100, 3) := by decide +kernel
theorem dX6_readPart_80 : decode cX6_readPart 80 = .ok (.ifCond .eq 7, 3) := by decide +kernel
theorem dX6_readPart_83 : decode cX6_readPart 83 = .ok (.iload_n 2, 1) := by decide +kernel
theorem dX6_readPart_84 : decode cX6_readPart 84 = .ok (.goto 9, 3) := by decide +kernel
theorem dX6_readPart_87 : decode cX6_readPart 87 = .ok (.aload_n 0, 1) := by decide +kernel
theorem dX6_readPart_88 : decode cX6_readPart 88 = .ok (.getfield 13, 3) := by decide +kernel
theorem dX6_readPart_91 : decode cX6_readPart 91 = .ok (.iconst 3, 1) := by decide +kernel
theorem dX6_readPart_92 : decode cX6_readPart 92 = .ok (.iaload, 1) := by decide +kernel
theorem dX6_readPart_93 : decode cX6_readPart 93 = .ok (.iastore, 1) := by decide +kernel
theorem dX6_readPart_94 : decode cX6_readPart 94 = .ok (.return_, 1) := by decide +kernel
theorem dX6_readPart_95 : decode cX6_readPart 95 = .ok (.aload_n 0, 1) := by decide +kernel
theorem dX6_readPart_96 : decode cX6_readPart 96 = .ok (.iload_n 1, 1) := by decide +kernel
theorem dX6_readPart_97 : decode cX6_readPart 97 = .ok (.bipush 112, 2) := by decide +kernel
theorem dX6_readPart_99 : decode cX6_readPart 99 = .ok (.if_icmp .ne 7, 3) := by decide +kernel
theorem dX6_readPart_102 : decode cX6_readPart 102 = .ok (.iconst 1, 1) := by decide +kernel
theorem dX6_readPart_103 : decode cX6_readPart 103 = .ok (.goto 4, 3) := by decide +kernel
theorem dX6_readPart_106 : decode cX6_readPart 106 = .ok (.iconst 0, 1) := by decide +kernel
theorem dX6_readPart_107 : decode cX6_readPart 107 = .ok (.iload_n 1, 1) := by decide +kernel
theorem dX6_readPart_108 : decode cX6_readPart 108 = .ok (.bipush 116, 2) := by decide +kernel
theorem dX6_readPart_110 : decode cX6_readPart 110 = .ok (.if_icmp .ne 8, 3) := by decide +kernel
theorem dX6_readPart_113 : decode cX6_readPart 113 = .ok (.bipush 40, 2) := by decide +kernel
theorem dX6_readPart_115 : decode cX6_readPart 115 = .ok (.goto 16, 3) := by decide +kernel
theorem dX6_readPart_118 : decode cX6_readPart 118 = .ok (.iload_n 1, 1) := by decide +kernel
theorem dX6_readPart_119 : decode cX6_readPart 119 = .ok (.bipush 119, 2) := by decide +kernel
theorem dX6_readPart_121 : decode cX6_readPart 121 = .ok (.if_icmp .ne 8, 3) := by decide +kernel
theorem dX6_readPart_124 : decode cX6_readPart 124 = .ok (.bipush 20, 2) := by decide +kernel
theorem dX6_readPart_126 : decode cX6_readPart 126 = .ok (.goto 5, 3) := by decide +kernel
theorem dX6_readPart_129 : decode cX6_readPart 129 = .ok (.bipush 99, 2) := by decide +kernel
theorem dX6_readPart_131 : decode cX6_readPart 131 = .ok (.invokevirtual 114, 3) := by decide +kernel
theorem dX6_readPart_134 : decode cX6_readPart 134 = .ok (.istore_n 2, 1) := by decide +kernel
theorem dX6_readPart_135 : decode cX6_readPart 135 = .ok (.iload_n 1, 1) := by decide +kernel
theorem dX6_readPart_136 : decode cX6_readPart 136 = .ok (.bipush 100, 2) := by decide +kernel
theorem dX6_readPart_138 : decode cX6_readPart 138 = .ok (.if_icmp .ne 13, 3) := by decide +kernel
theorem dX6_readPart_141 : decode cX6_readPart 141 = .ok (.aload_n 0, 1) := by decide +kernel
theorem dX6_readPart_142 : decode cX6_readPart 142 = .ok (.iconst 1, 1) := by decide +kernel
theorem dX6_readPart_143 : decode cX6_readPart 143 = .ok (.bipush 60, 2) := by decide +kernel
theorem dX6_readPart_145 : decode cX6_readPart 145 = .ok (.invokevirtual 114, 3) := by decide +kernel
theorem dX6_readPart_148 : decode cX6_readPart 148 = .ok (.goto 4, 3) := by decide +kernel
theorem dX6_readPart_151 : decode cX6_readPart 151 = .ok (.iconst 0, 1) := by decide +kernel
theorem dX6_readPart_152 : decode cX6_readPart 152 = .ok (.istore_n 3, 1) := by decide +kernel
theorem dX6_readPart_153 : decode cX6_readPart 153 = .ok (.aload_n 0, 1) := by decide +kernel
theorem dX6_readPart_154 : decode cX6_readPart 154 = .ok (.getfield 100, 3) := by decide +kernel
theorem dX6_readPart_157 : decode cX6_readPart 157 = .ok (.ifCond .ne 4, 3) := by decide +kernel
theorem dX6_readPart_160 : decode cX6_readPart 160 = .ok (.return_, 1) := by decide +kernel
theorem dX6_readPart_161 : decode cX6_readPart 161 = .ok (.iload_n 1, 1) := by decide +kernel
theorem dX6_readPart_162 : decode cX6_readPart 162 = .ok (.bipush 100, 2) := by decide +kernel
theorem dX6_readPart_164 : decode cX6_readPart 164 = .ok (.if_icmp .ne 16, 3) := by decide +kernel
theorem dX6_readPart_167 : decode cX6_readPart 167 = .ok (.aload_n 0, 1) := by decide +kernel
theorem dX6_readPart_168 : decode cX6_readPart 168 = .ok (.getfield 13, 3) := by decide +kernel
theorem dX6_readPart_171 : decode cX6_readPart 171 = .ok (.iload_n 2, 1) := by decide +kernel
theorem dX6_readPart_172 : decode cX6_readPart 172 = .ok (.iload_n 3, 1) := by decide +kernel
theorem dX6_readPart_173 : decode cX6_readPart 173 = .ok (.invokestatic 117, 3) := by decide +kernel
theorem dX6_readPart_176 : decode cX6_readPart 176 = .ok (.pop, 1) := by decide +kernel
theorem dX6_readPart_177 : decode cX6_readPart 177 = .ok (.goto 39, 3) := by decide +kernel
theorem dX6_readPart_180 : decode cX6_readPart 180 = .ok (.iload_n 1, 1) := by decide +kernel
theorem dX6_readPart_181 : decode cX6_readPart 181 = .ok (.bipush 112, 2) := by decide +kernel
theorem dX6_readPart_183 : decode cX6_readPart 183 = .ok (.if_icmp .ne 14, 3) := by decide +kernel
theorem dX6_readPart_186 : decode cX6_readPart 186 = .ok (.aload_n 0, 1) := by decide +kernel
theorem dX6_readPart_187 : decode cX6_readPart 187 = .ok (.getfield 13, 3) := by decide +kernel
theorem dX6_readPart_190 : decode cX6_readPart 190 = .ok (.iload_n 2, 1) := by decide +kernel
theorem dX6_readPart_191 : decode cX6_readPart 191 = .ok (.invokestatic 72, 3) := by decide +kernel
theorem dX6_readPart_194 : decode cX6_readPart 194 = .ok (.goto 22, 3) := by decide +kernel
theorem dX6_readPart_197 : decode cX6_readPart 197 = .ok (.aload_n 0, 1) := by decide +kernel
theorem dX6_readPart_198 : decode cX6_readPart 198 = .ok (.getfield 13, 3) := by decide +kernel
theorem dX6_readPart_201 : decode cX6_readPart 201 = .ok (.iconst 1, 1) := by decide +kernel
theorem dX6_readPart_202 : decode cX6_readPart 202 = .ok (.iload_n 1, 1) := by decide +kernel
theorem dX6_readPart_203 : decode cX6_readPart 203 = .ok (.bipush 116, 2) := by decide +kernel
theorem dX6_readPart_205 : decode cX6_readPart 205 = .ok (.if_icmp .ne 7, 3) := by decide +kernel
theorem dX6_readPart_208 : decode cX6_readPart 208 = .ok (.iconst 0, 1) := by decide +kernel
theorem dX6_readPart_209 : decode cX6_readPart 209 = .ok (.goto 4, 3) := by decide +kernel
theorem dX6_readPart_212 : decode cX6_readPart 212 = .ok (.iconst 1, 1) := by decide +kernel
theorem dX6_readPart_213 : decode cX6_readPart 213 = .ok (.iadd, 1) := by decide +kernel
theorem dX6_readPart_214 : decode cX6_readPart 214 = .ok (.iload_n 2, 1) := by decide +kernel
theorem dX6_readPart_215 : decode cX6_readPart 215 = .ok (.iastore, 1) := by decide +kernel
theorem dX6_readPart_216 : decode cX6_readPart 216 = .ok (.return_, 1) := by decide +kernel
theorem dX6_readText_0 : decode cX6_readText 0 = .ok (.aload_n 0, 1) := by decide +kernel
theorem dX6_readText_1 : decode cX6_readText 1 = .ok (.iconst 0, 1) := by decide +kernel
theorem dX6_readText_2 : decode cX6_readText 2 = .ok (.putfield 97, 3) := by decide +kernel
theorem dX6_readText_5 : decode cX6_readText 5 = .ok (.aload_n 0, 1) := by decide +kernel
theorem dX6_readText_6 : decode cX6_readText 6 = .ok (.iconst 1, 1) := by decide +kernel
theorem dX6_readText_7 : decode cX6_readText 7 = .ok (.putfield 100, 3) := by decide +kernel
theorem dX6_readText_10 : decode cX6_readText 10 = .ok (.aload_n 0, 1) := by decide +kernel
theorem dX6_readText_11 : decode cX6_readText 11 = .ok (.getfield 13, 3) := by decide +kernel
theorem dX6_readText_14 : decode cX6_readText 14 = .ok (.invokestatic 32, 3) := by decide +kernel
theorem dX6_readText_17 : decode cX6_readText 17 = .ok (.aload_n 0, 1) := by decide +kernel
theorem dX6_readText_18 : decode cX6_readText 18 = .ok (.aload_n 0, 1) := by decide +kernel
theorem dX6_readText_19 : decode cX6_readText 19 = .ok (.bipush 80, 2) := by decide +kernel
theorem dX6_readText_21 : decode cX6_readText 21 = .ok (.invokevirtual 121, 3) := by decide +kernel
theorem dX6_readText_24 : decode cX6_readText 24 = .ok (.invokevirtual 106, 3) := by decide +kernel
theorem dX6_readText_27 : decode cX6_readText 27 = .ok (.aload_n 0, 1) := by decide +kernel
theorem dX6_readText_28 : decode cX6_readText 28 = .ok (.getfield 100, 3) := by decide +kernel
theorem dX6_readText_31 : decode cX6_readText 31 = .ok (.ifCond .eq 21, 3) := by decide +kernel
theorem dX6_readText_34 : decode cX6_readText 34 = .ok (.aload_n 0, 1) := by decide +kernel
theorem dX6_readText_35 : decode cX6_readText 35 = .ok (.getfield 97, 3) := by decide +kernel
theorem dX6_readText_38 : decode cX6_readText 38 = .ok (.aload_n 0, 1) := by decide +kernel
theorem dX6_readText_39 : decode cX6_readText 39 = .ok (.getfield 90, 3) := by decide +kernel
theorem dX6_readText_42 : decode cX6_readText 42 = .ok (.if_icmp .ge 10, 3) := by decide +kernel
theorem dX6_readText_45 : decode cX6_readText 45 = .ok (.aload_n 0, 1) := by decide +kernel
theorem dX6_readText_46 : decode cX6_readText 46 = .ok (.invokevirtual 124, 3) := by decide +kernel
theorem dX6_readText_49 : decode cX6_readText 49 = .ok (.goto (-22), 3) := by decide +kernel
theorem dX6_readText_52 : decode cX6_readText 52 = .ok (.aload_n 0, 1) := by decide +kernel
theorem dX6_readText_53 : decode cX6_readText 53 = .ok (.getfield 100, 3) := by decide +kernel
theorem dX6_readText_56 : decode cX6_readText 56 = .ok (.ifCond .eq 8, 3) := by decide +kernel
theorem dX6_readText_59 : decode cX6_readText 59 = .ok (.bipush (-9), 2) := by decide +kernel
theorem dX6_readText_61 : decode cX6_readText 61 = .ok (.goto 7, 3) := by decide +kernel
theorem dX6_readText_64 : decode cX6_readText 64 = .ok (.aload_n 0, 1) := by decide +kernel
theorem dX6_readText_65 : decode cX6_readText 65 = .ok (.getfield 97, 3) := by decide +kernel
theorem dX6_readText_68 : decode cX6_readText 68 = .ok (.ireturn, 1) := by decide +kernel
theorem dX6_errorPosition_0 : decode cX6_errorPosition 0 = .ok (.aload_n 0, 1) := by decide +kernel
theorem dX6_errorPosition_1 : decode cX6_errorPosition 1 = .ok (.iconst 0, 1) := by decide +kernel
theorem dX6_errorPosition_2 : decode cX6_errorPosition 2 = .ok (.putfield 36, 3) := by decide +kernel
theorem dX6_errorPosition_5 : decode cX6_errorPosition 5 = .ok (.aload_n 0, 1) := by decide +kernel
theorem dX6_errorPosition_6 : decode cX6_errorPosition 6 = .ok (.invokevirtual 127, 3) := by decide +kernel
theorem dX6_errorPosition_9 : decode cX6_errorPosition 9 = .ok (.ireturn, 1) := by decide +kernel
theorem dX6_drops_0 : decode cX6_drops 0 = .ok (.aload_n 0, 1) := by decide +kernel
theorem dX6_drops_1 : decode cX6_drops 1 = .ok (.bipush 6, 2) := by decide +kernel
theorem dX6_drops_3 : decode cX6_drops 3 = .ok (.iaload, 1) := by decide +kernel
theorem dX6_drops_4 : decode cX6_drops 4 = .ok (.aload_n 0, 1) := by decide +kernel
theorem dX6_drops_5 : decode cX6_drops 5 = .ok (.bipush 7, 2) := by decide +kernel
theorem dX6_drops_7 : decode cX6_drops 7 = .ok (.iaload, 1) := by decide +kernel
theorem dX6_drops_8 : decode cX6_drops 8 = .ok (.iadd, 1) := by decide +kernel
theorem dX6_drops_9 : decode cX6_drops 9 = .ok (.aload_n 0, 1) := by decide +kernel
theorem dX6_drops_10 : decode cX6_drops 10 = .ok (.bipush 8, 2) := by decide +kernel
theorem dX6_drops_12 : decode cX6_drops 12 = .ok (.iaload, 1) := by decide +kernel
theorem dX6_drops_13 : decode cX6_drops 13 = .ok (.iadd, 1) := by decide +kernel
theorem dX6_drops_14 : decode cX6_drops 14 = .ok (.aload_n 0, 1) := by decide +kernel
theorem dX6_drops_15 : decode cX6_drops 15 = .ok (.bipush 9, 2) := by decide +kernel
theorem dX6_drops_17 : decode cX6_drops 17 = .ok (.iaload, 1) := by decide +kernel
theorem dX6_drops_18 : decode cX6_drops 18 = .ok (.iadd, 1) := by decide +kernel
theorem dX6_drops_19 : decode cX6_drops 19 = .ok (.ireturn, 1) := by decide +kernel
theorem dX6_load_0 : decode cX6_load 0 = .ok (.aload_n 0, 1) := by decide +kernel
theorem dX6_load_1 : decode cX6_load 1 = .ok (.aload_n 0, 1) := by decide +kernel
theorem dX6_load_2 : decode cX6_load 2 = .ok (.invokevirtual 127, 3) := by decide +kernel
theorem dX6_load_5 : decode cX6_load 5 = .ok (.bipush (-9), 2) := by decide +kernel
theorem dX6_load_7 : decode cX6_load 7 = .ok (.if_icmp .ne 7, 3) := by decide +kernel
theorem dX6_load_10 : decode cX6_load 10 = .ok (.iconst 0, 1) := by decide +kernel
theorem dX6_load_11 : decode cX6_load 11 = .ok (.goto 4, 3) := by decide +kernel
theorem dX6_load_14 : decode cX6_load 14 = .ok (.iconst 1, 1) := by decide +kernel
theorem dX6_load_15 : decode cX6_load 15 = .ok (.invokevirtual 93, 3) := by decide +kernel
theorem dX6_load_18 : decode cX6_load 18 = .ok (.ifCond .eq 5, 3) := by decide +kernel
theorem dX6_load_21 : decode cX6_load 21 = .ok (.iconst 0, 1) := by decide +kernel
theorem dX6_load_22 : decode cX6_load 22 = .ok (.ireturn, 1) := by decide +kernel
theorem dX6_load_23 : decode cX6_load 23 = .ok (.aload_n 0, 1) := by decide +kernel
theorem dX6_load_24 : decode cX6_load 24 = .ok (.getfield 13, 3) := by decide +kernel
theorem dX6_load_27 : decode cX6_load 27 = .ok (.iconst 0, 1) := by decide +kernel
theorem dX6_load_28 : decode cX6_load 28 = .ok (.aload_n 0, 1) := by decide +kernel
theorem dX6_load_29 : decode cX6_load 29 = .ok (.getfield 16, 3) := by decide +kernel
theorem dX6_load_32 : decode cX6_load 32 = .ok (.iconst 0, 1) := by decide +kernel
theorem dX6_load_33 : decode cX6_load 33 = .ok (.sipush 191, 3) := by decide +kernel
theorem dX6_load_36 : decode cX6_load 36 = .ok (.invokestatic 49, 3) := by decide +kernel
theorem dX6_load_39 : decode cX6_load 39 = .ok (.aload_n 0, 1) := by decide +kernel
theorem dX6_load_40 : decode cX6_load 40 = .ok (.iconst 0, 1) := by decide +kernel
theorem dX6_load_41 : decode cX6_load 41 = .ok (.putfield 46, 3) := by decide +kernel
theorem dX6_load_44 : decode cX6_load 44 = .ok (.aload_n 0, 1) := by decide +kernel
theorem dX6_load_45 : decode cX6_load 45 = .ok (.getfield 28, 3) := by decide +kernel
theorem dX6_load_48 : decode cX6_load 48 = .ok (.iconst 0, 1) := by decide +kernel
theorem dX6_load_49 : decode cX6_load 49 = .ok (.iconst 0, 1) := by decide +kernel
theorem dX6_load_50 : decode cX6_load 50 = .ok (.bastore, 1) := by decide +kernel
theorem dX6_load_51 : decode cX6_load 51 = .ok (.aload_n 0, 1) := by decide +kernel
theorem dX6_load_52 : decode cX6_load 52 = .ok (.getfield 28, 3) := by decide +kernel
theorem dX6_load_55 : decode cX6_load 55 = .ok (.iconst 1, 1) := by decide +kernel
theorem dX6_load_56 : decode cX6_load 56 = .ok (.iconst 0, 1) := by decide +kernel
theorem dX6_load_57 : decode cX6_load 57 = .ok (.bastore, 1) := by decide +kernel
theorem dX6_load_58 : decode cX6_load 58 = .ok (.aload_n 0, 1) := by decide +kernel
theorem dX6_load_59 : decode cX6_load 59 = .ok (.getfield 16, 3) := by decide +kernel
theorem dX6_load_62 : decode cX6_load 62 = .ok (.invokestatic 131, 3) := by decide +kernel
theorem dX6_load_65 : decode cX6_load 65 = .ok (.ireturn, 1) := by decide +kernel
theorem dX6_inBins_0 : decode cX6_inBins 0 = .ok (.iconst 0, 1) := by decide +kernel
theorem dX6_inBins_1 : decode cX6_inBins 1 = .ok (.istore_n 2, 1) := by decide +kernel
theorem dX6_inBins_2 : decode cX6_inBins 2 = .ok (.iconst 0, 1) := by decide +kernel
theorem dX6_inBins_3 : decode cX6_inBins 3 = .ok (.istore_n 3, 1) := by decide +kernel
theorem dX6_inBins_4 : decode cX6_inBins 4 = .ok (.iload_n 3, 1) := by decide +kernel
theorem dX6_inBins_5 : decode cX6_inBins 5 = .ok (.bipush 8, 2) := by decide +kernel
theorem dX6_inBins_7 : decode cX6_inBins 7 = .ok (.if_icmp .ge 22, 3) := by decide +kernel
theorem dX6_inBins_10 : decode cX6_inBins 10 = .ok (.iload_n 2, 1) := by decide +kernel
theorem dX6_inBins_11 : decode cX6_inBins 11 = .ok (.aload_n 0, 1) := by decide +kernel
theorem dX6_inBins_12 : decode cX6_inBins 12 = .ok (.bipush 23, 2) := by decide +kernel
theorem dX6_inBins_14 : decode cX6_inBins 14 = .ok (.iconst 3, 1) := by decide +kernel
theorem dX6_inBins_15 : decode cX6_inBins 15 = .ok (.iload_n 3, 1) := by decide +kernel
theorem dX6_inBins_16 : decode cX6_inBins 16 = .ok (.imul, 1) := by decide +kernel
theorem dX6_inBins_17 : decode cX6_inBins 17 = .ok (.iadd, 1) := by decide +kernel
theorem dX6_inBins_18 : decode cX6_inBins 18 = .ok (.iload_n 1, 1) := by decide +kernel
theorem dX6_inBins_19 : decode cX6_inBins 19 = .ok (.iadd, 1) := by decide +kernel
theorem dX6_inBins_20 : decode cX6_inBins 20 = .ok (.iaload, 1) := by decide +kernel
theorem dX6_inBins_21 : decode cX6_inBins 21 = .ok (.iadd, 1) := by decide +kernel
theorem dX6_inBins_22 : decode cX6_inBins 22 = .ok (.istore_n 2, 1) := by decide +kernel
theorem dX6_inBins_23 : decode cX6_inBins 23 = .ok (.iinc 3 1, 3) := by decide +kernel
theorem dX6_inBins_26 : decode cX6_inBins 26 = .ok (.goto (-22), 3) := by decide +kernel
theorem dX6_inBins_29 : decode cX6_inBins 29 = .ok (.iload_n 2, 1) := by decide +kernel
theorem dX6_inBins_30 : decode cX6_inBins 30 = .ok (.ireturn, 1) := by decide +kernel
theorem dX6_about_0 : decode cX6_about 0 = .ok (.aload_n 0, 1) := by decide +kernel
theorem dX6_about_1 : decode cX6_about 1 = .ok (.iload_n 1, 1) := by decide +kernel
theorem dX6_about_2 : decode cX6_about 2 = .ok (.i2l, 1) := by decide +kernel
theorem dX6_about_3 : decode cX6_about 3 = .ok (.lconst 0, 1) := by decide +kernel
theorem dX6_about_4 : decode cX6_about 4 = .ok (.ldc2_w 134, 3) := by decide +kernel
theorem dX6_about_7 : decode cX6_about 7 = .ok (.invokestatic 86, 3) := by decide +kernel
theorem dX6_about_10 : decode cX6_about 10 = .ok (.ifCond .eq 7, 3) := by decide +kernel
theorem dX6_about_13 : decode cX6_about 13 = .ok (.iconst 0, 1) := by decide +kernel
theorem dX6_about_14 : decode cX6_about 14 = .ok (.goto 4, 3) := by decide +kernel
theorem dX6_about_17 : decode cX6_about 17 = .ok (.iconst 1, 1) := by decide +kernel
theorem dX6_about_18 : decode cX6_about 18 = .ok (.invokevirtual 93, 3) := by decide +kernel
theorem dX6_about_21 : decode cX6_about 21 = .ok (.ifCond .eq 5, 3) := by decide +kernel
theorem dX6_about_24 : decode cX6_about 24 = .ok (.iconst 0, 1) := by decide +kernel
theorem dX6_about_25 : decode cX6_about 25 = .ok (.ireturn, 1) := by decide +kernel
theorem dX6_about_26 : decode cX6_about 26 = .ok (.iload_n 1, 1) := by decide +kernel
theorem dX6_about_27 : decode cX6_about 27 = .ok (.tableswitch 120 0 10 #[57, 64, 72, 72, 72, 72, 84, 84, 96, 104, 112], 57) := by decide +kernel
theorem dX6_about_84 : decode cX6_about 84 = .ok (.aload_n 0, 1) := by decide +kernel
theorem dX6_about_85 : decode cX6_about 85 = .ok (.getfield 16, 3) := by decide +kernel
theorem dX6_about_88 : decode cX6_about 88 = .ok (.iconst 0, 1) := by decide +kernel
theorem dX6_about_89 : decode cX6_about 89 = .ok (.iaload, 1) := by decide +kernel
theorem dX6_about_90 : decode cX6_about 90 = .ok (.ireturn, 1) := by decide +kernel
theorem dX6_about_91 : decode cX6_about 91 = .ok (.aload_n 0, 1) := by decide +kernel
theorem dX6_about_92 : decode cX6_about 92 = .ok (.getfield 16, 3) := by decide +kernel
theorem dX6_about_95 : decode cX6_about 95 = .ok (.invokestatic 131, 3) := by decide +kernel
theorem dX6_about_98 : decode cX6_about 98 = .ok (.ireturn, 1) := by decide +kernel
theorem dX6_about_99 : decode cX6_about 99 = .ok (.aload_n 0, 1) := by decide +kernel
theorem dX6_about_100 : decode cX6_about 100 = .ok (.getfield 16, 3) := by decide +kernel
theorem dX6_about_103 : decode cX6_about 103 = .ok (.bipush 6, 2) := by decide +kernel
theorem dX6_about_105 : decode cX6_about 105 = .ok (.iload_n 1, 1) := by decide +kernel
theorem dX6_about_106 : decode cX6_about 106 = .ok (.iadd, 1) := by decide +kernel
theorem dX6_about_107 : decode cX6_about 107 = .ok (.iconst 2, 1) := by decide +kernel
theorem dX6_about_108 : decode cX6_about 108 = .ok (.isub, 1) := by decide +kernel
theorem dX6_about_109 : decode cX6_about 109 = .ok (.iaload, 1) := by decide +kernel
theorem dX6_about_110 : decode cX6_about 110 = .ok (.ireturn, 1) := by decide +kernel
theorem dX6_about_111 : decode cX6_about 111 = .ok (.aload_n 0, 1) := by decide +kernel
theorem dX6_about_112 : decode cX6_about 112 = .ok (.getfield 16, 3) := by decide +kernel
theorem dX6_about_115 : decode cX6_about 115 = .ok (.iload_n 1, 1) := by decide +kernel
theorem dX6_about_116 : decode cX6_about 116 = .ok (.bipush 6, 2) := by decide +kernel
theorem dX6_about_118 : decode cX6_about 118 = .ok (.isub, 1) := by decide +kernel
theorem dX6_about_119 : decode cX6_about 119 = .ok (.invokestatic 136, 3) := by decide +kernel
theorem dX6_about_122 : decode cX6_about 122 = .ok (.ireturn, 1) := by decide +kernel
theorem dX6_about_123 : decode cX6_about 123 = .ok (.aload_n 0, 1) := by decide +kernel
theorem dX6_about_124 : decode cX6_about 124 = .ok (.getfield 16, 3) := by decide +kernel
theorem dX6_about_127 : decode cX6_about 127 = .ok (.invokestatic 68, 3) := by decide +kernel
theorem dX6_about_130 : decode cX6_about 130 = .ok (.ireturn, 1) := by decide +kernel
theorem dX6_about_131 : decode cX6_about 131 = .ok (.aload_n 0, 1) := by decide +kernel
theorem dX6_about_132 : decode cX6_about 132 = .ok (.getfield 16, 3) := by decide +kernel
theorem dX6_about_135 : decode cX6_about 135 = .ok (.bipush 108, 2) := by decide +kernel
theorem dX6_about_137 : decode cX6_about 137 = .ok (.iaload, 1) := by decide +kernel
theorem dX6_about_138 : decode cX6_about 138 = .ok (.ireturn, 1) := by decide +kernel
theorem dX6_about_139 : decode cX6_about 139 = .ok (.aload_n 0, 1) := by decide +kernel
theorem dX6_about_140 : decode cX6_about 140 = .ok (.getfield 16, 3) := by decide +kernel
theorem dX6_about_143 : decode cX6_about 143 = .ok (.bipush 47, 2) := by decide +kernel
theorem dX6_about_145 : decode cX6_about 145 = .ok (.iaload, 1) := by decide +kernel
theorem dX6_about_146 : decode cX6_about 146 = .ok (.ireturn, 1) := by decide +kernel
theorem dX6_about_147 : decode cX6_about 147 = .ok (.aload_n 0, 1) := by decide +kernel
theorem dX6_about_148 : decode cX6_about 148 = .ok (.getfield 16, 3) := by decide +kernel
theorem dX6_about_151 : decode cX6_about 151 = .ok (.bipush 13, 2) := by decide +kernel
theorem dX6_about_153 : decode cX6_about 153 = .ok (.iaload, 1) := by decide +kernel
theorem dX6_about_154 : decode cX6_about 154 = .ok (.ireturn, 1) := by decide +kernel
theorem dX6_setting_0 : decode cX6_setting 0 = .ok (.aload_n 0, 1) := by decide +kernel
theorem dX6_setting_1 : decode cX6_setting 1 = .ok (.iload_n 1, 1) := by decide +kernel
theorem dX6_setting_2 : decode cX6_setting 2 = .ok (.i2l, 1) := by decide +kernel
theorem dX6_setting_3 : decode cX6_setting 3 = .ok (.lconst 0, 1) := by decide +kernel
theorem dX6_setting_4 : decode cX6_setting 4 = .ok (.ldc2_w 139, 3) := by decide +kernel
theorem dX6_setting_7 : decode cX6_setting 7 = .ok (.invokestatic 86, 3) := by decide +kernel
theorem dX6_setting_10 : decode cX6_setting 10 = .ok (.ifCond .eq 7, 3) := by decide +kernel
theorem dX6_setting_13 : decode cX6_setting 13 = .ok (.iconst 0, 1) := by decide +kernel
theorem dX6_setting_14 : decode cX6_setting 14 = .ok (.goto 4, 3) := by decide +kernel
theorem dX6_setting_17 : decode cX6_setting 17 = .ok (.iconst 1, 1) := by decide +kernel
theorem dX6_setting_18 : decode cX6_setting 18 = .ok (.invokevirtual 93, 3) := by decide +kernel
theorem dX6_setting_21 : decode cX6_setting 21 = .ok (.ifCond .eq 7, 3) := by decide +kernel
theorem dX6_setting_24 : decode cX6_setting 24 = .ok (.iconst 0, 1) := by decide +kernel
theorem dX6_setting_25 : decode cX6_setting 25 = .ok (.goto 11, 3) := by decide +kernel
theorem dX6_setting_28 : decode cX6_setting 28 = .ok (.aload_n 0, 1) := by decide +kernel
theorem dX6_setting_29 : decode cX6_setting 29 = .ok (.getfield 16, 3) := by decide +kernel
theorem dX6_setting_32 : decode cX6_setting 32 = .ok (.iconst 1, 1) := by decide +kernel
theorem dX6_setting_33 : decode cX6_setting 33 = .ok (.iload_n 1, 1) := by decide +kernel
theorem dX6_setting_34 : decode cX6_setting 34 = .ok (.iadd, 1) := by decide +kernel
theorem dX6_setting_35 : decode cX6_setting 35 = .ok (.iaload, 1) := by decide +kernel
theorem dX6_setting_36 : decode cX6_setting 36 = .ok (.ireturn, 1) := by decide +kernel
theorem dX6_isBin_0 : decode cX6_isBin 0 = .ok (.iload_n 0, 1) := by decide +kernel
theorem dX6_isBin_1 : decode cX6_isBin 1 = .ok (.i2l, 1) := by decide +kernel
theorem dX6_isBin_2 : decode cX6_isBin 2 = .ok (.lconst 0, 1) := by decide +kernel
theorem dX6_isBin_3 : decode cX6_isBin 3 = .ok (.ldc2_w 141, 3) := by decide +kernel
theorem dX6_isBin_6 : decode cX6_isBin 6 = .ok (.invokestatic 86, 3) := by decide +kernel
theorem dX6_isBin_9 : decode cX6_isBin 9 = .ok (.ireturn, 1) := by decide +kernel
theorem dX6_bin_0 : decode cX6_bin 0 = .ok (.aload_n 0, 1) := by decide +kernel
theorem dX6_bin_1 : decode cX6_bin 1 = .ok (.iload_n 1, 1) := by decide +kernel
theorem dX6_bin_2 : decode cX6_bin 2 = .ok (.invokestatic 143, 3) := by decide +kernel
theorem dX6_bin_5 : decode cX6_bin 5 = .ok (.ifCond .ne 7, 3) := by decide +kernel
theorem dX6_bin_8 : decode cX6_bin 8 = .ok (.iconst 1, 1) := by decide +kernel
theorem dX6_bin_9 : decode cX6_bin 9 = .ok (.goto 20, 3) := by decide +kernel
theorem dX6_bin_12 : decode cX6_bin 12 = .ok (.iload_n 2, 1) := by decide +kernel
theorem dX6_bin_13 : decode cX6_bin 13 = .ok (.i2l, 1) := by decide +kernel
theorem dX6_bin_14 : decode cX6_bin 14 = .ok (.lconst 0, 1) := by decide +kernel
theorem dX6_bin_15 : decode cX6_bin 15 = .ok (.ldc2_w 139, 3) := by decide +kernel
theorem dX6_bin_18 : decode cX6_bin 18 = .ok (.invokestatic 86, 3) := by decide +kernel
theorem dX6_bin_21 : decode cX6_bin 21 = .ok (.ifCond .eq 7, 3) := by decide +kernel
theorem dX6_bin_24 : decode cX6_bin 24 = .ok (.iconst 0, 1) := by decide +kernel
theorem dX6_bin_25 : decode cX6_bin 25 = .ok (.goto 4, 3) := by decide +kernel
theorem dX6_bin_28 : decode cX6_bin 28 = .ok (.iconst 2, 1) := by decide +kernel
theorem dX6_bin_29 : decode cX6_bin 29 = .ok (.invokevirtual 93, 3) := by decide +kernel
theorem dX6_bin_32 : decode cX6_bin 32 = .ok (.ifCond .eq 5, 3) := by decide +kernel
theorem dX6_bin_35 : decode cX6_bin 35 = .ok (.iconst 0, 1) := by decide +kernel
theorem dX6_bin_36 : decode cX6_bin 36 = .ok (.ireturn, 1) := by decide +kernel
theorem dX6_bin_37 : decode cX6_bin 37 = .ok (.iload_n 2, 1) := by decide +kernel
theorem dX6_bin_38 : decode cX6_bin 38 = .ok (.ifCond .ne 14, 3) := by decide +kernel
theorem dX6_bin_41 : decode cX6_bin 41 = .ok (.aload_n 0, 1) := by decide +kernel
theorem dX6_bin_42 : decode cX6_bin 42 = .ok (.getfield 16, 3) := by decide +kernel
theorem dX6_bin_45 : decode cX6_bin 45 = .ok (.iload_n 1, 1) := by decide +kernel
theorem dX6_bin_46 : decode cX6_bin 46 = .ok (.invokestatic 146, 3) := by decide +kernel
theorem dX6_bin_49 : decode cX6_bin 49 = .ok (.goto 34, 3) := by decide +kernel
theorem dX6_bin_52 : decode cX6_bin 52 = .ok (.iload_n 2, 1) := by decide +kernel
theorem dX6_bin_53 : decode cX6_bin 53 = .ok (.iconst 1, 1) := by decide +kernel
theorem dX6_bin_54 : decode cX6_bin 54 = .ok (.if_icmp .ne 14, 3) := by decide +kernel
theorem dX6_bin_57 : decode cX6_bin 57 = .ok (.aload_n 0, 1) := by decide +kernel
theorem dX6_bin_58 : decode cX6_bin 58 = .ok (.getfield 16, 3) := by decide +kernel
theorem dX6_bin_61 : decode cX6_bin 61 = .ok (.iload_n 1, 1) := by decide +kernel
theorem dX6_bin_62 : decode cX6_bin 62 = .ok (.invokestatic 149, 3) := by decide +kernel
theorem dX6_bin_65 : decode cX6_bin 65 = .ok (.goto 18, 3) := by decide +kernel
theorem dX6_bin_68 : decode cX6_bin 68 = .ok (.aload_n 0, 1) := by decide +kernel
theorem dX6_bin_69 : decode cX6_bin 69 = .ok (.getfield 16, 3) := by decide +kernel
theorem dX6_bin_72 : decode cX6_bin 72 = .ok (.bipush 23, 2) := by decide +kernel
theorem dX6_bin_74 : decode cX6_bin 74 = .ok (.iconst 3, 1) := by decide +kernel
theorem dX6_bin_75 : decode cX6_bin 75 = .ok (.iload_n 1, 1) := by decide +kernel
theorem dX6_bin_76 : decode cX6_bin 76 = .ok (.imul, 1) := by decide +kernel
theorem dX6_bin_77 : decode cX6_bin 77 = .ok (.iadd, 1) := by decide +kernel
theorem dX6_bin_78 : decode cX6_bin 78 = .ok (.iload_n 2, 1) := by decide +kernel
theorem dX6_bin_79 : decode cX6_bin 79 = .ok (.iadd, 1) := by decide +kernel
theorem dX6_bin_80 : decode cX6_bin 80 = .ok (.iconst 2, 1) := by decide +kernel
theorem dX6_bin_81 : decode cX6_bin 81 = .ok (.isub, 1) := by decide +kernel
theorem dX6_bin_82 : decode cX6_bin 82 = .ok (.iaload, 1) := by decide +kernel
theorem dX6_bin_83 : decode cX6_bin 83 = .ok (.ireturn, 1) := by decide +kernel
theorem dX6_pulse_0 : decode cX6_pulse 0 = .ok (.aload_n 0, 1) := by decide +kernel
theorem dX6_pulse_1 : decode cX6_pulse 1 = .ok (.iload_n 1, 1) := by decide +kernel
theorem dX6_pulse_2 : decode cX6_pulse 2 = .ok (.i2l, 1) := by decide +kernel
theorem dX6_pulse_3 : decode cX6_pulse 3 = .ok (.lconst 0, 1) := by decide +kernel
theorem dX6_pulse_4 : decode cX6_pulse 4 = .ok (.ldc2_w 152, 3) := by decide +kernel
theorem dX6_pulse_7 : decode cX6_pulse 7 = .ok (.invokestatic 86, 3) := by decide +kernel
theorem dX6_pulse_10 : decode cX6_pulse 10 = .ok (.ifCond .eq 7, 3) := by decide +kernel
theorem dX6_pulse_13 : decode cX6_pulse 13 = .ok (.iconst 0, 1) := by decide +kernel
theorem dX6_pulse_14 : decode cX6_pulse 14 = .ok (.goto 4, 3) := by decide +kernel
theorem dX6_pulse_17 : decode cX6_pulse 17 = .ok (.iconst 1, 1) := by decide +kernel
theorem dX6_pulse_18 : decode cX6_pulse 18 = .ok (.invokevirtual 93, 3) := by decide +kernel
theorem dX6_pulse_21 : decode cX6_pulse 21 = .ok (.ifCond .eq 5, 3) := by decide +kernel
theorem dX6_pulse_24 : decode cX6_pulse 24 = .ok (.iconst 0, 1) := by decide +kernel
theorem dX6_pulse_25 : decode cX6_pulse 25 = .ok (.ireturn, 1) := by decide +kernel
theorem dX6_pulse_26 : decode cX6_pulse 26 = .ok (.aload_n 0, 1) := by decide +kernel
theorem dX6_pulse_27 : decode cX6_pulse 27 = .ok (.getfield 16, 3) := by decide +kernel
theorem dX6_pulse_30 : decode cX6_pulse 30 = .ok (.bipush 13, 2) := by decide +kernel
theorem dX6_pulse_32 : decode cX6_pulse 32 = .ok (.iaload, 1) := by decide +kernel
theorem dX6_pulse_33 : decode cX6_pulse 33 = .ok (.ifCond .ne 6, 3) := by decide +kernel
theorem dX6_pulse_36 : decode cX6_pulse 36 = .ok (.bipush (-9), 2) := by decide +kernel
theorem dX6_pulse_38 : decode cX6_pulse 38 = .ok (.ireturn, 1) := by decide +kernel
theorem dX6_pulse_39 : decode cX6_pulse 39 = .ok (.iload_n 1, 1) := by decide +kernel
theorem dX6_pulse_40 : decode cX6_pulse 40 = .ok (.ifCond .ne 20, 3) := by decide +kernel
theorem dX6_pulse_43 : decode cX6_pulse 43 = .ok (.aload_n 0, 1) := by decide +kernel
theorem dX6_pulse_44 : decode cX6_pulse 44 = .ok (.getfield 16, 3) := by decide +kernel
theorem dX6_pulse_47 : decode cX6_pulse 47 = .ok (.iconst 0, 1) := by decide +kernel
theorem dX6_pulse_48 : decode cX6_pulse 48 = .ok (.iaload, 1) := by decide +kernel
theorem dX6_pulse_49 : decode cX6_pulse 49 = .ok (.aload_n 0, 1) := by decide +kernel
theorem dX6_pulse_50 : decode cX6_pulse 50 = .ok (.getfield 16, 3) := by decide +kernel
theorem dX6_pulse_53 : decode cX6_pulse 53 = .ok (.bipush 11, 2) := by decide +kernel
theorem dX6_pulse_55 : decode cX6_pulse 55 = .ok (.iaload, 1) := by decide +kernel
theorem dX6_pulse_56 : decode cX6_pulse 56 = .ok (.isub, 1) := by decide +kernel
theorem dX6_pulse_57 : decode cX6_pulse 57 = .ok (.goto 40, 3) := by decide +kernel
theorem dX6_pulse_60 : decode cX6_pulse 60 = .ok (.iload_n 1, 1) := by decide +kernel
theorem dX6_pulse_61 : decode cX6_pulse 61 = .ok (.iconst 1, 1) := by decide +kernel
theorem dX6_pulse_62 : decode cX6_pulse 62 = .ok (.if_icmp .ne 13, 3) := by decide +kernel
theorem dX6_pulse_65 : decode cX6_pulse 65 = .ok (.aload_n 0, 1) := by decide +kernel
theorem dX6_pulse_66 : decode cX6_pulse 66 = .ok (.getfield 16, 3) := by decide +kernel
theorem dX6_pulse_69 : decode cX6_pulse 69 = .ok (.bipush 12, 2) := by decide +kernel
theorem dX6_pulse_71 : decode cX6_pulse 71 = .ok (.iaload, 1) := by decide +kernel
theorem dX6_pulse_72 : decode cX6_pulse 72 = .ok (.goto 25, 3) := by decide +kernel
theorem dX6_pulse_75 : decode cX6_pulse 75 = .ok (.iload_n 1, 1) := by decide +kernel
theorem dX6_pulse_76 : decode cX6_pulse 76 = .ok (.iconst 2, 1) := by decide +kernel
theorem dX6_pulse_77 : decode cX6_pulse 77 = .ok (.if_icmp .ne 13, 3) := by decide +kernel
theorem dX6_pulse_80 : decode cX6_pulse 80 = .ok (.aload_n 0, 1) := by decide +kernel
theorem dX6_pulse_81 : decode cX6_pulse 81 = .ok (.getfield 16, 3) := by decide +kernel
theorem dX6_pulse_84 : decode cX6_pulse 84 = .ok (.bipush 14, 2) := by decide +kernel
theorem dX6_pulse_86 : decode cX6_pulse 86 = .ok (.iaload, 1) := by decide +kernel
theorem dX6_pulse_87 : decode cX6_pulse 87 = .ok (.goto 10, 3) := by decide +kernel
theorem dX6_pulse_90 : decode cX6_pulse 90 = .ok (.aload_n 0, 1) := by decide +kernel
theorem dX6_pulse_91 : decode cX6_pulse 91 = .ok (.getfield 16, 3) := by decide +kernel
theorem dX6_pulse_94 : decode cX6_pulse 94 = .ok (.bipush 15, 2) := by decide +kernel
theorem dX6_pulse_96 : decode cX6_pulse 96 = .ok (.iaload, 1) := by decide +kernel
theorem dX6_pulse_97 : decode cX6_pulse 97 = .ok (.ireturn, 1) := by decide +kernel
theorem dX6_fate_0 : decode cX6_fate 0 = .ok (.aload_n 0, 1) := by decide +kernel
theorem dX6_fate_1 : decode cX6_fate 1 = .ok (.iload_n 1, 1) := by decide +kernel
theorem dX6_fate_2 : decode cX6_fate 2 = .ok (.ifCond .ge 7, 3) := by decide +kernel
theorem dX6_fate_5 : decode cX6_fate 5 = .ok (.iconst 1, 1) := by decide +kernel
theorem dX6_fate_6 : decode cX6_fate 6 = .ok (.goto 4, 3) := by decide +kernel
theorem dX6_fate_9 : decode cX6_fate 9 = .ok (.iconst 0, 1) := by decide +kernel
theorem dX6_fate_10 : decode cX6_fate 10 = .ok (.invokevirtual 93, 3) := by decide +kernel
theorem dX6_fate_13 : decode cX6_fate 13 = .ok (.ifCond .eq 5, 3) := by decide +kernel
theorem dX6_fate_16 : decode cX6_fate 16 = .ok (.iconst 0, 1) := by decide +kernel
theorem dX6_fate_17 : decode cX6_fate 17 = .ok (.ireturn, 1) := by decide +kernel
theorem dX6_fate_18 : decode cX6_fate 18 = .ok (.iload_n 1, 1) := by decide +kernel
theorem dX6_fate_19 : decode cX6_fate 19 = .ok (.aload_n 0, 1) := by decide +kernel
theorem dX6_fate_20 : decode cX6_fate 20 = .ok (.getfield 16, 3) := by decide +kernel
theorem dX6_fate_23 : decode cX6_fate 23 = .ok (.bipush 47, 2) := by decide +kernel
theorem dX6_fate_25 : decode cX6_fate 25 = .ok (.iaload, 1) := by decide +kernel
theorem dX6_fate_26 : decode cX6_fate 26 = .ok (.if_icmp .ge 25, 3) := by decide +kernel
theorem dX6_fate_29 : decode cX6_fate 29 = .ok (.aload_n 0, 1) := by decide +kernel
theorem dX6_fate_30 : decode cX6_fate 30 = .ok (.getfield 16, 3) := by decide +kernel
theorem dX6_fate_33 : decode cX6_fate 33 = .ok (.bipush 48, 2) := by decide +kernel
theorem dX6_fate_35 : decode cX6_fate 35 = .ok (.aload_n 0, 1) := by decide +kernel
theorem dX6_fate_36 : decode cX6_fate 36 = .ok (.getfield 16, 3) := by decide +kernel
theorem dX6_fate_39 : decode cX6_fate 39 = .ok (.bipush 47, 2) := by decide +kernel
theorem dX6_fate_41 : decode cX6_fate 41 = .ok (.iaload, 1) := by decide +kernel
theorem dX6_fate_42 : decode cX6_fate 42 = .ok (.iadd, 1) := by decide +kernel
theorem dX6_fate_43 : decode cX6_fate 43 = .ok (.iconst 1, 1) := by decide +kernel
theorem dX6_fate_44 : decode cX6_fate 44 = .ok (.isub, 1) := by decide +kernel
theorem dX6_fate_45 : decode cX6_fate 45 = .ok (.iload_n 1, 1) := by decide +kernel
theorem dX6_fate_46 : decode cX6_fate 46 = .ok (.isub, 1) := by decide +kernel
theorem dX6_fate_47 : decode cX6_fate 47 = .ok (.iaload, 1) := by decide +kernel
theorem dX6_fate_48 : decode cX6_fate 48 = .ok (.goto 5, 3) := by decide +kernel
theorem dX6_fate_51 : decode cX6_fate 51 = .ok (.bipush (-9), 2) := by decide +kernel
theorem dX6_fate_53 : decode cX6_fate 53 = .ok (.ireturn, 1) := by decide +kernel
theorem dX6_longest_0 : decode cX6_longest 0 = .ok (.aload_n 0, 1) := by decide +kernel
theorem dX6_longest_1 : decode cX6_longest 1 = .ok (.iload_n 1, 1) := by decide +kernel
theorem dX6_longest_2 : decode cX6_longest 2 = .ok (.i2l, 1) := by decide +kernel
theorem dX6_longest_3 : decode cX6_longest 3 = .ok (.lconst 0, 1) := by decide +kernel
theorem dX6_longest_4 : decode cX6_longest 4 = .ok (.ldc2_w 152, 3) := by decide +kernel
theorem dX6_longest_7 : decode cX6_longest 7 = .ok (.invokestatic 86, 3) := by decide +kernel
theorem dX6_longest_10 : decode cX6_longest 10 = .ok (.ifCond .eq 7, 3) := by decide +kernel
theorem dX6_longest_13 : decode cX6_longest 13 = .ok (.iconst 0, 1) := by decide +kernel
theorem dX6_longest_14 : decode cX6_longest 14 = .ok (.goto 4, 3) := by decide +kernel
theorem dX6_longest_17 : decode cX6_longest 17 = .ok (.iconst 1, 1) := by decide +kernel
theorem dX6_longest_18 : decode cX6_longest 18 = .ok (.invokevirtual 93, 3) := by decide +kernel
theorem dX6_longest_21 : decode cX6_longest 21 = .ok (.ifCond .eq 5, 3) := by decide +kernel
theorem dX6_longest_24 : decode cX6_longest 24 = .ok (.iconst 0, 1) := by decide +kernel
theorem dX6_longest_25 : decode cX6_longest 25 = .ok (.ireturn, 1) := by decide +kernel
theorem dX6_longest_26 : decode cX6_longest 26 = .ok (.iconst 0, 1) := by decide +kernel
theorem dX6_longest_27 : decode cX6_longest 27 = .ok (.istore_n 2, 1) := by decide +kernel
theorem dX6_longest_28 : decode cX6_longest 28 = .ok (.iconst 0, 1) := by decide +kernel
theorem dX6_longest_29 : decode cX6_longest 29 = .ok (.istore_n 3, 1) := by decide +kernel
theorem dX6_longest_30 : decode cX6_longest 30 = .ok (.iconst 0, 1) := by decide +kernel
theorem dX6_longest_31 : decode cX6_longest 31 = .ok (.istore 4, 2) := by decide +kernel
theorem dX6_longest_33 : decode cX6_longest 33 = .ok (.iload 4, 2) := by decide +kernel
theorem dX6_longest_35 : decode cX6_longest 35 = .ok (.aload_n 0, 1) := by decide +kernel
theorem dX6_longest_36 : decode cX6_longest 36 = .ok (.getfield 16, 3) := by decide +kernel
theorem dX6_longest_39 : decode cX6_longest 39 = .ok (.bipush 47, 2) := by decide +kernel
theorem dX6_longest_41 : decode cX6_longest 41 = .ok (.iaload, 1) := by decide +kernel
theorem dX6_longest_42 : decode cX6_longest 42 = .ok (.if_icmp .ge 42, 3) := by decide +kernel
theorem dX6_longest_45 : decode cX6_longest 45 = .ok (.aload_n 0, 1) := by decide +kernel
theorem dX6_longest_46 : decode cX6_longest 46 = .ok (.getfield 16, 3) := by decide +kernel
theorem dX6_longest_49 : decode cX6_longest 49 = .ok (.bipush 48, 2) := by decide +kernel
theorem dX6_longest_51 : decode cX6_longest 51 = .ok (.iload 4, 2) := by decide +kernel
theorem dX6_longest_53 : decode cX6_longest 53 = .ok (.iadd, 1) := by decide +kernel
theorem dX6_longest_54 : decode cX6_longest 54 = .ok (.iaload, 1) := by decide +kernel
theorem dX6_longest_55 : decode cX6_longest 55 = .ok (.iload_n 1, 1) := by decide +kernel
theorem dX6_longest_56 : decode cX6_longest 56 = .ok (.if_icmp .ne 9, 3) := by decide +kernel
theorem dX6_longest_59 : decode cX6_longest 59 = .ok (.iload_n 3, 1) := by decide +kernel
theorem dX6_longest_60 : decode cX6_longest 60 = .ok (.iconst 1, 1) := by decide +kernel
theorem dX6_longest_61 : decode cX6_longest 61 = .ok (.iadd, 1) := by decide +kernel
theorem dX6_longest_62 : decode cX6_longest 62 = .ok (.goto 4, 3) := by decide +kernel
theorem dX6_longest_65 : decode cX6_longest 65 = .ok (.iconst 0, 1) := by decide +kernel
theorem dX6_longest_66 : decode cX6_longest 66 = .ok (.istore_n 3, 1) := by decide +kernel
theorem dX6_longest_67 : decode cX6_longest 67 = .ok (.iload_n 3, 1) := by decide +kernel
theorem dX6_longest_68 : decode cX6_longest 68 = .ok (.iload_n 2, 1) := by decide +kernel
theorem dX6_longest_69 : decode cX6_longest 69 = .ok (.if_icmp .le 7, 3) := by decide +kernel
theorem dX6_longest_72 : decode cX6_longest 72 = .ok (.iload_n 3, 1) := by decide +kernel
theorem dX6_longest_73 : decode cX6_longest 73 = .ok (.goto 4, 3) := by decide +kernel
theorem dX6_longest_76 : decode cX6_longest 76 = .ok (.iload_n 2, 1) := by decide +kernel
theorem dX6_longest_77 : decode cX6_longest 77 = .ok (.istore_n 2, 1) := by decide +kernel
theorem dX6_longest_78 : decode cX6_longest 78 = .ok (.iinc 4 1, 3) := by decide +kernel
theorem dX6_longest_81 : decode cX6_longest 81 = .ok (.goto (-48), 3) := by decide +kernel
theorem dX6_longest_84 : decode cX6_longest 84 = .ok (.iload_n 2, 1) := by decide +kernel
theorem dX6_longest_85 : decode cX6_longest 85 = .ok (.ireturn, 1) := by decide +kernel
theorem dX6_areFates_0 : decode cX6_areFates 0 = .ok (.iload_n 0, 1) := by decide +kernel
theorem dX6_areFates_1 : decode cX6_areFates 1 = .ok (.i2l, 1) := by decide +kernel
theorem dX6_areFates_2 : decode cX6_areFates 2 = .ok (.lconst 1, 1) := by decide +kernel
theorem dX6_areFates_3 : decode cX6_areFates 3 = .ok (.ldc2_w 154, 3) := by decide +kernel
theorem dX6_areFates_6 : decode cX6_areFates 6 = .ok (.invokestatic 86, 3) := by decide +kernel
theorem dX6_areFates_9 : decode cX6_areFates 9 = .ok (.ifCond .eq 38, 3) := by decide +kernel
theorem dX6_areFates_12 : decode cX6_areFates 12 = .ok (.iload_n 1, 1) := by decide +kernel
theorem dX6_areFates_13 : decode cX6_areFates 13 = .ok (.i2l, 1) := by decide +kernel
theorem dX6_areFates_14 : decode cX6_areFates 14 = .ok (.lconst 0, 1) := by decide +kernel
theorem dX6_areFates_15 : decode cX6_areFates 15 = .ok (.iload_n 0, 1) := by decide +kernel
theorem dX6_areFates_16 : decode cX6_areFates 16 = .ok (.i2l, 1) := by decide +kernel
theorem dX6_areFates_17 : decode cX6_areFates 17 = .ok (.lconst 1, 1) := by decide +kernel
theorem dX6_areFates_18 : decode cX6_areFates 18 = .ok (.ldc2_w 154, 3) := by decide +kernel
theorem dX6_areFates_21 : decode cX6_areFates 21 = .ok (.invokestatic 86, 3) := by decide +kernel
theorem dX6_areFates_24 : decode cX6_areFates 24 = .ok (.ifCond .eq 7, 3) := by decide +kernel
theorem dX6_areFates_27 : decode cX6_areFates 27 = .ok (.iload_n 0, 1) := by decide +kernel
theorem dX6_areFates_28 : decode cX6_areFates 28 = .ok (.goto 4, 3) := by decide +kernel
theorem dX6_areFates_31 : decode cX6_areFates 31 = .ok (.iconst 0, 1) := by decide +kernel
theorem dX6_areFates_32 : decode cX6_areFates 32 = .ok (.invokestatic 156, 3) := by decide +kernel
theorem dX6_areFates_35 : decode cX6_areFates 35 = .ok (.lconst 1, 1) := by decide +kernel
theorem dX6_areFates_36 : decode cX6_areFates 36 = .ok (.lsub, 1) := by decide +kernel
theorem dX6_areFates_37 : decode cX6_areFates 37 = .ok (.invokestatic 86, 3) := by decide +kernel
theorem dX6_areFates_40 : decode cX6_areFates 40 = .ok (.ifCond .eq 7, 3) := by decide +kernel
theorem dX6_areFates_43 : decode cX6_areFates 43 = .ok (.iconst 1, 1) := by decide +kernel
theorem dX6_areFates_44 : decode cX6_areFates 44 = .ok (.goto 4, 3) := by decide +kernel
theorem dX6_areFates_47 : decode cX6_areFates 47 = .ok (.iconst 0, 1) := by decide +kernel
theorem dX6_areFates_48 : decode cX6_areFates 48 = .ok (.istore_n 2, 1) := by decide +kernel
theorem dX6_areFates_49 : decode cX6_areFates 49 = .ok (.iload_n 2, 1) := by decide +kernel
theorem dX6_areFates_50 : decode cX6_areFates 50 = .ok (.ifCond .eq 7, 3) := by decide +kernel
theorem dX6_areFates_53 : decode cX6_areFates 53 = .ok (.iload_n 1, 1) := by decide +kernel
theorem dX6_areFates_54 : decode cX6_areFates 54 = .ok (.goto 4, 3) := by decide +kernel
theorem dX6_areFates_57 : decode cX6_areFates 57 = .ok (.iconst 0, 1) := by decide +kernel
theorem dX6_areFates_58 : decode cX6_areFates 58 = .ok (.istore_n 3, 1) := by decide +kernel
theorem dX6_areFates_59 : decode cX6_areFates 59 = .ok (.iload_n 3, 1) := by decide +kernel
theorem dX6_areFates_60 : decode cX6_areFates 60 = .ok (.ifCond .le 29, 3) := by decide +kernel
theorem dX6_areFates_63 : decode cX6_areFates 63 = .ok (.iload_n 2, 1) := by decide +kernel
theorem dX6_areFates_64 : decode cX6_areFates 64 = .ok (.ifCond .eq 15, 3) := by decide +kernel
theorem dX6_areFates_67 : decode cX6_areFates 67 = .ok (.iload_n 3, 1) := by decide +kernel
theorem dX6_areFates_68 : decode cX6_areFates 68 = .ok (.bipush 10, 2) := by decide +kernel
theorem dX6_areFates_70 : decode cX6_areFates 70 = .ok (.irem, 1) := by decide +kernel
theorem dX6_areFates_71 : decode cX6_areFates 71 = .ok (.iconst 4, 1) := by decide +kernel
theorem dX6_areFates_72 : decode cX6_areFates 72 = .ok (.if_icmp .ge 7, 3) := by decide +kernel
theorem dX6_areFates_75 : decode cX6_areFates 75 = .ok (.iconst 1, 1) := by decide +kernel
theorem dX6_areFates_76 : decode cX6_areFates 76 = .ok (.goto 4, 3) := by decide +kernel
theorem dX6_areFates_79 : decode cX6_areFates 79 = .ok (.iconst 0, 1) := by decide +kernel
theorem dX6_areFates_80 : decode cX6_areFates 80 = .ok (.istore_n 2, 1) := by decide +kernel
theorem dX6_areFates_81 : decode cX6_areFates 81 = .ok (.iload_n 3, 1) := by decide +kernel
theorem dX6_areFates_82 : decode cX6_areFates 82 = .ok (.bipush 10, 2) := by decide +kernel
theorem dX6_areFates_84 : decode cX6_areFates 84 = .ok (.idiv, 1) := by decide +kernel
theorem dX6_areFates_85 : decode cX6_areFates 85 = .ok (.istore_n 3, 1) := by decide +kernel
theorem dX6_areFates_86 : decode cX6_areFates 86 = .ok (.goto (-27), 3) := by decide +kernel
theorem dX6_areFates_89 : decode cX6_areFates 89 = .ok (.iload_n 2, 1) := by decide +kernel
theorem dX6_areFates_90 : decode cX6_areFates 90 = .ok (.ireturn, 1) := by decide +kernel
theorem dX6_pattern_0 : decode cX6_pattern 0 = .ok (.aload_n 0, 1) := by decide +kernel
theorem dX6_pattern_1 : decode cX6_pattern 1 = .ok (.iload_n 1, 1) := by decide +kernel
theorem dX6_pattern_2 : decode cX6_pattern 2 = .ok (.iload_n 2, 1) := by decide +kernel
theorem dX6_pattern_3 : decode cX6_pattern 3 = .ok (.invokestatic 160, 3) := by decide +kernel
theorem dX6_pattern_6 : decode cX6_pattern 6 = .ok (.ifCond .eq 7, 3) := by decide +kernel
theorem dX6_pattern_9 : decode cX6_pattern 9 = .ok (.iconst 0, 1) := by decide +kernel
theorem dX6_pattern_10 : decode cX6_pattern 10 = .ok (.goto 4, 3) := by decide +kernel
theorem dX6_pattern_13 : decode cX6_pattern 13 = .ok (.iconst 1, 1) := by decide +kernel
theorem dX6_pattern_14 : decode cX6_pattern 14 = .ok (.invokevirtual 93, 3) := by decide +kernel
theorem dX6_pattern_17 : decode cX6_pattern 17 = .ok (.ifCond .eq 5, 3) := by decide +kernel
theorem dX6_pattern_20 : decode cX6_pattern 20 = .ok (.iconst 0, 1) := by decide +kernel
theorem dX6_pattern_21 : decode cX6_pattern 21 = .ok (.ireturn, 1) := by decide +kernel
theorem dX6_pattern_22 : decode cX6_pattern 22 = .ok (.iconst 0, 1) := by decide +kernel
theorem dX6_pattern_23 : decode cX6_pattern 23 = .ok (.istore_n 3, 1) := by decide +kernel
theorem dX6_pattern_24 : decode cX6_pattern 24 = .ok (.iconst 0, 1) := by decide +kernel
theorem dX6_pattern_25 : decode cX6_pattern 25 = .ok (.istore 4, 2) := by decide +kernel
theorem dX6_pattern_27 : decode cX6_pattern 27 = .ok (.iload 4, 2) := by decide +kernel
theorem dX6_pattern_29 : decode cX6_pattern 29 = .ok (.iload_n 1, 1) := by decide +kernel
theorem dX6_pattern_30 : decode cX6_pattern 30 = .ok (.iadd, 1) := by decide +kernel
theorem dX6_pattern_31 : decode cX6_pattern 31 = .ok (.aload_n 0, 1) := by decide +kernel
theorem dX6_pattern_32 : decode cX6_pattern 32 = .ok (.getfield 16, 3) := by decide +kernel
theorem dX6_pattern_35 : decode cX6_pattern 35 = .ok (.bipush 47, 2) := by decide +kernel
theorem dX6_pattern_37 : decode cX6_pattern 37 = .ok (.iaload, 1) := by decide +kernel
theorem dX6_pattern_38 : decode cX6_pattern 38 = .ok (.if_icmp .gt 84, 3) := by decide +kernel
theorem dX6_pattern_41 : decode cX6_pattern 41 = .ok (.iload_n 2, 1) := by decide +kernel
theorem dX6_pattern_42 : decode cX6_pattern 42 = .ok (.istore 5, 2) := by decide +kernel
theorem dX6_pattern_44 : decode cX6_pattern 44 = .ok (.iconst 1, 1) := by decide +kernel
theorem dX6_pattern_45 : decode cX6_pattern 45 = .ok (.istore 6, 2) := by decide +kernel
theorem dX6_pattern_47 : decode cX6_pattern 47 = .ok (.iload_n 1, 1) := by decide +kernel
theorem dX6_pattern_48 : decode cX6_pattern 48 = .ok (.iconst 1, 1) := by decide +kernel
theorem dX6_pattern_49 : decode cX6_pattern 49 = .ok (.isub, 1) := by decide +kernel
theorem dX6_pattern_50 : decode cX6_pattern 50 = .ok (.istore 7, 2) := by decide +kernel
theorem dX6_pattern_52 : decode cX6_pattern 52 = .ok (.iload 7, 2) := by decide +kernel
theorem dX6_pattern_54 : decode cX6_pattern 54 = .ok (.ifCond .lt 49, 3) := by decide +kernel
theorem dX6_pattern_57 : decode cX6_pattern 57 = .ok (.iload 6, 2) := by decide +kernel
theorem dX6_pattern_59 : decode cX6_pattern 59 = .ok (.ifCond .eq 28, 3) := by decide +kernel
theorem dX6_pattern_62 : decode cX6_pattern 62 = .ok (.aload_n 0, 1) := by decide +kernel
theorem dX6_pattern_63 : decode cX6_pattern 63 = .ok (.getfield 16, 3) := by decide +kernel
theorem dX6_pattern_66 : decode cX6_pattern 66 = .ok (.bipush 48, 2) := by decide +kernel
theorem dX6_pattern_68 : decode cX6_pattern 68 = .ok (.iload 4, 2) := by decide +kernel
theorem dX6_pattern_70 : decode cX6_pattern 70 = .ok (.iadd, 1) := by decide +kernel
theorem dX6_pattern_71 : decode cX6_pattern 71 = .ok (.iload 7, 2) := by decide +kernel
theorem dX6_pattern_73 : decode cX6_pattern 73 = .ok (.iadd, 1) := by decide +kernel
theorem dX6_pattern_74 : decode cX6_pattern 74 = .ok (.iaload, 1) := by decide +kernel
theorem dX6_pattern_75 : decode cX6_pattern 75 = .ok (.iload 5, 2) := by decide +kernel
theorem dX6_pattern_77 : decode cX6_pattern 77 = .ok (.bipush 10, 2) := by decide +kernel
theorem dX6_pattern_79 : decode cX6_pattern 79 = .ok (.irem, 1) := by decide +kernel
theorem dX6_pattern_80 : decode cX6_pattern 80 = .ok (.if_icmp .ne 7, 3) := by decide +kernel
theorem dX6_pattern_83 : decode cX6_pattern 83 = .ok (.iconst 1, 1) := by decide +kernel
theorem dX6_pattern_84 : decode cX6_pattern 84 = .ok (.goto 4, 3) := by decide +kernel
theorem dX6_pattern_87 : decode cX6_pattern 87 = .ok (.iconst 0, 1) := by decide +kernel
theorem dX6_pattern_88 : decode cX6_pattern 88 = .ok (.istore 6, 2) := by decide +kernel
theorem dX6_pattern_90 : decode cX6_pattern 90 = .ok (.iload 5, 2) := by decide +kernel
theorem dX6_pattern_92 : decode cX6_pattern 92 = .ok (.bipush 10, 2) := by decide +kernel
theorem dX6_pattern_94 : decode cX6_pattern 94 = .ok (.idiv, 1) := by decide +kernel
theorem dX6_pattern_95 : decode cX6_pattern 95 = .ok (.istore 5, 2) := by decide +kernel
theorem dX6_pattern_97 : decode cX6_pattern 97 = .ok (.iinc 7 (-1), 3) := by decide +kernel
theorem dX6_pattern_100 : decode cX6_pattern 100 = .ok (.goto (-48), 3) := by decide +kernel
theorem dX6_pattern_103 : decode cX6_pattern 103 = .ok (.iload_n 3, 1) := by decide +kernel
theorem dX6_pattern_104 : decode cX6_pattern 104 = .ok (.iload 6, 2) := by decide +kernel
theorem dX6_pattern_106 : decode cX6_pattern 106 = .ok (.ifCond .eq 7, 3) := by decide +kernel
theorem dX6_pattern_109 : decode cX6_pattern 109 = .ok (.iconst 1, 1) := by decide +kernel
theorem dX6_pattern_110 : decode cX6_pattern 110 = .ok (.goto 4, 3) := by decide +kernel
theorem dX6_pattern_113 : decode cX6_pattern 113 = .ok (.iconst 0, 1) := by decide +kernel
theorem dX6_pattern_114 : decode cX6_pattern 114 = .ok (.iadd, 1) := by decide +kernel
theorem dX6_pattern_115 : decode cX6_pattern 115 = .ok (.istore_n 3, 1) := by decide +kernel
theorem dX6_pattern_116 : decode cX6_pattern 116 = .ok (.iinc 4 1, 3) := by decide +kernel
theorem dX6_pattern_119 : decode cX6_pattern 119 = .ok (.goto (-92), 3) := by decide +kernel
theorem dX6_pattern_122 : decode cX6_pattern 122 = .ok (.iload_n 3, 1) := by decide +kernel
theorem dX6_pattern_123 : decode cX6_pattern 123 = .ok (.ireturn, 1) := by decide +kernel
theorem dX6_root_0 : decode cX6_root 0 = .ok (.iconst 0, 1) := by decide +kernel
theorem dX6_root_1 : decode cX6_root 1 = .ok (.istore_n 1, 1) := by decide +kernel
theorem dX6_root_2 : decode cX6_root 2 = .ok (.iload_n 1, 1) := by decide +kernel
theorem dX6_root_3 : decode cX6_root 3 = .ok (.iconst 1, 1) := by decide +kernel
theorem dX6_root_4 : decode cX6_root 4 = .ok (.iadd, 1) := by decide +kernel
theorem dX6_root_5 : decode cX6_root 5 = .ok (.iload_n 1, 1) := by decide +kernel
theorem dX6_root_6 : decode cX6_root 6 = .ok (.iconst 1, 1) := by decide +kernel
theorem dX6_root_7 : decode cX6_root 7 = .ok (.iadd, 1) := by decide +kernel
theorem dX6_root_8 : decode cX6_root 8 = .ok (.imul, 1) := by decide +kernel
theorem dX6_root_9 : decode cX6_root 9 = .ok (.iload_n 0, 1) := by decide +kernel
theorem dX6_root_10 : decode cX6_root 10 = .ok (.if_icmp .gt 9, 3) := by decide +kernel
theorem dX6_root_13 : decode cX6_root 13 = .ok (.iinc 1 1, 3) := by decide +kernel
theorem dX6_root_16 : decode cX6_root 16 = .ok (.goto (-14), 3) := by decide +kernel
theorem dX6_root_19 : decode cX6_root 19 = .ok (.iload_n 1, 1) := by decide +kernel
theorem dX6_root_20 : decode cX6_root 20 = .ok (.ireturn, 1) := by decide +kernel
theorem dX6_rainOf_0 : decode cX6_rainOf 0 = .ok (.lconst 0, 1) := by decide +kernel
theorem dX6_rainOf_1 : decode cX6_rainOf 1 = .ok (.lstore_n 2, 1) := by decide +kernel
theorem dX6_rainOf_2 : decode cX6_rainOf 2 = .ok (.iconst 0, 1) := by decide +kernel
theorem dX6_rainOf_3 : decode cX6_rainOf 3 = .ok (.istore 4, 2) := by decide +kernel
theorem dX6_rainOf_5 : decode cX6_rainOf 5 = .ok (.iload 4, 2) := by decide +kernel
theorem dX6_rainOf_7 : decode cX6_rainOf 7 = .ok (.bipush 8, 2) := by decide +kernel
theorem dX6_rainOf_9 : decode cX6_rainOf 9 = .ok (.if_icmp .ge 83, 3) := by decide +kernel
theorem dX6_rainOf_12 : decode cX6_rainOf 12 = .ok (.iload_n 1, 1) := by decide +kernel
theorem dX6_rainOf_13 : decode cX6_rainOf 13 = .ok (.ifCond .ne 12, 3) := by decide +kernel
theorem dX6_rainOf_16 : decode cX6_rainOf 16 = .ok (.aload_n 0, 1) := by decide +kernel
theorem dX6_rainOf_17 : decode cX6_rainOf 17 = .ok (.iload 4, 2) := by decide +kernel
theorem dX6_rainOf_19 : decode cX6_rainOf 19 = .ok (.invokestatic 146, 3) := by decide +kernel
theorem dX6_rainOf_22 : decode cX6_rainOf 22 = .ok (.goto 32, 3) := by decide +kernel
theorem dX6_rainOf_25 : decode cX6_rainOf 25 = .ok (.iload_n 1, 1) := by decide +kernel
theorem dX6_rainOf_26 : decode cX6_rainOf 26 = .ok (.iconst 1, 1) := by decide +kernel
theorem dX6_rainOf_27 : decode cX6_rainOf 27 = .ok (.if_icmp .ne 21, 3) := by decide +kernel
theorem dX6_rainOf_30 : decode cX6_rainOf 30 = .ok (.aload_n 0, 1) := by decide +kernel
theorem dX6_rainOf_31 : decode cX6_rainOf 31 = .ok (.iload 4, 2) := by decide +kernel
theorem dX6_rainOf_33 : decode cX6_rainOf 33 = .ok (.invokestatic 146, 3) := by decide +kernel
theorem dX6_rainOf_36 : decode cX6_rainOf 36 = .ok (.aload_n 0, 1) := by decide +kernel
theorem dX6_rainOf_37 : decode cX6_rainOf 37 = .ok (.iload 4, 2) := by decide +kernel
theorem dX6_rainOf_39 : decode cX6_rainOf 39 = .ok (.invokestatic 149, 3) := by decide +kernel
theorem dX6_rainOf_42 : decode cX6_rainOf 42 = .ok (.iadd, 1) := by decide +kernel
theorem dX6_rainOf_43 : decode cX6_rainOf 43 = .ok (.iconst 2, 1) := by decide +kernel
theorem dX6_rainOf_44 : decode cX6_rainOf 44 = .ok (.idiv, 1) := by decide +kernel
theorem dX6_rainOf_45 : decode cX6_rainOf 45 = .ok (.goto 9, 3) := by decide +kernel
theorem dX6_rainOf_48 : decode cX6_rainOf 48 = .ok (.aload_n 0, 1) := by decide +kernel
theorem dX6_rainOf_49 : decode cX6_rainOf 49 = .ok (.iload 4, 2) := by decide +kernel
theorem dX6_rainOf_51 : decode cX6_rainOf 51 = .ok (.invokestatic 149, 3) := by decide +kernel
theorem dX6_rainOf_54 : decode cX6_rainOf 54 = .ok (.istore 5, 2) := by decide +kernel
theorem dX6_rainOf_56 : decode cX6_rainOf 56 = .ok (.iload 5, 2) := by decide +kernel
theorem dX6_rainOf_58 : decode cX6_rainOf 58 = .ok (.invokestatic 164, 3) := by decide +kernel
theorem dX6_rainOf_61 : decode cX6_rainOf 61 = .ok (.i2l, 1) := by decide +kernel
theorem dX6_rainOf_62 : decode cX6_rainOf 62 = .ok (.lstore 6, 2) := by decide +kernel
theorem dX6_rainOf_64 : decode cX6_rainOf 64 = .ok (.lload_n 2, 1) := by decide +kernel
theorem dX6_rainOf_65 : decode cX6_rainOf 65 = .ok (.aload_n 0, 1) := by decide +kernel
theorem dX6_rainOf_66 : decode cX6_rainOf 66 = .ok (.bipush 23, 2) := by decide +kernel
theorem dX6_rainOf_68 : decode cX6_rainOf 68 = .ok (.iconst 3, 1) := by decide +kernel
theorem dX6_rainOf_69 : decode cX6_rainOf 69 = .ok (.iload 4, 2) := by decide +kernel
theorem dX6_rainOf_71 : decode cX6_rainOf 71 = .ok (.imul, 1) := by decide +kernel
theorem dX6_rainOf_72 : decode cX6_rainOf 72 = .ok (.iadd, 1) := by decide +kernel
theorem dX6_rainOf_73 : decode cX6_rainOf 73 = .ok (.iaload, 1) := by decide +kernel
theorem dX6_rainOf_74 : decode cX6_rainOf 74 = .ok (.i2l, 1) := by decide +kernel
theorem dX6_rainOf_75 : decode cX6_rainOf 75 = .ok (.lload 6, 2) := by decide +kernel
theorem dX6_rainOf_77 : decode cX6_rainOf 77 = .ok (.lmul, 1) := by decide +kernel
theorem dX6_rainOf_78 : decode cX6_rainOf 78 = .ok (.lload 6, 2) := by decide +kernel
theorem dX6_rainOf_80 : decode cX6_rainOf 80 = .ok (.lmul, 1) := by decide +kernel
theorem dX6_rainOf_81 : decode cX6_rainOf 81 = .ok (.lload 6, 2) := by decide +kernel
theorem dX6_rainOf_83 : decode cX6_rainOf 83 = .ok (.lmul, 1) := by decide +kernel
theorem dX6_rainOf_84 : decode cX6_rainOf 84 = .ok (.ladd, 1) := by decide +kernel
theorem dX6_rainOf_85 : decode cX6_rainOf 85 = .ok (.lstore_n 2, 1) := by decide +kernel
theorem dX6_rainOf_86 : decode cX6_rainOf 86 = .ok (.iinc 4 1, 3) := by decide +kernel
theorem dX6_rainOf_89 : decode cX6_rainOf 89 = .ok (.goto (-84), 3) := by decide +kernel
theorem dX6_rainOf_92 : decode cX6_rainOf 92 = .ok (.lload_n 2, 1) := by decide +kernel
theorem dX6_rainOf_93 : decode cX6_rainOf 93 = .ok (.lreturn, 1) := by decide +kernel
theorem dX6_rain_0 : decode cX6_rain 0 = .ok (.aload_n 0, 1) := by decide +kernel
theorem dX6_rain_1 : decode cX6_rain 1 = .ok (.iload_n 1, 1) := by decide +kernel
theorem dX6_rain_2 : decode cX6_rain 2 = .ok (.i2l, 1) := by decide +kernel
theorem dX6_rain_3 : decode cX6_rain 3 = .ok (.lconst 0, 1) := by decide +kernel
theorem dX6_rain_4 : decode cX6_rain 4 = .ok (.ldc2_w 167, 3) := by decide +kernel
theorem dX6_rain_7 : decode cX6_rain 7 = .ok (.invokestatic 86, 3) := by decide +kernel
theorem dX6_rain_10 : decode cX6_rain 10 = .ok (.ifCond .eq 7, 3) := by decide +kernel
theorem dX6_rain_13 : decode cX6_rain 13 = .ok (.iconst 0, 1) := by decide +kernel
theorem dX6_rain_14 : decode cX6_rain 14 = .ok (.goto 4, 3) := by decide +kernel
theorem dX6_rain_17 : decode cX6_rain 17 = .ok (.iconst 1, 1) := by decide +kernel
theorem dX6_rain_18 : decode cX6_rain 18 = .ok (.invokevirtual 93, 3) := by decide +kernel
theorem dX6_rain_21 : decode cX6_rain 21 = .ok (.ifCond .eq 7, 3) := by decide +kernel
theorem dX6_rain_24 : decode cX6_rain 24 = .ok (.lconst 0, 1) := by decide +kernel
theorem dX6_rain_25 : decode cX6_rain 25 = .ok (.goto 11, 3) := by decide +kernel
theorem dX6_rain_28 : decode cX6_rain 28 = .ok (.aload_n 0, 1) := by decide +kernel
theorem dX6_rain_29 : decode cX6_rain 29 = .ok (.getfield 16, 3) := by decide +kernel
theorem dX6_rain_32 : decode cX6_rain 32 = .ok (.iload_n 1, 1) := by decide +kernel
theorem dX6_rain_33 : decode cX6_rain 33 = .ok (.invokestatic 169, 3) := by decide +kernel
theorem dX6_rain_36 : decode cX6_rain 36 = .ok (.lreturn, 1) := by decide +kernel
theorem dX6_trueRain_0 : decode cX6_trueRain 0 = .ok (.aload_n 0, 1) := by decide +kernel
theorem dX6_trueRain_1 : decode cX6_trueRain 1 = .ok (.iconst 0, 1) := by decide +kernel
theorem dX6_trueRain_2 : decode cX6_trueRain 2 = .ok (.putfield 36, 3) := by decide +kernel
theorem dX6_trueRain_5 : decode cX6_trueRain 5 = .ok (.aload_n 0, 1) := by decide +kernel
theorem dX6_trueRain_6 : decode cX6_trueRain 6 = .ok (.getfield 16, 3) := by decide +kernel
theorem dX6_trueRain_9 : decode cX6_trueRain 9 = .ok (.sipush 190, 3) := by decide +kernel
theorem dX6_trueRain_12 : decode cX6_trueRain 12 = .ok (.iaload, 1) := by decide +kernel
theorem dX6_trueRain_13 : decode cX6_trueRain 13 = .ok (.i2l, 1) := by decide +kernel
theorem dX6_trueRain_14 : decode cX6_trueRain 14 = .ok (.lreturn, 1) := by decide +kernel
theorem dX6_isDrop_0 : decode cX6_isDrop 0 = .ok (.iload_n 0, 1) := by decide +kernel
theorem dX6_isDrop_1 : decode cX6_isDrop 1 = .ok (.i2l, 1) := by decide +kernel
theorem dX6_isDrop_2 : decode cX6_isDrop 2 = .ok (.lconst 0, 1) := by decide +kernel
theorem dX6_isDrop_3 : decode cX6_isDrop 3 = .ok (.ldc2_w 173, 3) := by decide +kernel
theorem dX6_isDrop_6 : decode cX6_isDrop 6 = .ok (.invokestatic 86, 3) := by decide +kernel
theorem dX6_isDrop_9 : decode cX6_isDrop 9 = .ok (.ifCond .eq 19, 3) := by decide +kernel
theorem dX6_isDrop_12 : decode cX6_isDrop 12 = .ok (.iload_n 1, 1) := by decide +kernel
theorem dX6_isDrop_13 : decode cX6_isDrop 13 = .ok (.i2l, 1) := by decide +kernel
theorem dX6_isDrop_14 : decode cX6_isDrop 14 = .ok (.lconst 1, 1) := by decide +kernel
theorem dX6_isDrop_15 : decode cX6_isDrop 15 = .ok (.ldc2_w 175, 3) := by decide +kernel
theorem dX6_isDrop_18 : decode cX6_isDrop 18 = .ok (.invokestatic 86, 3) := by decide +kernel
theorem dX6_isDrop_21 : decode cX6_isDrop 21 = .ok (.ifCond .eq 7, 3) := by decide +kernel
theorem dX6_isDrop_24 : decode cX6_isDrop 24 = .ok (.iconst 1, 1) := by decide +kernel
theorem dX6_isDrop_25 : decode cX6_isDrop 25 = .ok (.goto 4, 3) := by decide +kernel
theorem dX6_isDrop_28 : decode cX6_isDrop 28 = .ok (.iconst 0, 1) := by decide +kernel
theorem dX6_isDrop_29 : decode cX6_isDrop 29 = .ok (.ireturn, 1) := by decide +kernel
theorem dX6_drop_0 : decode cX6_drop 0 = .ok (.aload_n 0, 1) := by decide +kernel
theorem dX6_drop_1 : decode cX6_drop 1 = .ok (.iload_n 1, 1) := by decide +kernel
theorem dX6_drop_2 : decode cX6_drop 2 = .ok (.iload_n 2, 1) := by decide +kernel
theorem dX6_drop_3 : decode cX6_drop 3 = .ok (.invokestatic 177, 3) := by decide +kernel
theorem dX6_drop_6 : decode cX6_drop 6 = .ok (.ifCond .eq 7, 3) := by decide +kernel
theorem dX6_drop_9 : decode cX6_drop 9 = .ok (.iconst 0, 1) := by decide +kernel
theorem dX6_drop_10 : decode cX6_drop 10 = .ok (.goto 4, 3) := by decide +kernel
theorem dX6_drop_13 : decode cX6_drop 13 = .ok (.iconst 1, 1) := by decide +kernel
theorem dX6_drop_14 : decode cX6_drop 14 = .ok (.invokevirtual 93, 3) := by decide +kernel
theorem dX6_drop_17 : decode cX6_drop 17 = .ok (.ifCond .eq 5, 3) := by decide +kernel
theorem dX6_drop_20 : decode cX6_drop 20 = .ok (.iconst 0, 1) := by decide +kernel
theorem dX6_drop_21 : decode cX6_drop 21 = .ok (.ireturn, 1) := by decide +kernel
theorem dX6_drop_22 : decode cX6_drop 22 = .ok (.aload_n 0, 1) := by decide +kernel
theorem dX6_drop_23 : decode cX6_drop 23 = .ok (.invokevirtual 180, 3) := by decide +kernel
theorem dX6_drop_26 : decode cX6_drop 26 = .ok (.aload_n 0, 1) := by decide +kernel
theorem dX6_drop_27 : decode cX6_drop 27 = .ok (.getfield 16, 3) := by decide +kernel
theorem dX6_drop_30 : decode cX6_drop 30 = .ok (.iload_n 1, 1) := by decide +kernel
theorem dX6_drop_31 : decode cX6_drop 31 = .ok (.iload_n 2, 1) := by decide +kernel
theorem dX6_drop_32 : decode cX6_drop 32 = .ok (.invokestatic 117, 3) := by decide +kernel
theorem dX6_drop_35 : decode cX6_drop 35 = .ok (.ireturn, 1) := by decide +kernel
theorem dX6_pass_0 : decode cX6_pass 0 = .ok (.aload_n 0, 1) := by decide +kernel
theorem dX6_pass_1 : decode cX6_pass 1 = .ok (.iload_n 1, 1) := by decide +kernel
theorem dX6_pass_2 : decode cX6_pass 2 = .ok (.i2l, 1) := by decide +kernel
theorem dX6_pass_3 : decode cX6_pass 3 = .ok (.lconst 1, 1) := by decide +kernel
theorem dX6_pass_4 : decode cX6_pass 4 = .ok (.ldc2_w 173, 3) := by decide +kernel
theorem dX6_pass_7 : decode cX6_pass 7 = .ok (.invokestatic 86, 3) := by decide +kernel
theorem dX6_pass_10 : decode cX6_pass 10 = .ok (.ifCond .eq 7, 3) := by decide +kernel
theorem dX6_pass_13 : decode cX6_pass 13 = .ok (.iconst 0, 1) := by decide +kernel
theorem dX6_pass_14 : decode cX6_pass 14 = .ok (.goto 4, 3) := by decide +kernel
theorem dX6_pass_17 : decode cX6_pass 17 = .ok (.iconst 1, 1) := by decide +kernel
theorem dX6_pass_18 : decode cX6_pass 18 = .ok (.invokevirtual 93, 3) := by decide +kernel
theorem dX6_pass_21 : decode cX6_pass 21 = .ok (.ifCond .eq 5, 3) := by decide +kernel
theorem dX6_pass_24 : decode cX6_pass 24 = .ok (.iconst 0, 1) := by decide +kernel
theorem dX6_pass_25 : decode cX6_pass 25 = .ok (.ireturn, 1) := by decide +kernel
theorem dX6_pass_26 : decode cX6_pass 26 = .ok (.aload_n 0, 1) := by decide +kernel
theorem dX6_pass_27 : decode cX6_pass 27 = .ok (.invokevirtual 180, 3) := by decide +kernel
theorem dX6_pass_30 : decode cX6_pass 30 = .ok (.aload_n 0, 1) := by decide +kernel
theorem dX6_pass_31 : decode cX6_pass 31 = .ok (.getfield 16, 3) := by decide +kernel
theorem dX6_pass_34 : decode cX6_pass 34 = .ok (.iload_n 1, 1) := by decide +kernel
theorem dX6_pass_35 : decode cX6_pass 35 = .ok (.invokestatic 72, 3) := by decide +kernel
theorem dX6_pass_38 : decode cX6_pass 38 = .ok (.aload_n 0, 1) := by decide +kernel
theorem dX6_pass_39 : decode cX6_pass 39 = .ok (.getfield 16, 3) := by decide +kernel
theorem dX6_pass_42 : decode cX6_pass 42 = .ok (.invokestatic 68, 3) := by decide +kernel
theorem dX6_pass_45 : decode cX6_pass 45 = .ok (.ireturn, 1) := by decide +kernel
theorem dX6_isSetting_0 : decode cX6_isSetting 0 = .ok (.iload_n 0, 1) := by decide +kernel
theorem dX6_isSetting_1 : decode cX6_isSetting 1 = .ok (.i2l, 1) := by decide +kernel
theorem dX6_isSetting_2 : decode cX6_isSetting 2 = .ok (.lconst 0, 1) := by decide +kernel
theorem dX6_isSetting_3 : decode cX6_isSetting 3 = .ok (.ldc2_w 139, 3) := by decide +kernel
theorem dX6_isSetting_6 : decode cX6_isSetting 6 = .ok (.invokestatic 86, 3) := by decide +kernel
theorem dX6_isSetting_9 : decode cX6_isSetting 9 = .ok (.ifCond .eq 25, 3) := by decide +kernel
theorem dX6_isSetting_12 : decode cX6_isSetting 12 = .ok (.iload_n 1, 1) := by decide +kernel
theorem dX6_isSetting_13 : decode cX6_isSetting 13 = .ok (.i2l, 1) := by decide +kernel
theorem dX6_isSetting_14 : decode cX6_isSetting 14 = .ok (.iload_n 0, 1) := by decide +kernel
theorem dX6_isSetting_15 : decode cX6_isSetting 15 = .ok (.invokestatic 183, 3) := by decide +kernel
theorem dX6_isSetting_18 : decode cX6_isSetting 18 = .ok (.i2l, 1) := by decide +kernel
theorem dX6_isSetting_19 : decode cX6_isSetting 19 = .ok (.iload_n 0, 1) := by decide +kernel
theorem dX6_isSetting_20 : decode cX6_isSetting 20 = .ok (.invokestatic 186, 3) := by decide +kernel
theorem dX6_isSetting_23 : decode cX6_isSetting 23 = .ok (.i2l, 1) := by decide +kernel
theorem dX6_isSetting_24 : decode cX6_isSetting 24 = .ok (.invokestatic 86, 3) := by decide +kernel
theorem dX6_isSetting_27 : decode cX6_isSetting 27 = .ok (.ifCond .eq 7, 3) := by decide +kernel
theorem dX6_isSetting_30 : decode cX6_isSetting 30 = .ok (.iconst 1, 1) := by decide +kernel
theorem dX6_isSetting_31 : decode cX6_isSetting 31 = .ok (.goto 4, 3) := by decide +kernel
theorem dX6_isSetting_34 : decode cX6_isSetting 34 = .ok (.iconst 0, 1) := by decide +kernel
theorem dX6_isSetting_35 : decode cX6_isSetting 35 = .ok (.ireturn, 1) := by decide +kernel
theorem dX6_set_0 : decode cX6_set 0 = .ok (.aload_n 0, 1) := by decide +kernel
theorem dX6_set_1 : decode cX6_set 1 = .ok (.iload_n 1, 1) := by decide +kernel
theorem dX6_set_2 : decode cX6_set 2 = .ok (.iload_n 2, 1) := by decide +kernel
theorem dX6_set_3 : decode cX6_set 3 = .ok (.invokestatic 189, 3) := by decide +kernel
theorem dX6_set_6 : decode cX6_set 6 = .ok (.ifCond .eq 7, 3) := by decide +kernel
theorem dX6_set_9 : decode cX6_set 9 = .ok (.iconst 0, 1) := by decide +kernel
theorem dX6_set_10 : decode cX6_set 10 = .ok (.goto 4, 3) := by decide +kernel
theorem dX6_set_13 : decode cX6_set 13 = .ok (.iconst 1, 1) := by decide +kernel
theorem dX6_set_14 : decode cX6_set 14 = .ok (.invokevirtual 93, 3) := by decide +kernel
theorem dX6_set_17 : decode cX6_set 17 = .ok (.ifCond .eq 5, 3) := by decide +kernel
theorem dX6_set_20 : decode cX6_set 20 = .ok (.iconst 0, 1) := by decide +kernel
theorem dX6_set_21 : decode cX6_set 21 = .ok (.ireturn, 1) := by decide +kernel
theorem dX6_set_22 : decode cX6_set 22 = .ok (.aload_n 0, 1) := by decide +kernel
theorem dX6_set_23 : decode cX6_set 23 = .ok (.invokevirtual 180, 3) := by decide +kernel
theorem dX6_set_26 : decode cX6_set 26 = .ok (.aload_n 0, 1) := by decide +kernel
theorem dX6_set_27 : decode cX6_set 27 = .ok (.getfield 16, 3) := by decide +kernel
theorem dX6_set_30 : decode cX6_set 30 = .ok (.iconst 1, 1) := by decide +kernel
theorem dX6_set_31 : decode cX6_set 31 = .ok (.iload_n 1, 1) := by decide +kernel
theorem dX6_set_32 : decode cX6_set 32 = .ok (.iadd, 1) := by decide +kernel
theorem dX6_set_33 : decode cX6_set 33 = .ok (.iaload, 1) := by decide +kernel
theorem dX6_set_34 : decode cX6_set 34 = .ok (.istore_n 3, 1) := by decide +kernel
theorem dX6_set_35 : decode cX6_set 35 = .ok (.aload_n 0, 1) := by decide +kernel
theorem dX6_set_36 : decode cX6_set 36 = .ok (.getfield 16, 3) := by decide +kernel
theorem dX6_set_39 : decode cX6_set 39 = .ok (.iconst 1, 1) := by decide +kernel
theorem dX6_set_40 : decode cX6_set 40 = .ok (.iload_n 1, 1) := by decide +kernel
theorem dX6_set_41 : decode cX6_set 41 = .ok (.iadd, 1) := by decide +kernel
theorem dX6_set_42 : decode cX6_set 42 = .ok (.iload_n 2, 1) := by decide +kernel
theorem dX6_set_43 : decode cX6_set 43 = .ok (.iastore, 1) := by decide +kernel
theorem dX6_set_44 : decode cX6_set 44 = .ok (.iload_n 3, 1) := by decide +kernel
theorem dX6_set_45 : decode cX6_set 45 = .ok (.ireturn, 1) := by decide +kernel
theorem dX6_setBorder_0 : decode cX6_setBorder 0 = .ok (.iload_n 1, 1) := by decide +kernel
theorem dX6_setBorder_1 : decode cX6_setBorder 1 = .ok (.i2l, 1) := by decide +kernel
theorem dX6_setBorder_2 : decode cX6_setBorder 2 = .ok (.lconst 1, 1) := by decide +kernel
theorem dX6_setBorder_3 : decode cX6_setBorder 3 = .ok (.ldc2_w 141, 3) := by decide +kernel
theorem dX6_setBorder_6 : decode cX6_setBorder 6 = .ok (.invokestatic 86, 3) := by decide +kernel
theorem dX6_setBorder_9 : decode cX6_setBorder 9 = .ok (.istore_n 3, 1) := by decide +kernel
theorem dX6_setBorder_10 : decode cX6_setBorder 10 = .ok (.iload_n 2, 1) := by decide +kernel
theorem dX6_setBorder_11 : decode cX6_setBorder 11 = .ok (.i2l, 1) := by decide +kernel
theorem dX6_setBorder_12 : decode cX6_setBorder 12 = .ok (.lconst 1, 1) := by decide +kernel
theorem dX6_setBorder_13 : decode cX6_setBorder 13 = .ok (.ldc2_w 192, 3) := by decide +kernel
theorem dX6_setBorder_16 : decode cX6_setBorder 16 = .ok (.invokestatic 86, 3) := by decide +kernel
theorem dX6_setBorder_19 : decode cX6_setBorder 19 = .ok (.istore 4, 2) := by decide +kernel
theorem dX6_setBorder_21 : decode cX6_setBorder 21 = .ok (.iload_n 3, 1) := by decide +kernel
theorem dX6_setBorder_22 : decode cX6_setBorder 22 = .ok (.ifCond .eq 46, 3) := by decide +kernel
theorem dX6_setBorder_25 : decode cX6_setBorder 25 = .ok (.iload_n 1, 1) := by decide +kernel
theorem dX6_setBorder_26 : decode cX6_setBorder 26 = .ok (.iconst 1, 1) := by decide +kernel
theorem dX6_setBorder_27 : decode cX6_setBorder 27 = .ok (.if_icmp .eq 18, 3) := by decide +kernel
theorem dX6_setBorder_30 : decode cX6_setBorder 30 = .ok (.iload_n 2, 1) := by decide +kernel
theorem dX6_setBorder_31 : decode cX6_setBorder 31 = .ok (.aload_n 0, 1) := by decide +kernel
theorem dX6_setBorder_32 : decode cX6_setBorder 32 = .ok (.getfield 16, 3) := by decide +kernel
theorem dX6_setBorder_35 : decode cX6_setBorder 35 = .ok (.bipush 16, 2) := by decide +kernel
theorem dX6_setBorder_37 : decode cX6_setBorder 37 = .ok (.iload_n 1, 1) := by decide +kernel
theorem dX6_setBorder_38 : decode cX6_setBorder 38 = .ok (.iadd, 1) := by decide +kernel
theorem dX6_setBorder_39 : decode cX6_setBorder 39 = .ok (.iconst 2, 1) := by decide +kernel
theorem dX6_setBorder_40 : decode cX6_setBorder 40 = .ok (.isub, 1) := by decide +kernel
theorem dX6_setBorder_41 : decode cX6_setBorder 41 = .ok (.iaload, 1) := by decide +kernel
theorem dX6_setBorder_42 : decode cX6_setBorder 42 = .ok (.if_icmp .le 26, 3) := by decide +kernel
theorem dX6_setBorder_45 : decode cX6_setBorder 45 = .ok (.iload_n 1, 1) := by decide +kernel
theorem dX6_setBorder_46 : decode cX6_setBorder 46 = .ok (.bipush 7, 2) := by decide +kernel
theorem dX6_setBorder_48 : decode cX6_setBorder 48 = .ok (.if_icmp .eq 16, 3) := by decide +kernel
theorem dX6_setBorder_51 : decode cX6_setBorder 51 = .ok (.iload_n 2, 1) := by decide +kernel
theorem dX6_setBorder_52 : decode cX6_setBorder 52 = .ok (.aload_n 0, 1) := by decide +kernel
theorem dX6_setBorder_53 : decode cX6_setBorder 53 = .ok (.getfield 16, 3) := by decide +kernel
theorem dX6_setBorder_56 : decode cX6_setBorder 56 = .ok (.bipush 16, 2) := by decide +kernel
theorem dX6_setBorder_58 : decode cX6_setBorder 58 = .ok (.iload_n 1, 1) := by decide +kernel
theorem dX6_setBorder_59 : decode cX6_setBorder 59 = .ok (.iadd, 1) := by decide +kernel
theorem dX6_setBorder_60 : decode cX6_setBorder 60 = .ok (.iaload, 1) := by decide +kernel
theorem dX6_setBorder_61 : decode cX6_setBorder 61 = .ok (.if_icmp .ge 7, 3) := by decide +kernel
theorem dX6_setBorder_64 : decode cX6_setBorder 64 = .ok (.iconst 1, 1) := by decide +kernel
theorem dX6_setBorder_65 : decode cX6_setBorder 65 = .ok (.goto 4, 3) := by decide +kernel
theorem dX6_setBorder_68 : decode cX6_setBorder 68 = .ok (.iconst 0, 1) := by decide +kernel
theorem dX6_setBorder_69 : decode cX6_setBorder 69 = .ok (.istore 5, 2) := by decide +kernel
theorem dX6_setBorder_71 : decode cX6_setBorder 71 = .ok (.aload_n 0, 1) := by decide +kernel
theorem dX6_setBorder_72 : decode cX6_setBorder 72 = .ok (.iload_n 3, 1) := by decide +kernel
theorem dX6_setBorder_73 : decode cX6_setBorder 73 = .ok (.ifCond .ne 7, 3) := by decide +kernel
theorem dX6_setBorder_76 : decode cX6_setBorder 76 = .ok (.iconst 1, 1) := by decide +kernel
theorem dX6_setBorder_77 : decode cX6_setBorder 77 = .ok (.goto 22, 3) := by decide +kernel
theorem dX6_setBorder_80 : decode cX6_setBorder 80 = .ok (.iload 4, 2) := by decide +kernel
theorem dX6_setBorder_82 : decode cX6_setBorder 82 = .ok (.ifCond .ne 7, 3) := by decide +kernel
theorem dX6_setBorder_85 : decode cX6_setBorder 85 = .ok (.iconst 2, 1) := by decide +kernel
theorem dX6_setBorder_86 : decode cX6_setBorder 86 = .ok (.goto 13, 3) := by decide +kernel
theorem dX6_setBorder_89 : decode cX6_setBorder 89 = .ok (.iload 5, 2) := by decide +kernel
theorem dX6_setBorder_91 : decode cX6_setBorder 91 = .ok (.ifCond .eq 7, 3) := by decide +kernel
theorem dX6_setBorder_94 : decode cX6_setBorder 94 = .ok (.iconst 0, 1) := by decide +kernel
theorem dX6_setBorder_95 : decode cX6_setBorder 95 = .ok (.goto 4, 3) := by decide +kernel
theorem dX6_setBorder_98 : decode cX6_setBorder 98 = .ok (.iconst 3, 1) := by decide +kernel
theorem dX6_setBorder_99 : decode cX6_setBorder 99 = .ok (.invokevirtual 93, 3) := by decide +kernel
theorem dX6_setBorder_102 : decode cX6_setBorder 102 = .ok (.ifCond .eq 5, 3) := by decide +kernel
theorem dX6_setBorder_105 : decode cX6_setBorder 105 = .ok (.iconst 0, 1) := by decide +kernel
theorem dX6_setBorder_106 : decode cX6_setBorder 106 = .ok (.ireturn, 1) := by decide +kernel
theorem dX6_setBorder_107 : decode cX6_setBorder 107 = .ok (.aload_n 0, 1) := by decide +kernel
theorem dX6_setBorder_108 : decode cX6_setBorder 108 = .ok (.invokevirtual 180, 3) := by decide +kernel
theorem dX6_setBorder_111 : decode cX6_setBorder 111 = .ok (.aload_n 0, 1) := by decide +kernel
theorem dX6_setBorder_112 : decode cX6_setBorder 112 = .ok (.getfield 16, 3) := by decide +kernel
theorem dX6_setBorder_115 : decode cX6_setBorder 115 = .ok (.bipush 16, 2) := by decide +kernel
theorem dX6_setBorder_117 : decode cX6_setBorder 117 = .ok (.iload_n 1, 1) := by decide +kernel
theorem dX6_setBorder_118 : decode cX6_setBorder 118 = .ok (.iadd, 1) := by decide +kernel
theorem dX6_setBorder_119 : decode cX6_setBorder 119 = .ok (.iconst 1, 1) := by decide +kernel
theorem dX6_setBorder_120 : decode cX6_setBorder 120 = .ok (.isub, 1) := by decide +kernel
theorem dX6_setBorder_121 : decode cX6_setBorder 121 = .ok (.iaload, 1) := by decide +kernel
theorem dX6_setBorder_122 : decode cX6_setBorder 122 = .ok (.istore 6, 2) := by decide +kernel
theorem dX6_setBorder_124 : decode cX6_setBorder 124 = .ok (.aload_n 0, 1) := by decide +kernel
theorem dX6_setBorder_125 : decode cX6_setBorder 125 = .ok (.getfield 16, 3) := by decide +kernel
theorem dX6_setBorder_128 : decode cX6_setBorder 128 = .ok (.bipush 16, 2) := by decide +kernel
theorem dX6_setBorder_130 : decode cX6_setBorder 130 = .ok (.iload_n 1, 1) := by decide +kernel
theorem dX6_setBorder_131 : decode cX6_setBorder 131 = .ok (.iadd, 1) := by decide +kernel
theorem dX6_setBorder_132 : decode cX6_setBorder 132 = .ok (.iconst 1, 1) := by decide +kernel
theorem dX6_setBorder_133 : decode cX6_setBorder 133 = .ok (.isub, 1) := by decide +kernel
theorem dX6_setBorder_134 : decode cX6_setBorder 134 = .ok (.iload_n 2, 1) := by decide +kernel
theorem dX6_setBorder_135 : decode cX6_setBorder 135 = .ok (.iastore, 1) := by decide +kernel
theorem dX6_setBorder_136 : decode cX6_setBorder 136 = .ok (.iload 6, 2) := by decide +kernel
theorem dX6_setBorder_138 : decode cX6_setBorder 138 = .ok (.ireturn, 1) := by decide +kernel
theorem dX6_empty_0 : decode cX6_empty 0 = .ok (.aload_n 0, 1) := by decide +kernel
theorem dX6_empty_1 : decode cX6_empty 1 = .ok (.iconst 0, 1) := by decide +kernel
theorem dX6_empty_2 : decode cX6_empty 2 = .ok (.putfield 36, 3) := by decide +kernel
theorem dX6_empty_5 : decode cX6_empty 5 = .ok (.aload_n 0, 1) := by decide +kernel
theorem dX6_empty_6 : decode cX6_empty 6 = .ok (.invokevirtual 180, 3) := by decide +kernel
theorem dX6_empty_9 : decode cX6_empty 9 = .ok (.aload_n 0, 1) := by decide +kernel
theorem dX6_empty_10 : decode cX6_empty 10 = .ok (.getfield 16, 3) := by decide +kernel
theorem dX6_empty_13 : decode cX6_empty 13 = .ok (.iconst 0, 1) := by decide +kernel
theorem dX6_empty_14 : decode cX6_empty 14 = .ok (.invokestatic 136, 3) := by decide +kernel
theorem dX6_empty_17 : decode cX6_empty 17 = .ok (.istore_n 1, 1) := by decide +kernel
theorem dX6_empty_18 : decode cX6_empty 18 = .ok (.iconst 0, 1) := by decide +kernel
theorem dX6_empty_19 : decode cX6_empty 19 = .ok (.istore_n 2, 1) := by decide +kernel
theorem dX6_empty_20 : decode cX6_empty 20 = .ok (.iload_n 2, 1) := by decide +kernel
theorem dX6_empty_21 : decode cX6_empty 21 = .ok (.bipush 24, 2) := by decide +kernel
theorem dX6_empty_23 : decode cX6_empty 23 = .ok (.if_icmp .ge 19, 3) := by decide +kernel
theorem dX6_empty_26 : decode cX6_empty 26 = .ok (.aload_n 0, 1) := by decide +kernel
theorem dX6_empty_27 : decode cX6_empty 27 = .ok (.getfield 16, 3) := by decide +kernel
theorem dX6_empty_30 : decode cX6_empty 30 = .ok (.bipush 23, 2) := by decide +kernel
theorem dX6_empty_32 : decode cX6_empty 32 = .ok (.iload_n 2, 1) := by decide +kernel
theorem dX6_empty_33 : decode cX6_empty 33 = .ok (.iadd, 1) := by decide +kernel
theorem dX6_empty_34 : decode cX6_empty 34 = .ok (.iconst 0, 1) := by decide +kernel
theorem dX6_empty_35 : decode cX6_empty 35 = .ok (.iastore, 1) := by decide +kernel
theorem dX6_empty_36 : decode cX6_empty 36 = .ok (.iinc 2 1, 3) := by decide +kernel
theorem dX6_empty_39 : decode cX6_empty 39 = .ok (.goto (-19), 3) := by decide +kernel
theorem dX6_empty_42 : decode cX6_empty 42 = .ok (.iload_n 1, 1) := by decide +kernel
theorem dX6_empty_43 : decode cX6_empty 43 = .ok (.ireturn, 1) := by decide +kernel
theorem dX6_undo_0 : decode cX6_undo 0 = .ok (.aload_n 0, 1) := by decide +kernel
theorem dX6_undo_1 : decode cX6_undo 1 = .ok (.aload_n 0, 1) := by decide +kernel
theorem dX6_undo_2 : decode cX6_undo 2 = .ok (.getfield 46, 3) := by decide +kernel
theorem dX6_undo_5 : decode cX6_undo 5 = .ok (.ifCond .ne 7, 3) := by decide +kernel
theorem dX6_undo_8 : decode cX6_undo 8 = .ok (.iconst 1, 1) := by decide +kernel
theorem dX6_undo_9 : decode cX6_undo 9 = .ok (.goto 4, 3) := by decide +kernel
theorem dX6_undo_12 : decode cX6_undo 12 = .ok (.iconst 0, 1) := by decide +kernel
theorem dX6_undo_13 : decode cX6_undo 13 = .ok (.invokevirtual 93, 3) := by decide +kernel
theorem dX6_undo_16 : decode cX6_undo 16 = .ok (.ifCond .eq 5, 3) := by decide +kernel
theorem dX6_undo_19 : decode cX6_undo 19 = .ok (.iconst 0, 1) := by decide +kernel
theorem dX6_undo_20 : decode cX6_undo 20 = .ok (.ireturn, 1) := by decide +kernel
theorem dX6_undo_21 : decode cX6_undo 21 = .ok (.aload_n 0, 1) := by decide +kernel
theorem dX6_undo_22 : decode cX6_undo 22 = .ok (.dup, 1) := by decide +kernel
theorem dX6_undo_23 : decode cX6_undo 23 = .ok (.getfield 46, 3) := by decide +kernel
theorem dX6_undo_26 : decode cX6_undo 26 = .ok (.iconst 1, 1) := by decide +kernel
theorem dX6_undo_27 : decode cX6_undo 27 = .ok (.isub, 1) := by decide +kernel
theorem dX6_undo_28 : decode cX6_undo 28 = .ok (.putfield 46, 3) := by decide +kernel
theorem dX6_undo_31 : decode cX6_undo 31 = .ok (.aload_n 0, 1) := by decide +kernel
theorem dX6_undo_32 : decode cX6_undo 32 = .ok (.getfield 22, 3) := by decide +kernel
theorem dX6_undo_35 : decode cX6_undo 35 = .ok (.sipush 191, 3) := by decide +kernel
theorem dX6_undo_38 : decode cX6_undo 38 = .ok (.aload_n 0, 1) := by decide +kernel
theorem dX6_undo_39 : decode cX6_undo 39 = .ok (.getfield 46, 3) := by decide +kernel
theorem dX6_undo_42 : decode cX6_undo 42 = .ok (.imul, 1) := by decide +kernel
theorem dX6_undo_43 : decode cX6_undo 43 = .ok (.aload_n 0, 1) := by decide +kernel
theorem dX6_undo_44 : decode cX6_undo 44 = .ok (.getfield 16, 3) := by decide +kernel
theorem dX6_undo_47 : decode cX6_undo 47 = .ok (.iconst 0, 1) := by decide +kernel
theorem dX6_undo_48 : decode cX6_undo 48 = .ok (.sipush 191, 3) := by decide +kernel
theorem dX6_undo_51 : decode cX6_undo 51 = .ok (.invokestatic 49, 3) := by decide +kernel
theorem dX6_undo_54 : decode cX6_undo 54 = .ok (.aload_n 0, 1) := by decide +kernel
theorem dX6_undo_55 : decode cX6_undo 55 = .ok (.getfield 46, 3) := by decide +kernel
theorem dX6_undo_58 : decode cX6_undo 58 = .ok (.ireturn, 1) := by decide +kernel
theorem dX6_fateOf_0 : decode cX6_fateOf 0 = .ok (.aload_n 0, 1) := by decide +kernel
theorem dX6_fateOf_1 : decode cX6_fateOf 1 = .ok (.invokevirtual 194, 3) := by decide +kernel
theorem dX6_fateOf_4 : decode cX6_fateOf 4 = .ok (.aload_n 0, 1) := by decide +kernel
theorem dX6_fateOf_5 : decode cX6_fateOf 5 = .ok (.getfield 19, 3) := by decide +kernel
theorem dX6_fateOf_8 : decode cX6_fateOf 8 = .ok (.iload_n 1, 1) := by decide +kernel
theorem dX6_fateOf_9 : decode cX6_fateOf 9 = .ok (.iload_n 2, 1) := by decide +kernel
theorem dX6_fateOf_10 : decode cX6_fateOf 10 = .ok (.invokestatic 117, 3) := by decide +kernel
theorem dX6_fateOf_13 : decode cX6_fateOf 13 = .ok (.ireturn, 1) := by decide +kernel
theorem dX6_wouldBe_0 : decode cX6_wouldBe 0 = .ok (.aload_n 0, 1) := by decide +kernel
theorem dX6_wouldBe_1 : decode cX6_wouldBe 1 = .ok (.iload_n 1, 1) := by decide +kernel
theorem dX6_wouldBe_2 : decode cX6_wouldBe 2 = .ok (.iload_n 2, 1) := by decide +kernel
theorem dX6_wouldBe_3 : decode cX6_wouldBe 3 = .ok (.invokestatic 177, 3) := by decide +kernel
theorem dX6_wouldBe_6 : decode cX6_wouldBe 6 = .ok (.ifCond .eq 7, 3) := by decide +kernel
theorem dX6_wouldBe_9 : decode cX6_wouldBe 9 = .ok (.iconst 0, 1) := by decide +kernel
theorem dX6_wouldBe_10 : decode cX6_wouldBe 10 = .ok (.goto 4, 3) := by decide +kernel
theorem dX6_wouldBe_13 : decode cX6_wouldBe 13 = .ok (.iconst 1, 1) := by decide +kernel
theorem dX6_wouldBe_14 : decode cX6_wouldBe 14 = .ok (.invokevirtual 93, 3) := by decide +kernel
theorem dX6_wouldBe_17 : decode cX6_wouldBe 17 = .ok (.ifCond .eq 7, 3) := by decide +kernel
theorem dX6_wouldBe_20 : decode cX6_wouldBe 20 = .ok (.iconst 0, 1) := by decide +kernel
theorem dX6_wouldBe_21 : decode cX6_wouldBe 21 = .ok (.goto 9, 3) := by decide +kernel
theorem dX6_wouldBe_24 : decode cX6_wouldBe 24 = .ok (.aload_n 0, 1) := by decide +kernel
theorem dX6_wouldBe_25 : decode cX6_wouldBe 25 = .ok (.iload_n 1, 1) := by decide +kernel
theorem dX6_wouldBe_26 : decode cX6_wouldBe 26 = .ok (.iload_n 2, 1) := by decide +kernel
theorem dX6_wouldBe_27 : decode cX6_wouldBe 27 = .ok (.invokevirtual 197, 3) := by decide +kernel
theorem dX6_wouldBe_30 : decode cX6_wouldBe 30 = .ok (.ireturn, 1) := by decide +kernel
theorem dX6_leastSize_0 : decode cX6_leastSize 0 = .ok (.aload_n 0, 1) := by decide +kernel
theorem dX6_leastSize_1 : decode cX6_leastSize 1 = .ok (.iload_n 1, 1) := by decide +kernel
theorem dX6_leastSize_2 : decode cX6_leastSize 2 = .ok (.i2l, 1) := by decide +kernel
theorem dX6_leastSize_3 : decode cX6_leastSize 3 = .ok (.lconst 0, 1) := by decide +kernel
theorem dX6_leastSize_4 : decode cX6_leastSize 4 = .ok (.ldc2_w 173, 3) := by decide +kernel
theorem dX6_leastSize_7 : decode cX6_leastSize 7 = .ok (.invokestatic 86, 3) := by decide +kernel
theorem dX6_leastSize_10 : decode cX6_leastSize 10 = .ok (.ifCond .eq 7, 3) := by decide +kernel
theorem dX6_leastSize_13 : decode cX6_leastSize 13 = .ok (.iconst 0, 1) := by decide +kernel
theorem dX6_leastSize_14 : decode cX6_leastSize 14 = .ok (.goto 4, 3) := by decide +kernel
theorem dX6_leastSize_17 : decode cX6_leastSize 17 = .ok (.iconst 1, 1) := by decide +kernel
theorem dX6_leastSize_18 : decode cX6_leastSize 18 = .ok (.invokevirtual 93, 3) := by decide +kernel
theorem dX6_leastSize_21 : decode cX6_leastSize 21 = .ok (.ifCond .eq 5, 3) := by decide +kernel
theorem dX6_leastSize_24 : decode cX6_leastSize 24 = .ok (.iconst 0, 1) := by decide +kernel
theorem dX6_leastSize_25 : decode cX6_leastSize 25 = .ok (.ireturn, 1) := by decide +kernel
theorem dX6_leastSize_26 : decode cX6_leastSize 26 = .ok (.iconst 1, 1) := by decide +kernel
theorem dX6_leastSize_27 : decode cX6_leastSize 27 = .ok (.istore_n 2, 1) := by decide +kernel
theorem dX6_leastSize_28 : decode cX6_leastSize 28 = .ok (.iload_n 2, 1) := by decide +kernel
theorem dX6_leastSize_29 : decode cX6_leastSize 29 = .ok (.bipush 60, 2) := by decide +kernel
theorem dX6_leastSize_31 : decode cX6_leastSize 31 = .ok (.if_icmp .gt 20, 3) := by decide +kernel
theorem dX6_leastSize_34 : decode cX6_leastSize 34 = .ok (.aload_n 0, 1) := by decide +kernel
theorem dX6_leastSize_35 : decode cX6_leastSize 35 = .ok (.iload_n 1, 1) := by decide +kernel
theorem dX6_leastSize_36 : decode cX6_leastSize 36 = .ok (.iload_n 2, 1) := by decide +kernel
theorem dX6_leastSize_37 : decode cX6_leastSize 37 = .ok (.invokevirtual 197, 3) := by decide +kernel
theorem dX6_leastSize_40 : decode cX6_leastSize 40 = .ok (.ifCond .ne 5, 3) := by decide +kernel
theorem dX6_leastSize_43 : decode cX6_leastSize 43 = .ok (.iload_n 2, 1) := by decide +kernel
theorem dX6_leastSize_44 : decode cX6_leastSize 44 = .ok (.ireturn, 1) := by decide +kernel
theorem dX6_leastSize_45 : decode cX6_leastSize 45 = .ok (.iinc 2 1, 3) := by decide +kernel
theorem dX6_leastSize_48 : decode cX6_leastSize 48 = .ok (.goto (-20), 3) := by decide +kernel
theorem dX6_leastSize_51 : decode cX6_leastSize 51 = .ok (.bipush (-9), 2) := by decide +kernel
theorem dX6_leastSize_53 : decode cX6_leastSize 53 = .ok (.ireturn, 1) := by decide +kernel
theorem dX6_quietIn_0 : decode cX6_quietIn 0 = .ok (.aload_n 0, 1) := by decide +kernel
theorem dX6_quietIn_1 : decode cX6_quietIn 1 = .ok (.iload_n 1, 1) := by decide +kernel
theorem dX6_quietIn_2 : decode cX6_quietIn 2 = .ok (.i2l, 1) := by decide +kernel
theorem dX6_quietIn_3 : decode cX6_quietIn 3 = .ok (.lconst 0, 1) := by decide +kernel
theorem dX6_quietIn_4 : decode cX6_quietIn 4 = .ok (.ldc2_w 192, 3) := by decide +kernel
theorem dX6_quietIn_7 : decode cX6_quietIn 7 = .ok (.invokestatic 86, 3) := by decide +kernel
theorem dX6_quietIn_10 : decode cX6_quietIn 10 = .ok (.ifCond .eq 7, 3) := by decide +kernel
theorem dX6_quietIn_13 : decode cX6_quietIn 13 = .ok (.iconst 0, 1) := by decide +kernel
theorem dX6_quietIn_14 : decode cX6_quietIn 14 = .ok (.goto 4, 3) := by decide +kernel
theorem dX6_quietIn_17 : decode cX6_quietIn 17 = .ok (.iconst 1, 1) := by decide +kernel
theorem dX6_quietIn_18 : decode cX6_quietIn 18 = .ok (.invokevirtual 93, 3) := by decide +kernel
theorem dX6_quietIn_21 : decode cX6_quietIn 21 = .ok (.ifCond .eq 5, 3) := by decide +kernel
theorem dX6_quietIn_24 : decode cX6_quietIn 24 = .ok (.iconst 0, 1) := by decide +kernel
theorem dX6_quietIn_25 : decode cX6_quietIn 25 = .ok (.ireturn, 1) := by decide +kernel
theorem dX6_quietIn_26 : decode cX6_quietIn 26 = .ok (.iconst 0, 1) := by decide +kernel
theorem dX6_quietIn_27 : decode cX6_quietIn 27 = .ok (.istore_n 2, 1) := by decide +kernel
theorem dX6_quietIn_28 : decode cX6_quietIn 28 = .ok (.aload_n 0, 1) := by decide +kernel
theorem dX6_quietIn_29 : decode cX6_quietIn 29 = .ok (.getfield 16, 3) := by decide +kernel
theorem dX6_quietIn_32 : decode cX6_quietIn 32 = .ok (.aload_n 0, 1) := by decide +kernel
theorem dX6_quietIn_33 : decode cX6_quietIn 33 = .ok (.getfield 16, 3) := by decide +kernel
theorem dX6_quietIn_36 : decode cX6_quietIn 36 = .ok (.iconst 0, 1) := by decide +kernel
theorem dX6_quietIn_37 : decode cX6_quietIn 37 = .ok (.iaload, 1) := by decide +kernel
theorem dX6_quietIn_38 : decode cX6_quietIn 38 = .ok (.iload_n 2, 1) := by decide +kernel
theorem dX6_quietIn_39 : decode cX6_quietIn 39 = .ok (.iadd, 1) := by decide +kernel
theorem dX6_quietIn_40 : decode cX6_quietIn 40 = .ok (.invokestatic 53, 3) := by decide +kernel
theorem dX6_quietIn_43 : decode cX6_quietIn 43 = .ok (.iload_n 1, 1) := by decide +kernel
theorem dX6_quietIn_44 : decode cX6_quietIn 44 = .ok (.if_icmp .le 9, 3) := by decide +kernel
theorem dX6_quietIn_47 : decode cX6_quietIn 47 = .ok (.iinc 2 1, 3) := by decide +kernel
theorem dX6_quietIn_50 : decode cX6_quietIn 50 = .ok (.goto (-22), 3) := by decide +kernel
theorem dX6_quietIn_53 : decode cX6_quietIn 53 = .ok (.iload_n 2, 1) := by decide +kernel
theorem dX6_quietIn_54 : decode cX6_quietIn 54 = .ok (.ireturn, 1) := by decide +kernel
theorem dX6_play_0 : decode cX6_play 0 = .ok (.aload_n 0, 1) := by decide +kernel
theorem dX6_play_1 : decode cX6_play 1 = .ok (.getfield 19, 3) := by decide +kernel
theorem dX6_play_4 : decode cX6_play 4 = .ok (.invokestatic 32, 3) := by decide +kernel
theorem dX6_play_7 : decode cX6_play 7 = .ok (.aload_n 0, 1) := by decide +kernel
theorem dX6_play_8 : decode cX6_play 8 = .ok (.getfield 16, 3) := by decide +kernel
theorem dX6_play_11 : decode cX6_play 11 = .ok (.iconst 1, 1) := by decide +kernel
theorem dX6_play_12 : decode cX6_play 12 = .ok (.aload_n 0, 1) := by decide +kernel
theorem dX6_play_13 : decode cX6_play 13 = .ok (.getfield 19, 3) := by decide +kernel
theorem dX6_play_16 : decode cX6_play 16 = .ok (.iconst 1, 1) := by decide +kernel
theorem dX6_play_17 : decode cX6_play 17 = .ok (.iconst 5, 1) := by decide +kernel
theorem dX6_play_18 : decode cX6_play 18 = .ok (.invokestatic 49, 3) := by decide +kernel
theorem dX6_play_21 : decode cX6_play 21 = .ok (.aload_n 0, 1) := by decide +kernel
theorem dX6_play_22 : decode cX6_play 22 = .ok (.getfield 16, 3) := by decide +kernel
theorem dX6_play_25 : decode cX6_play 25 = .ok (.bipush 16, 2) := by decide +kernel
theorem dX6_play_27 : decode cX6_play 27 = .ok (.aload_n 0, 1) := by decide +kernel
theorem dX6_play_28 : decode cX6_play 28 = .ok (.getfield 19, 3) := by decide +kernel
theorem dX6_play_31 : decode cX6_play 31 = .ok (.bipush 16, 2) := by decide +kernel
theorem dX6_play_33 : decode cX6_play 33 = .ok (.bipush 7, 2) := by decide +kernel
theorem dX6_play_35 : decode cX6_play 35 = .ok (.invokestatic 49, 3) := by decide +kernel
theorem dX6_play_38 : decode cX6_play 38 = .ok (.aload_n 0, 1) := by decide +kernel
theorem dX6_play_39 : decode cX6_play 39 = .ok (.getfield 19, 3) := by decide +kernel
theorem dX6_play_42 : decode cX6_play 42 = .ok (.iconst 2, 1) := by decide +kernel
theorem dX6_play_43 : decode cX6_play 43 = .ok (.iload_n 1, 1) := by decide +kernel
theorem dX6_play_44 : decode cX6_play 44 = .ok (.iastore, 1) := by decide +kernel
theorem dX6_play_45 : decode cX6_play 45 = .ok (.aload_n 0, 1) := by decide +kernel
theorem dX6_play_46 : decode cX6_play 46 = .ok (.getfield 19, 3) := by decide +kernel
theorem dX6_play_49 : decode cX6_play 49 = .ok (.iconst 3, 1) := by decide +kernel
theorem dX6_play_50 : decode cX6_play 50 = .ok (.iload_n 2, 1) := by decide +kernel
theorem dX6_play_51 : decode cX6_play 51 = .ok (.iastore, 1) := by decide +kernel
theorem dX6_play_52 : decode cX6_play 52 = .ok (.iconst 0, 1) := by decide +kernel
theorem dX6_play_53 : decode cX6_play 53 = .ok (.istore_n 3, 1) := by decide +kernel
theorem dX6_play_54 : decode cX6_play 54 = .ok (.iload_n 3, 1) := by decide +kernel
theorem dX6_play_55 : decode cX6_play 55 = .ok (.aload_n 0, 1) := by decide +kernel
theorem dX6_play_56 : decode cX6_play 56 = .ok (.getfield 16, 3) := by decide +kernel
theorem dX6_play_59 : decode cX6_play 59 = .ok (.bipush 108, 2) := by decide +kernel
theorem dX6_play_61 : decode cX6_play 61 = .ok (.iaload, 1) := by decide +kernel
theorem dX6_play_62 : decode cX6_play 62 = .ok (.if_icmp .ge 41, 3) := by decide +kernel
theorem dX6_play_65 : decode cX6_play 65 = .ok (.aload_n 0, 1) := by decide +kernel
theorem dX6_play_66 : decode cX6_play 66 = .ok (.getfield 19, 3) := by decide +kernel
theorem dX6_play_69 : decode cX6_play 69 = .ok (.aload_n 0, 1) := by decide +kernel
theorem dX6_play_70 : decode cX6_play 70 = .ok (.getfield 16, 3) := by decide +kernel
theorem dX6_play_73 : decode cX6_play 73 = .ok (.bipush 109, 2) := by decide +kernel
theorem dX6_play_75 : decode cX6_play 75 = .ok (.iconst 2, 1) := by decide +kernel
theorem dX6_play_76 : decode cX6_play 76 = .ok (.iload_n 3, 1) := by decide +kernel
theorem dX6_play_77 : decode cX6_play 77 = .ok (.imul, 1) := by decide +kernel
theorem dX6_play_78 : decode cX6_play 78 = .ok (.iadd, 1) := by decide +kernel
theorem dX6_play_79 : decode cX6_play 79 = .ok (.iaload, 1) := by decide +kernel
theorem dX6_play_80 : decode cX6_play 80 = .ok (.aload_n 0, 1) := by decide +kernel
theorem dX6_play_81 : decode cX6_play 81 = .ok (.getfield 16, 3) := by decide +kernel
theorem dX6_play_84 : decode cX6_play 84 = .ok (.bipush 109, 2) := by decide +kernel
theorem dX6_play_86 : decode cX6_play 86 = .ok (.iconst 2, 1) := by decide +kernel
theorem dX6_play_87 : decode cX6_play 87 = .ok (.iload_n 3, 1) := by decide +kernel
theorem dX6_play_88 : decode cX6_play 88 = .ok (.imul, 1) := by decide +kernel
theorem dX6_play_89 : decode cX6_play 89 = .ok (.iadd, 1) := by decide +kernel
theorem dX6_play_90 : decode cX6_play 90 = .ok (.iconst 1, 1) := by decide +kernel
theorem dX6_play_91 : decode cX6_play 91 = .ok (.iadd, 1) := by decide +kernel
theorem dX6_play_92 : decode cX6_play 92 = .ok (.iaload, 1) := by decide +kernel
theorem dX6_play_93 : decode cX6_play 93 = .ok (.invokestatic 117, 3) := by decide +kernel
theorem dX6_play_96 : decode cX6_play 96 = .ok (.pop, 1) := by decide +kernel
theorem dX6_play_97 : decode cX6_play 97 = .ok (.iinc 3 1, 3) := by decide +kernel
theorem dX6_play_100 : decode cX6_play 100 = .ok (.goto (-46), 3) := by decide +kernel
theorem dX6_play_103 : decode cX6_play 103 = .ok (.return_, 1) := by decide +kernel
theorem dX6_replay_0 : decode cX6_replay 0 = .ok (.aload_n 0, 1) := by decide +kernel
theorem dX6_replay_1 : decode cX6_replay 1 = .ok (.iconst 1, 1) := by decide +kernel
theorem dX6_replay_2 : decode cX6_replay 2 = .ok (.iload_n 1, 1) := by decide +kernel
theorem dX6_replay_3 : decode cX6_replay 3 = .ok (.invokestatic 189, 3) := by decide +kernel
theorem dX6_replay_6 : decode cX6_replay 6 = .ok (.ifCond .eq 27, 3) := by decide +kernel
theorem dX6_replay_9 : decode cX6_replay 9 = .ok (.iconst 2, 1) := by decide +kernel
theorem dX6_replay_10 : decode cX6_replay 10 = .ok (.iload_n 2, 1) := by decide +kernel
theorem dX6_replay_11 : decode cX6_replay 11 = .ok (.invokestatic 189, 3) := by decide +kernel
theorem dX6_replay_14 : decode cX6_replay 14 = .ok (.ifCond .eq 19, 3) := by decide +kernel
theorem dX6_replay_17 : decode cX6_replay 17 = .ok (.iload_n 3, 1) := by decide +kernel
theorem dX6_replay_18 : decode cX6_replay 18 = .ok (.i2l, 1) := by decide +kernel
theorem dX6_replay_19 : decode cX6_replay 19 = .ok (.lconst 0, 1) := by decide +kernel
theorem dX6_replay_20 : decode cX6_replay 20 = .ok (.ldc2_w 152, 3) := by decide +kernel
theorem dX6_replay_23 : decode cX6_replay 23 = .ok (.invokestatic 86, 3) := by decide +kernel
theorem dX6_replay_26 : decode cX6_replay 26 = .ok (.ifCond .eq 7, 3) := by decide +kernel
theorem dX6_replay_29 : decode cX6_replay 29 = .ok (.iconst 0, 1) := by decide +kernel
theorem dX6_replay_30 : decode cX6_replay 30 = .ok (.goto 4, 3) := by decide +kernel
theorem dX6_replay_33 : decode cX6_replay 33 = .ok (.iconst 1, 1) := by decide +kernel
theorem dX6_replay_34 : decode cX6_replay 34 = .ok (.invokevirtual 93, 3) := by decide +kernel
theorem dX6_replay_37 : decode cX6_replay 37 = .ok (.ifCond .eq 5, 3) := by decide +kernel
theorem dX6_replay_40 : decode cX6_replay 40 = .ok (.iconst 0, 1) := by decide +kernel
theorem dX6_replay_41 : decode cX6_replay 41 = .ok (.ireturn, 1) := by decide +kernel
theorem dX6_replay_42 : decode cX6_replay 42 = .ok (.aload_n 0, 1) := by decide +kernel
theorem dX6_replay_43 : decode cX6_replay 43 = .ok (.iload_n 1, 1) := by decide +kernel
theorem dX6_replay_44 : decode cX6_replay 44 = .ok (.iload_n 2, 1) := by decide +kernel
theorem dX6_replay_45 : decode cX6_replay 45 = .ok (.invokevirtual 200, 3) := by decide +kernel
theorem dX6_replay_48 : decode cX6_replay 48 = .ok (.aload_n 0, 1) := by decide +kernel
theorem dX6_replay_49 : decode cX6_replay 49 = .ok (.getfield 19, 3) := by decide +kernel
theorem dX6_replay_52 : decode cX6_replay 52 = .ok (.bipush 6, 2) := by decide +kernel
theorem dX6_replay_54 : decode cX6_replay 54 = .ok (.iload_n 3, 1) := by decide +kernel
theorem dX6_replay_55 : decode cX6_replay 55 = .ok (.iadd, 1) := by decide +kernel
theorem dX6_replay_56 : decode cX6_replay 56 = .ok (.iaload, 1) := by decide +kernel
theorem dX6_replay_57 : decode cX6_replay 57 = .ok (.ireturn, 1) := by decide +kernel
theorem dX6_bestWindow_0 : decode cX6_bestWindow 0 = .ok (.aload_n 0, 1) := by decide +kernel
theorem dX6_bestWindow_1 : decode cX6_bestWindow 1 = .ok (.iload_n 1, 1) := by decide +kernel
theorem dX6_bestWindow_2 : decode cX6_bestWindow 2 = .ok (.i2l, 1) := by decide +kernel
theorem dX6_bestWindow_3 : decode cX6_bestWindow 3 = .ok (.lconst 0, 1) := by decide +kernel
theorem dX6_bestWindow_4 : decode cX6_bestWindow 4 = .ok (.ldc2_w 167, 3) := by decide +kernel
theorem dX6_bestWindow_7 : decode cX6_bestWindow 7 = .ok (.invokestatic 86, 3) := by decide +kernel
theorem dX6_bestWindow_10 : decode cX6_bestWindow 10 = .ok (.ifCond .eq 7, 3) := by decide +kernel
theorem dX6_bestWindow_13 : decode cX6_bestWindow 13 = .ok (.iconst 0, 1) := by decide +kernel
theorem dX6_bestWindow_14 : decode cX6_bestWindow 14 = .ok (.goto 4, 3) := by decide +kernel
theorem dX6_bestWindow_17 : decode cX6_bestWindow 17 = .ok (.iconst 1, 1) := by decide +kernel
theorem dX6_bestWindow_18 : decode cX6_bestWindow 18 = .ok (.invokevirtual 93, 3) := by decide +kernel
theorem dX6_bestWindow_21 : decode cX6_bestWindow 21 = .ok (.ifCond .eq 5, 3) := by decide +kernel
theorem dX6_bestWindow_24 : decode cX6_bestWindow 24 = .ok (.iconst 0, 1) := by decide +kernel
theorem dX6_bestWindow_25 : decode cX6_bestWindow 25 = .ok (.ireturn, 1) := by decide +kernel
theorem dX6_bestWindow_26 : decode cX6_bestWindow 26 = .ok (.bipush (-9), 2) := by decide +kernel
theorem dX6_bestWindow_28 : decode cX6_bestWindow 28 = .ok (.istore_n 2, 1) := by decide +kernel
theorem dX6_bestWindow_29 : decode cX6_bestWindow 29 = .ok (.lconst 0, 1) := by decide +kernel
theorem dX6_bestWindow_30 : decode cX6_bestWindow 30 = .ok (.lstore_n 3, 1) := by decide +kernel
theorem dX6_bestWindow_31 : decode cX6_bestWindow 31 = .ok (.iconst 0, 1) := by decide +kernel
theorem dX6_bestWindow_32 : decode cX6_bestWindow 32 = .ok (.istore 5, 2) := by decide +kernel
theorem dX6_bestWindow_34 : decode cX6_bestWindow 34 = .ok (.iload 5, 2) := by decide +kernel
theorem dX6_bestWindow_36 : decode cX6_bestWindow 36 = .ok (.bipush 20, 2) := by decide +kernel
theorem dX6_bestWindow_38 : decode cX6_bestWindow 38 = .ok (.if_icmp .gt 95, 3) := by decide +kernel
theorem dX6_bestWindow_41 : decode cX6_bestWindow 41 = .ok (.aload_n 0, 1) := by decide +kernel
theorem dX6_bestWindow_42 : decode cX6_bestWindow 42 = .ok (.iload 5, 2) := by decide +kernel
theorem dX6_bestWindow_44 : decode cX6_bestWindow 44 = .ok (.aload_n 0, 1) := by decide +kernel
theorem dX6_bestWindow_45 : decode cX6_bestWindow 45 = .ok (.getfield 16, 3) := by decide +kernel
theorem dX6_bestWindow_48 : decode cX6_bestWindow 48 = .ok (.iconst 3, 1) := by decide +kernel
theorem dX6_bestWindow_49 : decode cX6_bestWindow 49 = .ok (.iaload, 1) := by decide +kernel
theorem dX6_bestWindow_50 : decode cX6_bestWindow 50 = .ok (.invokevirtual 200, 3) := by decide +kernel
theorem dX6_bestWindow_53 : decode cX6_bestWindow 53 = .ok (.aload_n 0, 1) := by decide +kernel
theorem dX6_bestWindow_54 : decode cX6_bestWindow 54 = .ok (.getfield 19, 3) := by decide +kernel
theorem dX6_bestWindow_57 : decode cX6_bestWindow 57 = .ok (.bipush 13, 2) := by decide +kernel
theorem dX6_bestWindow_59 : decode cX6_bestWindow 59 = .ok (.iaload, 1) := by decide +kernel
theorem dX6_bestWindow_60 : decode cX6_bestWindow 60 = .ok (.iconst 1, 1) := by decide +kernel
theorem dX6_bestWindow_61 : decode cX6_bestWindow 61 = .ok (.if_icmp .ne 10, 3) := by decide +kernel
theorem dX6_bestWindow_64 : decode cX6_bestWindow 64 = .ok (.aload_n 0, 1) := by decide +kernel
theorem dX6_bestWindow_65 : decode cX6_bestWindow 65 = .ok (.getfield 19, 3) := by decide +kernel
theorem dX6_bestWindow_68 : decode cX6_bestWindow 68 = .ok (.invokestatic 61, 3) := by decide +kernel
theorem dX6_bestWindow_71 : decode cX6_bestWindow 71 = .ok (.aload_n 0, 1) := by decide +kernel
theorem dX6_bestWindow_72 : decode cX6_bestWindow 72 = .ok (.getfield 19, 3) := by decide +kernel
theorem dX6_bestWindow_75 : decode cX6_bestWindow 75 = .ok (.iload_n 1, 1) := by decide +kernel
theorem dX6_bestWindow_76 : decode cX6_bestWindow 76 = .ok (.invokestatic 169, 3) := by decide +kernel
theorem dX6_bestWindow_79 : decode cX6_bestWindow 79 = .ok (.aload_n 0, 1) := by decide +kernel
theorem dX6_bestWindow_80 : decode cX6_bestWindow 80 = .ok (.getfield 19, 3) := by decide +kernel
theorem dX6_bestWindow_83 : decode cX6_bestWindow 83 = .ok (.sipush 190, 3) := by decide +kernel
theorem dX6_bestWindow_86 : decode cX6_bestWindow 86 = .ok (.iaload, 1) := by decide +kernel
theorem dX6_bestWindow_87 : decode cX6_bestWindow 87 = .ok (.i2l, 1) := by decide +kernel
theorem dX6_bestWindow_88 : decode cX6_bestWindow 88 = .ok (.lsub, 1) := by decide +kernel
theorem dX6_bestWindow_89 : decode cX6_bestWindow 89 = .ok (.lstore 6, 2) := by decide +kernel
theorem dX6_bestWindow_91 : decode cX6_bestWindow 91 = .ok (.lload 6, 2) := by decide +kernel
theorem dX6_bestWindow_93 : decode cX6_bestWindow 93 = .ok (.lconst 0, 1) := by decide +kernel
theorem dX6_bestWindow_94 : decode cX6_bestWindow 94 = .ok (.lcmp, 1) := by decide +kernel
theorem dX6_bestWindow_95 : decode cX6_bestWindow 95 = .ok (.ifCond .ge 9, 3) := by decide +kernel
theorem dX6_bestWindow_98 : decode cX6_bestWindow 98 = .ok (.lload 6, 2) := by decide +kernel
theorem dX6_bestWindow_100 : decode cX6_bestWindow 100 = .ok (.lneg, 1) := by decide +kernel
theorem dX6_bestWindow_101 : decode cX6_bestWindow 101 = .ok (.goto 5, 3) := by decide +kernel
theorem dX6_bestWindow_104 : decode cX6_bestWindow 104 = .ok (.lload 6, 2) := by decide +kernel
theorem dX6_bestWindow_106 : decode cX6_bestWindow 106 = .ok (.lstore 6, 2) := by decide +kernel
theorem dX6_bestWindow_108 : decode cX6_bestWindow 108 = .ok (.iload_n 2, 1) := by decide +kernel
theorem dX6_bestWindow_109 : decode cX6_bestWindow 109 = .ok (.bipush (-9), 2) := by decide +kernel
theorem dX6_bestWindow_111 : decode cX6_bestWindow 111 = .ok (.if_icmp .eq 10, 3) := by decide +kernel
theorem dX6_bestWindow_114 : decode cX6_bestWindow 114 = .ok (.lload 6, 2) := by decide +kernel
theorem dX6_bestWindow_116 : decode cX6_bestWindow 116 = .ok (.lload_n 3, 1) := by decide +kernel
theorem dX6_bestWindow_117 : decode cX6_bestWindow 117 = .ok (.lcmp, 1) := by decide +kernel
theorem dX6_bestWindow_118 : decode cX6_bestWindow 118 = .ok (.ifCond .ge 9, 3) := by decide +kernel
theorem dX6_bestWindow_121 : decode cX6_bestWindow 121 = .ok (.iload 5, 2) := by decide +kernel
theorem dX6_bestWindow_123 : decode cX6_bestWindow 123 = .ok (.istore_n 2, 1) := by decide +kernel
theorem dX6_bestWindow_124 : decode cX6_bestWindow 124 = .ok (.lload 6, 2) := by decide +kernel
theorem dX6_bestWindow_126 : decode cX6_bestWindow 126 = .ok (.lstore_n 3, 1) := by decide +kernel
theorem dX6_bestWindow_127 : decode cX6_bestWindow 127 = .ok (.iinc 5 1, 3) := by decide +kernel
theorem dX6_bestWindow_130 : decode cX6_bestWindow 130 = .ok (.goto (-96), 3) := by decide +kernel
theorem dX6_bestWindow_133 : decode cX6_bestWindow 133 = .ok (.iload_n 2, 1) := by decide +kernel
theorem dX6_bestWindow_134 : decode cX6_bestWindow 134 = .ok (.ireturn, 1) := by decide +kernel
theorem dX6_does_0 : decode cX6_does 0 = .ok (.iload_n 1, 1) := by decide +kernel
theorem dX6_does_1 : decode cX6_does 1 = .ok (.sipush 10000, 3) := by decide +kernel
theorem dX6_does_4 : decode cX6_does 4 = .ok (.idiv, 1) := by decide +kernel
theorem dX6_does_5 : decode cX6_does 5 = .ok (.istore_n 2, 1) := by decide +kernel
theorem dX6_does_6 : decode cX6_does 6 = .ok (.iload_n 1, 1) := by decide +kernel
theorem dX6_does_7 : decode cX6_does 7 = .ok (.sipush 1000, 3) := by decide +kernel
theorem dX6_does_10 : decode cX6_does 10 = .ok (.idiv, 1) := by decide +kernel
theorem dX6_does_11 : decode cX6_does 11 = .ok (.bipush 10, 2) := by decide +kernel
theorem dX6_does_13 : decode cX6_does 13 = .ok (.irem, 1) := by decide +kernel
theorem dX6_does_14 : decode cX6_does 14 = .ok (.istore_n 3, 1) := by decide +kernel
theorem dX6_does_15 : decode cX6_does 15 = .ok (.iload_n 1, 1) := by decide +kernel
theorem dX6_does_16 : decode cX6_does 16 = .ok (.bipush 100, 2) := by decide +kernel
theorem dX6_does_18 : decode cX6_does 18 = .ok (.idiv, 1) := by decide +kernel
theorem dX6_does_19 : decode cX6_does 19 = .ok (.bipush 10, 2) := by decide +kernel
theorem dX6_does_21 : decode cX6_does 21 = .ok (.irem, 1) := by decide +kernel
theorem dX6_does_22 : decode cX6_does 22 = .ok (.istore 4, 2) := by decide +kernel
theorem dX6_does_24 : decode cX6_does 24 = .ok (.iload_n 1, 1) := by decide +kernel
theorem dX6_does_25 : decode cX6_does 25 = .ok (.bipush 100, 2) := by decide +kernel
theorem dX6_does_27 : decode cX6_does 27 = .ok (.irem, 1) := by decide +kernel
theorem dX6_does_28 : decode cX6_does 28 = .ok (.istore 5, 2) := by decide +kernel
theorem dX6_does_30 : decode cX6_does 30 = .ok (.iload_n 1, 1) := by decide +kernel
theorem dX6_does_31 : decode cX6_does 31 = .ok (.sipush 1000, 3) := by decide +kernel
theorem dX6_does_34 : decode cX6_does 34 = .ok (.irem, 1) := by decide +kernel
theorem dX6_does_35 : decode cX6_does 35 = .ok (.istore 6, 2) := by decide +kernel
theorem dX6_does_37 : decode cX6_does 37 = .ok (.iload_n 2, 1) := by decide +kernel
theorem dX6_does_38 : decode cX6_does 38 = .ok (.tableswitch 288 1 8 #[46, 82, 109, 132, 162, 191, 212, 260], 46) := by decide +kernel
theorem dX6_does_84 : decode cX6_does 84 = .ok (.iload_n 1, 1) := by decide +kernel
theorem dX6_does_85 : decode cX6_does 85 = .ok (.bipush 100, 2) := by decide +kernel
theorem dX6_does_87 : decode cX6_does 87 = .ok (.idiv, 1) := by decide +kernel
theorem dX6_does_88 : decode cX6_does 88 = .ok (.bipush 100, 2) := by decide +kernel
theorem dX6_does_90 : decode cX6_does 90 = .ok (.irem, 1) := by decide +kernel
theorem dX6_does_91 : decode cX6_does 91 = .ok (.iload 5, 2) := by decide +kernel
theorem dX6_does_93 : decode cX6_does 93 = .ok (.invokestatic 177, 3) := by decide +kernel
theorem dX6_does_96 : decode cX6_does 96 = .ok (.ifCond .ne 5, 3) := by decide +kernel
theorem dX6_does_99 : decode cX6_does 99 = .ok (.iconst 0, 1) := by decide +kernel
theorem dX6_does_100 : decode cX6_does 100 = .ok (.ireturn, 1) := by decide +kernel
theorem dX6_does_101 : decode cX6_does 101 = .ok (.aload_n 0, 1) := by decide +kernel
theorem dX6_does_102 : decode cX6_does 102 = .ok (.getfield 19, 3) := by decide +kernel
theorem dX6_does_105 : decode cX6_does 105 = .ok (.iload_n 1, 1) := by decide +kernel
theorem dX6_does_106 : decode cX6_does 106 = .ok (.bipush 100, 2) := by decide +kernel
theorem dX6_does_108 : decode cX6_does 108 = .ok (.idiv, 1) := by decide +kernel
theorem dX6_does_109 : decode cX6_does 109 = .ok (.bipush 100, 2) := by decide +kernel
theorem dX6_does_111 : decode cX6_does 111 = .ok (.irem, 1) := by decide +kernel
theorem dX6_does_112 : decode cX6_does 112 = .ok (.iload 5, 2) := by decide +kernel
theorem dX6_does_114 : decode cX6_does 114 = .ok (.invokestatic 117, 3) := by decide +kernel
theorem dX6_does_117 : decode cX6_does 117 = .ok (.pop, 1) := by decide +kernel
theorem dX6_does_118 : decode cX6_does 118 = .ok (.iconst 1, 1) := by decide +kernel
theorem dX6_does_119 : decode cX6_does 119 = .ok (.ireturn, 1) := by decide +kernel
theorem dX6_does_120 : decode cX6_does 120 = .ok (.iload_n 3, 1) := by decide +kernel
theorem dX6_does_121 : decode cX6_does 121 = .ok (.ifCond .ne 13, 3) := by decide +kernel
theorem dX6_does_124 : decode cX6_does 124 = .ok (.iload 4, 2) := by decide +kernel
theorem dX6_does_126 : decode cX6_does 126 = .ok (.ifCond .ne 8, 3) := by decide +kernel
theorem dX6_does_129 : decode cX6_does 129 = .ok (.iload 5, 2) := by decide +kernel
theorem dX6_does_131 : decode cX6_does 131 = .ok (.ifCond .ne 5, 3) := by decide +kernel
theorem dX6_does_134 : decode cX6_does 134 = .ok (.iconst 0, 1) := by decide +kernel
theorem dX6_does_135 : decode cX6_does 135 = .ok (.ireturn, 1) := by decide +kernel
theorem dX6_does_136 : decode cX6_does 136 = .ok (.aload_n 0, 1) := by decide +kernel
theorem dX6_does_137 : decode cX6_does 137 = .ok (.getfield 19, 3) := by decide +kernel
theorem dX6_does_140 : decode cX6_does 140 = .ok (.iload 5, 2) := by decide +kernel
theorem dX6_does_142 : decode cX6_does 142 = .ok (.invokestatic 72, 3) := by decide +kernel
theorem dX6_does_145 : decode cX6_does 145 = .ok (.iconst 1, 1) := by decide +kernel
theorem dX6_does_146 : decode cX6_does 146 = .ok (.ireturn, 1) := by decide +kernel
theorem dX6_does_147 : decode cX6_does 147 = .ok (.iload_n 3, 1) := by decide +kernel
theorem dX6_does_148 : decode cX6_does 148 = .ok (.iload 6, 2) := by decide +kernel
theorem dX6_does_150 : decode cX6_does 150 = .ok (.invokestatic 189, 3) := by decide +kernel
theorem dX6_does_153 : decode cX6_does 153 = .ok (.ifCond .ne 5, 3) := by decide +kernel
theorem dX6_does_156 : decode cX6_does 156 = .ok (.iconst 0, 1) := by decide +kernel
theorem dX6_does_157 : decode cX6_does 157 = .ok (.ireturn, 1) := by decide +kernel
theorem dX6_does_158 : decode cX6_does 158 = .ok (.aload_n 0, 1) := by decide +kernel
theorem dX6_does_159 : decode cX6_does 159 = .ok (.getfield 19, 3) := by decide +kernel
theorem dX6_does_162 : decode cX6_does 162 = .ok (.iconst 1, 1) := by decide +kernel
theorem dX6_does_163 : decode cX6_does 163 = .ok (.iload_n 3, 1) := by decide +kernel
theorem dX6_does_164 : decode cX6_does 164 = .ok (.iadd, 1) := by decide +kernel
theorem dX6_does_165 : decode cX6_does 165 = .ok (.iload 6, 2) := by decide +kernel
theorem dX6_does_167 : decode cX6_does 167 = .ok (.iastore, 1) := by decide +kernel
theorem dX6_does_168 : decode cX6_does 168 = .ok (.iconst 1, 1) := by decide +kernel
theorem dX6_does_169 : decode cX6_does 169 = .ok (.ireturn, 1) := by decide +kernel
theorem dX6_does_170 : decode cX6_does 170 = .ok (.iload_n 3, 1) := by decide +kernel
theorem dX6_does_171 : decode cX6_does 171 = .ok (.iconst 4, 1) := by decide +kernel
theorem dX6_does_172 : decode cX6_does 172 = .ok (.if_icmp .ge 26, 3) := by decide +kernel
theorem dX6_does_175 : decode cX6_does 175 = .ok (.iload 4, 2) := by decide +kernel
theorem dX6_does_177 : decode cX6_does 177 = .ok (.ifCond .ne 21, 3) := by decide +kernel
theorem dX6_does_180 : decode cX6_does 180 = .ok (.aload_n 0, 1) := by decide +kernel
theorem dX6_does_181 : decode cX6_does 181 = .ok (.getfield 19, 3) := by decide +kernel
theorem dX6_does_184 : decode cX6_does 184 = .ok (.bipush 6, 2) := by decide +kernel
theorem dX6_does_186 : decode cX6_does 186 = .ok (.iload_n 3, 1) := by decide +kernel
theorem dX6_does_187 : decode cX6_does 187 = .ok (.iadd, 1) := by decide +kernel
theorem dX6_does_188 : decode cX6_does 188 = .ok (.iaload, 1) := by decide +kernel
theorem dX6_does_189 : decode cX6_does 189 = .ok (.iload 5, 2) := by decide +kernel
theorem dX6_does_191 : decode cX6_does 191 = .ok (.if_icmp .lt 7, 3) := by decide +kernel
theorem dX6_does_194 : decode cX6_does 194 = .ok (.iconst 1, 1) := by decide +kernel
theorem dX6_does_195 : decode cX6_does 195 = .ok (.goto 4, 3) := by decide +kernel
theorem dX6_does_198 : decode cX6_does 198 = .ok (.iconst 0, 1) := by decide +kernel
theorem dX6_does_199 : decode cX6_does 199 = .ok (.ireturn, 1) := by decide +kernel
theorem dX6_does_200 : decode cX6_does 200 = .ok (.iload_n 3, 1) := by decide +kernel
theorem dX6_does_201 : decode cX6_does 201 = .ok (.invokestatic 143, 3) := by decide +kernel
theorem dX6_does_204 : decode cX6_does 204 = .ok (.ifCond .eq 23, 3) := by decide +kernel
theorem dX6_does_207 : decode cX6_does 207 = .ok (.aload_n 0, 1) := by decide +kernel
theorem dX6_does_208 : decode cX6_does 208 = .ok (.getfield 19, 3) := by decide +kernel
theorem dX6_does_211 : decode cX6_does 211 = .ok (.bipush 23, 2) := by decide +kernel
theorem dX6_does_213 : decode cX6_does 213 = .ok (.iconst 3, 1) := by decide +kernel
theorem dX6_does_214 : decode cX6_does 214 = .ok (.iload_n 3, 1) := by decide +kernel
theorem dX6_does_215 : decode cX6_does 215 = .ok (.imul, 1) := by decide +kernel
theorem dX6_does_216 : decode cX6_does 216 = .ok (.iadd, 1) := by decide +kernel
theorem dX6_does_217 : decode cX6_does 217 = .ok (.iaload, 1) := by decide +kernel
theorem dX6_does_218 : decode cX6_does 218 = .ok (.iload 6, 2) := by decide +kernel
theorem dX6_does_220 : decode cX6_does 220 = .ok (.if_icmp .lt 7, 3) := by decide +kernel
theorem dX6_does_223 : decode cX6_does 223 = .ok (.iconst 1, 1) := by decide +kernel
theorem dX6_does_224 : decode cX6_does 224 = .ok (.goto 4, 3) := by decide +kernel
theorem dX6_does_227 : decode cX6_does 227 = .ok (.iconst 0, 1) := by decide +kernel
theorem dX6_does_228 : decode cX6_does 228 = .ok (.ireturn, 1) := by decide +kernel
theorem dX6_does_229 : decode cX6_does 229 = .ok (.aload_n 0, 1) := by decide +kernel
theorem dX6_does_230 : decode cX6_does 230 = .ok (.getfield 19, 3) := by decide +kernel
theorem dX6_does_233 : decode cX6_does 233 = .ok (.invokestatic 68, 3) := by decide +kernel
theorem dX6_does_236 : decode cX6_does 236 = .ok (.iload_n 1, 1) := by decide +kernel
theorem dX6_does_237 : decode cX6_does 237 = .ok (.sipush 10000, 3) := by decide +kernel
theorem dX6_does_240 : decode cX6_does 240 = .ok (.irem, 1) := by decide +kernel
theorem dX6_does_241 : decode cX6_does 241 = .ok (.if_icmp .lt 7, 3) := by decide +kernel
theorem dX6_does_244 : decode cX6_does 244 = .ok (.iconst 1, 1) := by decide +kernel
theorem dX6_does_245 : decode cX6_does 245 = .ok (.goto 4, 3) := by decide +kernel
theorem dX6_does_248 : decode cX6_does 248 = .ok (.iconst 0, 1) := by decide +kernel
theorem dX6_does_249 : decode cX6_does 249 = .ok (.ireturn, 1) := by decide +kernel
theorem dX6_does_250 : decode cX6_does 250 = .ok (.iload_n 3, 1) := by decide +kernel
theorem dX6_does_251 : decode cX6_does 251 = .ok (.ifCond .ne 45, 3) := by decide +kernel
theorem dX6_does_254 : decode cX6_does 254 = .ok (.iload 6, 2) := by decide +kernel
theorem dX6_does_256 : decode cX6_does 256 = .ok (.iconst 4, 1) := by decide +kernel
theorem dX6_does_257 : decode cX6_does 257 = .ok (.if_icmp .ge 39, 3) := by decide +kernel
theorem dX6_does_260 : decode cX6_does 260 = .ok (.aload_n 0, 1) := by decide +kernel
theorem dX6_does_261 : decode cX6_does 261 = .ok (.getfield 19, 3) := by decide +kernel
theorem dX6_does_264 : decode cX6_does 264 = .ok (.bipush 47, 2) := by decide +kernel
theorem dX6_does_266 : decode cX6_does 266 = .ok (.iaload, 1) := by decide +kernel
theorem dX6_does_267 : decode cX6_does 267 = .ok (.ifCond .le 29, 3) := by decide +kernel
theorem dX6_does_270 : decode cX6_does 270 = .ok (.aload_n 0, 1) := by decide +kernel
theorem dX6_does_271 : decode cX6_does 271 = .ok (.getfield 19, 3) := by decide +kernel
theorem dX6_does_274 : decode cX6_does 274 = .ok (.bipush 48, 2) := by decide +kernel
theorem dX6_does_276 : decode cX6_does 276 = .ok (.aload_n 0, 1) := by decide +kernel
theorem dX6_does_277 : decode cX6_does 277 = .ok (.getfield 19, 3) := by decide +kernel
theorem dX6_does_280 : decode cX6_does 280 = .ok (.bipush 47, 2) := by decide +kernel
theorem dX6_does_282 : decode cX6_does 282 = .ok (.iaload, 1) := by decide +kernel
theorem dX6_does_283 : decode cX6_does 283 = .ok (.iadd, 1) := by decide +kernel
theorem dX6_does_284 : decode cX6_does 284 = .ok (.iconst 1, 1) := by decide +kernel
theorem dX6_does_285 : decode cX6_does 285 = .ok (.isub, 1) := by decide +kernel
theorem dX6_does_286 : decode cX6_does 286 = .ok (.iaload, 1) := by decide +kernel
theorem dX6_does_287 : decode cX6_does 287 = .ok (.iload 6, 2) := by decide +kernel
theorem dX6_does_289 : decode cX6_does 289 = .ok (.if_icmp .ne 7, 3) := by decide +kernel
theorem dX6_does_292 : decode cX6_does 292 = .ok (.iconst 1, 1) := by decide +kernel
theorem dX6_does_293 : decode cX6_does 293 = .ok (.goto 4, 3) := by decide +kernel
theorem dX6_does_296 : decode cX6_does 296 = .ok (.iconst 0, 1) := by decide +kernel
theorem dX6_does_297 : decode cX6_does 297 = .ok (.ireturn, 1) := by decide +kernel
theorem dX6_does_298 : decode cX6_does 298 = .ok (.iload_n 3, 1) := by decide +kernel
theorem dX6_does_299 : decode cX6_does 299 = .ok (.ifCond .ne 25, 3) := by decide +kernel
theorem dX6_does_302 : decode cX6_does 302 = .ok (.iload 6, 2) := by decide +kernel
theorem dX6_does_304 : decode cX6_does 304 = .ok (.iconst 2, 1) := by decide +kernel
theorem dX6_does_305 : decode cX6_does 305 = .ok (.if_icmp .ge 19, 3) := by decide +kernel
theorem dX6_does_308 : decode cX6_does 308 = .ok (.aload_n 0, 1) := by decide +kernel
theorem dX6_does_309 : decode cX6_does 309 = .ok (.getfield 19, 3) := by decide +kernel
theorem dX6_does_312 : decode cX6_does 312 = .ok (.bipush 13, 2) := by decide +kernel
theorem dX6_does_314 : decode cX6_does 314 = .ok (.iaload, 1) := by decide +kernel
theorem dX6_does_315 : decode cX6_does 315 = .ok (.iload 6, 2) := by decide +kernel
theorem dX6_does_317 : decode cX6_does 317 = .ok (.if_icmp .ne 7, 3) := by decide +kernel
theorem dX6_does_320 : decode cX6_does 320 = .ok (.iconst 1, 1) := by decide +kernel
theorem dX6_does_321 : decode cX6_does 321 = .ok (.goto 4, 3) := by decide +kernel
theorem dX6_does_324 : decode cX6_does 324 = .ok (.iconst 0, 1) := by decide +kernel
theorem dX6_does_325 : decode cX6_does 325 = .ok (.ireturn, 1) := by decide +kernel
theorem dX6_does_326 : decode cX6_does 326 = .ok (.iconst 0, 1) := by decide +kernel
theorem dX6_does_327 : decode cX6_does 327 = .ok (.ireturn, 1) := by decide +kernel
theorem dX6_runScript_0 : decode cX6_runScript 0 = .ok (.iload_n 1, 1) := by decide +kernel
theorem dX6_runScript_1 : decode cX6_runScript 1 = .ok (.i2l, 1) := by decide +kernel
theorem dX6_runScript_2 : decode cX6_runScript 2 = .ok (.lconst 1, 1) := by decide +kernel
theorem dX6_runScript_3 : decode cX6_runScript 3 = .ok (.ldc2_w 152, 3) := by decide +kernel
theorem dX6_runScript_6 : decode cX6_runScript 6 = .ok (.invokestatic 86, 3) := by decide +kernel
theorem dX6_runScript_9 : decode cX6_runScript 9 = .ok (.istore 4, 2) := by decide +kernel
theorem dX6_runScript_11 : decode cX6_runScript 11 = .ok (.aload_n 0, 1) := by decide +kernel
theorem dX6_runScript_12 : decode cX6_runScript 12 = .ok (.iload 4, 2) := by decide +kernel
theorem dX6_runScript_14 : decode cX6_runScript 14 = .ok (.ifCond .eq 32, 3) := by decide +kernel
theorem dX6_runScript_17 : decode cX6_runScript 17 = .ok (.lload_n 2, 1) := by decide +kernel
theorem dX6_runScript_18 : decode cX6_runScript 18 = .ok (.lconst 0, 1) := by decide +kernel
theorem dX6_runScript_19 : decode cX6_runScript 19 = .ok (.iload 4, 2) := by decide +kernel
theorem dX6_runScript_21 : decode cX6_runScript 21 = .ok (.ifCond .eq 9, 3) := by decide +kernel
theorem dX6_runScript_24 : decode cX6_runScript 24 = .ok (.iconst 5, 1) := by decide +kernel
theorem dX6_runScript_25 : decode cX6_runScript 25 = .ok (.iload_n 1, 1) := by decide +kernel
theorem dX6_runScript_26 : decode cX6_runScript 26 = .ok (.imul, 1) := by decide +kernel
theorem dX6_runScript_27 : decode cX6_runScript 27 = .ok (.goto 4, 3) := by decide +kernel
theorem dX6_runScript_30 : decode cX6_runScript 30 = .ok (.iconst 0, 1) := by decide +kernel
theorem dX6_runScript_31 : decode cX6_runScript 31 = .ok (.invokestatic 156, 3) := by decide +kernel
theorem dX6_runScript_34 : decode cX6_runScript 34 = .ok (.lconst 1, 1) := by decide +kernel
theorem dX6_runScript_35 : decode cX6_runScript 35 = .ok (.lsub, 1) := by decide +kernel
theorem dX6_runScript_36 : decode cX6_runScript 36 = .ok (.invokestatic 86, 3) := by decide +kernel
theorem dX6_runScript_39 : decode cX6_runScript 39 = .ok (.ifCond .eq 7, 3) := by decide +kernel
theorem dX6_runScript_42 : decode cX6_runScript 42 = .ok (.iconst 0, 1) := by decide +kernel
theorem dX6_runScript_43 : decode cX6_runScript 43 = .ok (.goto 4, 3) := by decide +kernel
theorem dX6_runScript_46 : decode cX6_runScript 46 = .ok (.iconst 1, 1) := by decide +kernel
theorem dX6_runScript_47 : decode cX6_runScript 47 = .ok (.invokevirtual 93, 3) := by decide +kernel
theorem dX6_runScript_50 : decode cX6_runScript 50 = .ok (.ifCond .eq 5, 3) := by decide +kernel
theorem dX6_runScript_53 : decode cX6_runScript 53 = .ok (.iconst 0, 1) := by decide +kernel
theorem dX6_runScript_54 : decode cX6_runScript 54 = .ok (.ireturn, 1) := by decide +kernel
theorem dX6_runScript_55 : decode cX6_runScript 55 = .ok (.aload_n 0, 1) := by decide +kernel
theorem dX6_runScript_56 : decode cX6_runScript 56 = .ok (.invokevirtual 194, 3) := by decide +kernel
theorem dX6_runScript_59 : decode cX6_runScript 59 = .ok (.iconst 0, 1) := by decide +kernel
theorem dX6_runScript_60 : decode cX6_runScript 60 = .ok (.istore 5, 2) := by decide +kernel
theorem dX6_runScript_62 : decode cX6_runScript 62 = .ok (.iload 5, 2) := by decide +kernel
theorem dX6_runScript_64 : decode cX6_runScript 64 = .ok (.iload_n 1, 1) := by decide +kernel
theorem dX6_runScript_65 : decode cX6_runScript 65 = .ok (.if_icmp .ge 37, 3) := by decide +kernel
theorem dX6_runScript_68 : decode cX6_runScript 68 = .ok (.aload_n 0, 1) := by decide +kernel
theorem dX6_runScript_69 : decode cX6_runScript 69 = .ok (.lload_n 2, 1) := by decide +kernel
theorem dX6_runScript_70 : decode cX6_runScript 70 = .ok (.iconst 5, 1) := by decide +kernel
theorem dX6_runScript_71 : decode cX6_runScript 71 = .ok (.iload_n 1, 1) := by decide +kernel
theorem dX6_runScript_72 : decode cX6_runScript 72 = .ok (.iconst 1, 1) := by decide +kernel
theorem dX6_runScript_73 : decode cX6_runScript 73 = .ok (.isub, 1) := by decide +kernel
theorem dX6_runScript_74 : decode cX6_runScript 74 = .ok (.iload 5, 2) := by decide +kernel
theorem dX6_runScript_76 : decode cX6_runScript 76 = .ok (.isub, 1) := by decide +kernel
theorem dX6_runScript_77 : decode cX6_runScript 77 = .ok (.imul, 1) := by decide +kernel
theorem dX6_runScript_78 : decode cX6_runScript 78 = .ok (.invokestatic 156, 3) := by decide +kernel
theorem dX6_runScript_81 : decode cX6_runScript 81 = .ok (.ldiv, 1) := by decide +kernel
theorem dX6_runScript_82 : decode cX6_runScript 82 = .ok (.ldc2_w 204, 3) := by decide +kernel
theorem dX6_runScript_85 : decode cX6_runScript 85 = .ok (.lrem, 1) := by decide +kernel
theorem dX6_runScript_86 : decode cX6_runScript 86 = .ok (.l2i, 1) := by decide +kernel
theorem dX6_runScript_87 : decode cX6_runScript 87 = .ok (.invokevirtual 206, 3) := by decide +kernel
theorem dX6_runScript_90 : decode cX6_runScript 90 = .ok (.ifCond .ne 6, 3) := by decide +kernel
theorem dX6_runScript_93 : decode cX6_runScript 93 = .ok (.iload 5, 2) := by decide +kernel
theorem dX6_runScript_95 : decode cX6_runScript 95 = .ok (.ireturn, 1) := by decide +kernel
theorem dX6_runScript_96 : decode cX6_runScript 96 = .ok (.iinc 5 1, 3) := by decide +kernel
theorem dX6_runScript_99 : decode cX6_runScript 99 = .ok (.goto (-37), 3) := by decide +kernel
theorem dX6_runScript_102 : decode cX6_runScript 102 = .ok (.bipush (-9), 2) := by decide +kernel
theorem dX6_runScript_104 : decode cX6_runScript 104 = .ok (.ireturn, 1) := by decide +kernel
theorem dX6_simulate_0 : decode cX6_simulate 0 = .ok (.aload_n 0, 1) := by decide +kernel
theorem dX6_simulate_1 : decode cX6_simulate 1 = .ok (.iload_n 3, 1) := by decide +kernel
theorem dX6_simulate_2 : decode cX6_simulate 2 = .ok (.i2l, 1) := by decide +kernel
theorem dX6_simulate_3 : decode cX6_simulate 3 = .ok (.lconst 1, 1) := by decide +kernel
theorem dX6_simulate_4 : decode cX6_simulate 4 = .ok (.ldc2_w 173, 3) := by decide +kernel
theorem dX6_simulate_7 : decode cX6_simulate 7 = .ok (.invokestatic 86, 3) := by decide +kernel
theorem dX6_simulate_10 : decode cX6_simulate 10 = .ok (.ifCond .eq 7, 3) := by decide +kernel
theorem dX6_simulate_13 : decode cX6_simulate 13 = .ok (.iconst 0, 1) := by decide +kernel
theorem dX6_simulate_14 : decode cX6_simulate 14 = .ok (.goto 4, 3) := by decide +kernel
theorem dX6_simulate_17 : decode cX6_simulate 17 = .ok (.iconst 1, 1) := by decide +kernel
theorem dX6_simulate_18 : decode cX6_simulate 18 = .ok (.invokevirtual 93, 3) := by decide +kernel
theorem dX6_simulate_21 : decode cX6_simulate 21 = .ok (.ifCond .eq 5, 3) := by decide +kernel
theorem dX6_simulate_24 : decode cX6_simulate 24 = .ok (.iconst 0, 1) := by decide +kernel
theorem dX6_simulate_25 : decode cX6_simulate 25 = .ok (.ireturn, 1) := by decide +kernel
theorem dX6_simulate_26 : decode cX6_simulate 26 = .ok (.aload_n 0, 1) := by decide +kernel
theorem dX6_simulate_27 : decode cX6_simulate 27 = .ok (.invokevirtual 194, 3) := by decide +kernel
theorem dX6_simulate_30 : decode cX6_simulate 30 = .ok (.lload_n 1, 1) := by decide +kernel
theorem dX6_simulate_31 : decode cX6_simulate 31 = .ok (.lstore 4, 2) := by decide +kernel
theorem dX6_simulate_33 : decode cX6_simulate 33 = .ok (.iconst 0, 1) := by decide +kernel
theorem dX6_simulate_34 : decode cX6_simulate 34 = .ok (.istore 6, 2) := by decide +kernel
theorem dX6_simulate_36 : decode cX6_simulate 36 = .ok (.iload 6, 2) := by decide +kernel
theorem dX6_simulate_38 : decode cX6_simulate 38 = .ok (.iload_n 3, 1) := by decide +kernel
theorem dX6_simulate_39 : decode cX6_simulate 39 = .ok (.if_icmp .ge 81, 3) := by decide +kernel
theorem dX6_simulate_42 : decode cX6_simulate 42 = .ok (.lload 4, 2) := by decide +kernel
theorem dX6_simulate_44 : decode cX6_simulate 44 = .ok (.ldc2_w 209, 3) := by decide +kernel
theorem dX6_simulate_47 : decode cX6_simulate 47 = .ok (.lmul, 1) := by decide +kernel
theorem dX6_simulate_48 : decode cX6_simulate 48 = .ok (.ldc2_w 211, 3) := by decide +kernel
theorem dX6_simulate_51 : decode cX6_simulate 51 = .ok (.ladd, 1) := by decide +kernel
theorem dX6_simulate_52 : decode cX6_simulate 52 = .ok (.lstore 4, 2) := by decide +kernel
theorem dX6_simulate_54 : decode cX6_simulate 54 = .ok (.lload 4, 2) := by decide +kernel
theorem dX6_simulate_56 : decode cX6_simulate 56 = .ok (.bipush 33, 2) := by decide +kernel
theorem dX6_simulate_58 : decode cX6_simulate 58 = .ok (.lushr, 1) := by decide +kernel
theorem dX6_simulate_59 : decode cX6_simulate 59 = .ok (.l2i, 1) := by decide +kernel
theorem dX6_simulate_60 : decode cX6_simulate 60 = .ok (.istore 7, 2) := by decide +kernel
theorem dX6_simulate_62 : decode cX6_simulate 62 = .ok (.iload 7, 2) := by decide +kernel
theorem dX6_simulate_64 : decode cX6_simulate 64 = .ok (.bipush 16, 2) := by decide +kernel
theorem dX6_simulate_66 : decode cX6_simulate 66 = .ok (.irem, 1) := by decide +kernel
theorem dX6_simulate_67 : decode cX6_simulate 67 = .ok (.ifCond .ne 20, 3) := by decide +kernel
theorem dX6_simulate_70 : decode cX6_simulate 70 = .ok (.aload_n 0, 1) := by decide +kernel
theorem dX6_simulate_71 : decode cX6_simulate 71 = .ok (.getfield 19, 3) := by decide +kernel
theorem dX6_simulate_74 : decode cX6_simulate 74 = .ok (.iconst 1, 1) := by decide +kernel
theorem dX6_simulate_75 : decode cX6_simulate 75 = .ok (.iload 7, 2) := by decide +kernel
theorem dX6_simulate_77 : decode cX6_simulate 77 = .ok (.bipush 16, 2) := by decide +kernel
theorem dX6_simulate_79 : decode cX6_simulate 79 = .ok (.idiv, 1) := by decide +kernel
theorem dX6_simulate_80 : decode cX6_simulate 80 = .ok (.bipush 41, 2) := by decide +kernel
theorem dX6_simulate_82 : decode cX6_simulate 82 = .ok (.irem, 1) := by decide +kernel
theorem dX6_simulate_83 : decode cX6_simulate 83 = .ok (.iastore, 1) := by decide +kernel
theorem dX6_simulate_84 : decode cX6_simulate 84 = .ok (.goto 30, 3) := by decide +kernel
theorem dX6_simulate_87 : decode cX6_simulate 87 = .ok (.aload_n 0, 1) := by decide +kernel
theorem dX6_simulate_88 : decode cX6_simulate 88 = .ok (.getfield 19, 3) := by decide +kernel
theorem dX6_simulate_91 : decode cX6_simulate 91 = .ok (.iload 7, 2) := by decide +kernel
theorem dX6_simulate_93 : decode cX6_simulate 93 = .ok (.sipush 1024, 3) := by decide +kernel
theorem dX6_simulate_96 : decode cX6_simulate 96 = .ok (.idiv, 1) := by decide +kernel
theorem dX6_simulate_97 : decode cX6_simulate 97 = .ok (.bipush 12, 2) := by decide +kernel
theorem dX6_simulate_99 : decode cX6_simulate 99 = .ok (.irem, 1) := by decide +kernel
theorem dX6_simulate_100 : decode cX6_simulate 100 = .ok (.iconst 1, 1) := by decide +kernel
theorem dX6_simulate_101 : decode cX6_simulate 101 = .ok (.iload 7, 2) := by decide +kernel
theorem dX6_simulate_103 : decode cX6_simulate 103 = .ok (.bipush 16, 2) := by decide +kernel
theorem dX6_simulate_105 : decode cX6_simulate 105 = .ok (.idiv, 1) := by decide +kernel
theorem dX6_simulate_106 : decode cX6_simulate 106 = .ok (.bipush 60, 2) := by decide +kernel
theorem dX6_simulate_108 : decode cX6_simulate 108 = .ok (.irem, 1) := by decide +kernel
theorem dX6_simulate_109 : decode cX6_simulate 109 = .ok (.iadd, 1) := by decide +kernel
theorem dX6_simulate_110 : decode cX6_simulate 110 = .ok (.invokestatic 117, 3) := by decide +kernel
theorem dX6_simulate_113 : decode cX6_simulate 113 = .ok (.pop, 1) := by decide +kernel
theorem dX6_simulate_114 : decode cX6_simulate 114 = .ok (.iinc 6 1, 3) := by decide +kernel
theorem dX6_simulate_117 : decode cX6_simulate 117 = .ok (.goto (-81), 3) := by decide +kernel
theorem dX6_simulate_120 : decode cX6_simulate 120 = .ok (.iconst 0, 1) := by decide +kernel
theorem dX6_simulate_121 : decode cX6_simulate 121 = .ok (.istore 6, 2) := by decide +kernel
theorem dX6_simulate_123 : decode cX6_simulate 123 = .ok (.iconst 0, 1) := by decide +kernel
theorem dX6_simulate_124 : decode cX6_simulate 124 = .ok (.istore 7, 2) := by decide +kernel
theorem dX6_simulate_126 : decode cX6_simulate 126 = .ok (.iload 7, 2) := by decide +kernel
theorem dX6_simulate_128 : decode cX6_simulate 128 = .ok (.iconst 4, 1) := by decide +kernel
theorem dX6_simulate_129 : decode cX6_simulate 129 = .ok (.if_icmp .ge 38, 3) := by decide +kernel
theorem dX6_simulate_132 : decode cX6_simulate 132 = .ok (.bipush 100, 2) := by decide +kernel
theorem dX6_simulate_134 : decode cX6_simulate 134 = .ok (.iload 6, 2) := by decide +kernel
theorem dX6_simulate_136 : decode cX6_simulate 136 = .ok (.imul, 1) := by decide +kernel
theorem dX6_simulate_137 : decode cX6_simulate 137 = .ok (.aload_n 0, 1) := by decide +kernel
theorem dX6_simulate_138 : decode cX6_simulate 138 = .ok (.getfield 19, 3) := by decide +kernel
theorem dX6_simulate_141 : decode cX6_simulate 141 = .ok (.bipush 6, 2) := by decide +kernel
theorem dX6_simulate_143 : decode cX6_simulate 143 = .ok (.iload 7, 2) := by decide +kernel
theorem dX6_simulate_145 : decode cX6_simulate 145 = .ok (.iadd, 1) := by decide +kernel
theorem dX6_simulate_146 : decode cX6_simulate 146 = .ok (.iaload, 1) := by decide +kernel
theorem dX6_simulate_147 : decode cX6_simulate 147 = .ok (.iadd, 1) := by decide +kernel
theorem dX6_simulate_148 : decode cX6_simulate 148 = .ok (.aload_n 0, 1) := by decide +kernel
theorem dX6_simulate_149 : decode cX6_simulate 149 = .ok (.getfield 16, 3) := by decide +kernel
theorem dX6_simulate_152 : decode cX6_simulate 152 = .ok (.bipush 6, 2) := by decide +kernel
theorem dX6_simulate_154 : decode cX6_simulate 154 = .ok (.iload 7, 2) := by decide +kernel
theorem dX6_simulate_156 : decode cX6_simulate 156 = .ok (.iadd, 1) := by decide +kernel
theorem dX6_simulate_157 : decode cX6_simulate 157 = .ok (.iaload, 1) := by decide +kernel
theorem dX6_simulate_158 : decode cX6_simulate 158 = .ok (.isub, 1) := by decide +kernel
theorem dX6_simulate_159 : decode cX6_simulate 159 = .ok (.istore 6, 2) := by decide +kernel
theorem dX6_simulate_161 : decode cX6_simulate 161 = .ok (.iinc 7 1, 3) := by decide +kernel
theorem dX6_simulate_164 : decode cX6_simulate 164 = .ok (.goto (-38), 3) := by decide +kernel
theorem dX6_simulate_167 : decode cX6_simulate 167 = .ok (.iload 6, 2) := by decide +kernel
theorem dX6_simulate_169 : decode cX6_simulate 169 = .ok (.ireturn, 1) := by decide +kernel
theorem dX6_save_0 : decode cX6_save 0 = .ok (.aload_n 0, 1) := by decide +kernel
theorem dX6_save_1 : decode cX6_save 1 = .ok (.iload_n 1, 1) := by decide +kernel
theorem dX6_save_2 : decode cX6_save 2 = .ok (.i2l, 1) := by decide +kernel
theorem dX6_save_3 : decode cX6_save 3 = .ok (.lconst 0, 1) := by decide +kernel
theorem dX6_save_4 : decode cX6_save 4 = .ok (.lconst 1, 1) := by decide +kernel
theorem dX6_save_5 : decode cX6_save 5 = .ok (.invokestatic 86, 3) := by decide +kernel
theorem dX6_save_8 : decode cX6_save 8 = .ok (.ifCond .eq 7, 3) := by decide +kernel
theorem dX6_save_11 : decode cX6_save 11 = .ok (.iconst 0, 1) := by decide +kernel
theorem dX6_save_12 : decode cX6_save 12 = .ok (.goto 4, 3) := by decide +kernel
theorem dX6_save_15 : decode cX6_save 15 = .ok (.iconst 1, 1) := by decide +kernel
theorem dX6_save_16 : decode cX6_save 16 = .ok (.invokevirtual 93, 3) := by decide +kernel
theorem dX6_save_19 : decode cX6_save 19 = .ok (.ifCond .eq 5, 3) := by decide +kernel
theorem dX6_save_22 : decode cX6_save 22 = .ok (.iconst 0, 1) := by decide +kernel
theorem dX6_save_23 : decode cX6_save 23 = .ok (.ireturn, 1) := by decide +kernel
theorem dX6_save_24 : decode cX6_save 24 = .ok (.aload_n 0, 1) := by decide +kernel
theorem dX6_save_25 : decode cX6_save 25 = .ok (.getfield 16, 3) := by decide +kernel
theorem dX6_save_28 : decode cX6_save 28 = .ok (.iconst 0, 1) := by decide +kernel
theorem dX6_save_29 : decode cX6_save 29 = .ok (.aload_n 0, 1) := by decide +kernel
theorem dX6_save_30 : decode cX6_save 30 = .ok (.getfield 25, 3) := by decide +kernel
theorem dX6_save_33 : decode cX6_save 33 = .ok (.sipush 191, 3) := by decide +kernel
theorem dX6_save_36 : decode cX6_save 36 = .ok (.iload_n 1, 1) := by decide +kernel
theorem dX6_save_37 : decode cX6_save 37 = .ok (.imul, 1) := by decide +kernel
theorem dX6_save_38 : decode cX6_save 38 = .ok (.sipush 191, 3) := by decide +kernel
theorem dX6_save_41 : decode cX6_save 41 = .ok (.invokestatic 49, 3) := by decide +kernel
theorem dX6_save_44 : decode cX6_save 44 = .ok (.aload_n 0, 1) := by decide +kernel
theorem dX6_save_45 : decode cX6_save 45 = .ok (.getfield 28, 3) := by decide +kernel
theorem dX6_save_48 : decode cX6_save 48 = .ok (.iload_n 1, 1) := by decide +kernel
theorem dX6_save_49 : decode cX6_save 49 = .ok (.iconst 1, 1) := by decide +kernel
theorem dX6_save_50 : decode cX6_save 50 = .ok (.bastore, 1) := by decide +kernel
theorem dX6_save_51 : decode cX6_save 51 = .ok (.aload_n 0, 1) := by decide +kernel
theorem dX6_save_52 : decode cX6_save 52 = .ok (.getfield 16, 3) := by decide +kernel
theorem dX6_save_55 : decode cX6_save 55 = .ok (.iconst 0, 1) := by decide +kernel
theorem dX6_save_56 : decode cX6_save 56 = .ok (.iaload, 1) := by decide +kernel
theorem dX6_save_57 : decode cX6_save 57 = .ok (.ireturn, 1) := by decide +kernel
theorem dX6_restore_0 : decode cX6_restore 0 = .ok (.aload_n 0, 1) := by decide +kernel
theorem dX6_restore_1 : decode cX6_restore 1 = .ok (.iload_n 1, 1) := by decide +kernel
theorem dX6_restore_2 : decode cX6_restore 2 = .ok (.i2l, 1) := by decide +kernel
theorem dX6_restore_3 : decode cX6_restore 3 = .ok (.lconst 0, 1) := by decide +kernel
theorem dX6_restore_4 : decode cX6_restore 4 = .ok (.lconst 1, 1) := by decide +kernel
theorem dX6_restore_5 : decode cX6_restore 5 = .ok (.invokestatic 86, 3) := by decide +kernel
theorem dX6_restore_8 : decode cX6_restore 8 = .ok (.ifCond .ne 7, 3) := by decide +kernel
theorem dX6_restore_11 : decode cX6_restore 11 = .ok (.iconst 1, 1) := by decide +kernel
theorem dX6_restore_12 : decode cX6_restore 12 = .ok (.goto 17, 3) := by decide +kernel
theorem dX6_restore_15 : decode cX6_restore 15 = .ok (.aload_n 0, 1) := by decide +kernel
theorem dX6_restore_16 : decode cX6_restore 16 = .ok (.getfield 28, 3) := by decide +kernel
theorem dX6_restore_19 : decode cX6_restore 19 = .ok (.iload_n 1, 1) := by decide +kernel
theorem dX6_restore_20 : decode cX6_restore 20 = .ok (.baload, 1) := by decide +kernel
theorem dX6_restore_21 : decode cX6_restore 21 = .ok (.ifCond .eq 7, 3) := by decide +kernel
theorem dX6_restore_24 : decode cX6_restore 24 = .ok (.iconst 0, 1) := by decide +kernel
theorem dX6_restore_25 : decode cX6_restore 25 = .ok (.goto 4, 3) := by decide +kernel
theorem dX6_restore_28 : decode cX6_restore 28 = .ok (.iconst 2, 1) := by decide +kernel
theorem dX6_restore_29 : decode cX6_restore 29 = .ok (.invokevirtual 93, 3) := by decide +kernel
theorem dX6_restore_32 : decode cX6_restore 32 = .ok (.ifCond .eq 5, 3) := by decide +kernel
theorem dX6_restore_35 : decode cX6_restore 35 = .ok (.iconst 0, 1) := by decide +kernel
theorem dX6_restore_36 : decode cX6_restore 36 = .ok (.ireturn, 1) := by decide +kernel
theorem dX6_restore_37 : decode cX6_restore 37 = .ok (.aload_n 0, 1) := by decide +kernel
theorem dX6_restore_38 : decode cX6_restore 38 = .ok (.getfield 25, 3) := by decide +kernel
theorem dX6_restore_41 : decode cX6_restore 41 = .ok (.sipush 191, 3) := by decide +kernel
theorem dX6_restore_44 : decode cX6_restore 44 = .ok (.iload_n 1, 1) := by decide +kernel
theorem dX6_restore_45 : decode cX6_restore 45 = .ok (.imul, 1) := by decide +kernel
theorem dX6_restore_46 : decode cX6_restore 46 = .ok (.aload_n 0, 1) := by decide +kernel
theorem dX6_restore_47 : decode cX6_restore 47 = .ok (.getfield 16, 3) := by decide +kernel
theorem dX6_restore_50 : decode cX6_restore 50 = .ok (.iconst 0, 1) := by decide +kernel
theorem dX6_restore_51 : decode cX6_restore 51 = .ok (.sipush 191, 3) := by decide +kernel
theorem dX6_restore_54 : decode cX6_restore 54 = .ok (.invokestatic 49, 3) := by decide +kernel
theorem dX6_restore_57 : decode cX6_restore 57 = .ok (.aload_n 0, 1) := by decide +kernel
theorem dX6_restore_58 : decode cX6_restore 58 = .ok (.iconst 0, 1) := by decide +kernel
theorem dX6_restore_59 : decode cX6_restore 59 = .ok (.putfield 46, 3) := by decide +kernel
theorem dX6_restore_62 : decode cX6_restore 62 = .ok (.aload_n 0, 1) := by decide +kernel
theorem dX6_restore_63 : decode cX6_restore 63 = .ok (.getfield 16, 3) := by decide +kernel
theorem dX6_restore_66 : decode cX6_restore 66 = .ok (.iconst 0, 1) := by decide +kernel
theorem dX6_restore_67 : decode cX6_restore 67 = .ok (.iaload, 1) := by decide +kernel
theorem dX6_restore_68 : decode cX6_restore 68 = .ok (.ireturn, 1) := by decide +kernel
