theorem dX0_init_0 : decode cX0_init 0 = .ok (.aload_n 0, 1) := by decide +kernel
theorem dX0_init_1 : decode cX0_init 1 = .ok (.invokespecial 3, 3) := by decide +kernel
theorem dX0_init_4 : decode cX0_init 4 = .ok (.aload_n 0, 1) := by decide +kernel
theorem dX0_init_5 : decode cX0_init 5 = .ok (.iconst 4, 1) := by decide +kernel
theorem dX0_init_6 : decode cX0_init 6 = .ok (.newarray .int, 2) := by decide +kernel
theorem dX0_init_8 : decode cX0_init 8 = .ok (.putfield 9, 3) := by decide +kernel
theorem dX0_init_11 : decode cX0_init 11 = .ok (.aload_n 0, 1) := by decide +kernel
theorem dX0_init_12 : decode cX0_init 12 = .ok (.lconst 0, 1) := by decide +kernel
theorem dX0_init_13 : decode cX0_init 13 = .ok (.putfield 15, 3) := by decide +kernel
theorem dX0_init_16 : decode cX0_init 16 = .ok (.aload_n 0, 1) := by decide +kernel
theorem dX0_init_17 : decode cX0_init 17 = .ok (.iconst 0, 1) := by decide +kernel
theorem dX0_init_18 : decode cX0_init 18 = .ok (.putfield 19, 3) := by decide +kernel
theorem dX0_init_21 : decode cX0_init 21 = .ok (.aload_n 0, 1) := by decide +kernel
theorem dX0_init_22 : decode cX0_init 22 = .ok (.new 23, 3) := by decide +kernel
theorem dX0_init_25 : decode cX0_init 25 = .ok (.dup, 1) := by decide +kernel
theorem dX0_init_26 : decode cX0_init 26 = .ok (.bipush 60, 2) := by decide +kernel
theorem dX0_init_28 : decode cX0_init 28 = .ok (.invokespecial 25, 3) := by decide +kernel
theorem dX0_init_31 : decode cX0_init 31 = .ok (.putfield 28, 3) := by decide +kernel
theorem dX0_init_34 : decode cX0_init 34 = .ok (.aload_n 0, 1) := by decide +kernel
theorem dX0_init_35 : decode cX0_init 35 = .ok (.new 23, 3) := by decide +kernel
theorem dX0_init_38 : decode cX0_init 38 = .ok (.dup, 1) := by decide +kernel
theorem dX0_init_39 : decode cX0_init 39 = .ok (.bipush 40, 2) := by decide +kernel
theorem dX0_init_41 : decode cX0_init 41 = .ok (.invokespecial 25, 3) := by decide +kernel
theorem dX0_init_44 : decode cX0_init 44 = .ok (.putfield 32, 3) := by decide +kernel
theorem dX0_init_47 : decode cX0_init 47 = .ok (.aload_n 0, 1) := by decide +kernel
theorem dX0_init_48 : decode cX0_init 48 = .ok (.new 23, 3) := by decide +kernel
theorem dX0_init_51 : decode cX0_init 51 = .ok (.dup, 1) := by decide +kernel
theorem dX0_init_52 : decode cX0_init 52 = .ok (.bipush 40, 2) := by decide +kernel
theorem dX0_init_54 : decode cX0_init 54 = .ok (.invokespecial 25, 3) := by decide +kernel
theorem dX0_init_57 : decode cX0_init 57 = .ok (.putfield 35, 3) := by decide +kernel
theorem dX0_init_60 : decode cX0_init 60 = .ok (.return_, 1) := by decide +kernel
theorem dX0_enter_0 : decode cX0_enter 0 = .ok (.iload_n 3, 1) := by decide +kernel
theorem dX0_enter_1 : decode cX0_enter 1 = .ok (.ifCond .lt 22, 3) := by decide +kernel
theorem dX0_enter_4 : decode cX0_enter 4 = .ok (.iload_n 3, 1) := by decide +kernel
theorem dX0_enter_5 : decode cX0_enter 5 = .ok (.aload_n 0, 1) := by decide +kernel
theorem dX0_enter_6 : decode cX0_enter 6 = .ok (.getfield 9, 3) := by decide +kernel
theorem dX0_enter_9 : decode cX0_enter 9 = .ok (.arraylength, 1) := by decide +kernel
theorem dX0_enter_10 : decode cX0_enter 10 = .ok (.if_icmp .ge 13, 3) := by decide +kernel
theorem dX0_enter_13 : decode cX0_enter 13 = .ok (.aload_n 0, 1) := by decide +kernel
theorem dX0_enter_14 : decode cX0_enter 14 = .ok (.getfield 9, 3) := by decide +kernel
theorem dX0_enter_17 : decode cX0_enter 17 = .ok (.iload_n 3, 1) := by decide +kernel
theorem dX0_enter_18 : decode cX0_enter 18 = .ok (.dup2, 1) := by decide +kernel
theorem dX0_enter_19 : decode cX0_enter 19 = .ok (.iaload, 1) := by decide +kernel
theorem dX0_enter_20 : decode cX0_enter 20 = .ok (.iconst 1, 1) := by decide +kernel
theorem dX0_enter_21 : decode cX0_enter 21 = .ok (.iadd, 1) := by decide +kernel
theorem dX0_enter_22 : decode cX0_enter 22 = .ok (.iastore, 1) := by decide +kernel
theorem dX0_enter_23 : decode cX0_enter 23 = .ok (.aload_n 0, 1) := by decide +kernel
theorem dX0_enter_24 : decode cX0_enter 24 = .ok (.dup, 1) := by decide +kernel
theorem dX0_enter_25 : decode cX0_enter 25 = .ok (.getfield 15, 3) := by decide +kernel
theorem dX0_enter_28 : decode cX0_enter 28 = .ok (.iload_n 2, 1) := by decide +kernel
theorem dX0_enter_29 : decode cX0_enter 29 = .ok (.invokestatic 38, 3) := by decide +kernel
theorem dX0_enter_32 : decode cX0_enter 32 = .ok (.ladd, 1) := by decide +kernel
theorem dX0_enter_33 : decode cX0_enter 33 = .ok (.putfield 15, 3) := by decide +kernel
theorem dX0_enter_36 : decode cX0_enter 36 = .ok (.aload_n 0, 1) := by decide +kernel
theorem dX0_enter_37 : decode cX0_enter 37 = .ok (.getfield 28, 3) := by decide +kernel
theorem dX0_enter_40 : decode cX0_enter 40 = .ok (.iload_n 3, 1) := by decide +kernel
theorem dX0_enter_41 : decode cX0_enter 41 = .ok (.invokevirtual 42, 3) := by decide +kernel
theorem dX0_enter_44 : decode cX0_enter 44 = .ok (.aload_n 0, 1) := by decide +kernel
theorem dX0_enter_45 : decode cX0_enter 45 = .ok (.getfield 32, 3) := by decide +kernel
theorem dX0_enter_48 : decode cX0_enter 48 = .ok (.iload_n 2, 1) := by decide +kernel
theorem dX0_enter_49 : decode cX0_enter 49 = .ok (.invokevirtual 42, 3) := by decide +kernel
theorem dX0_enter_52 : decode cX0_enter 52 = .ok (.aload_n 0, 1) := by decide +kernel
theorem dX0_enter_53 : decode cX0_enter 53 = .ok (.getfield 35, 3) := by decide +kernel
theorem dX0_enter_56 : decode cX0_enter 56 = .ok (.iload_n 1, 1) := by decide +kernel
theorem dX0_enter_57 : decode cX0_enter 57 = .ok (.aload_n 0, 1) := by decide +kernel
theorem dX0_enter_58 : decode cX0_enter 58 = .ok (.getfield 19, 3) := by decide +kernel
theorem dX0_enter_61 : decode cX0_enter 61 = .ok (.isub, 1) := by decide +kernel
theorem dX0_enter_62 : decode cX0_enter 62 = .ok (.invokevirtual 42, 3) := by decide +kernel
theorem dX0_enter_65 : decode cX0_enter 65 = .ok (.aload_n 0, 1) := by decide +kernel
theorem dX0_enter_66 : decode cX0_enter 66 = .ok (.iload_n 1, 1) := by decide +kernel
theorem dX0_enter_67 : decode cX0_enter 67 = .ok (.putfield 19, 3) := by decide +kernel
theorem dX0_enter_70 : decode cX0_enter 70 = .ok (.return_, 1) := by decide +kernel
theorem dX0_dropCount_0 : decode cX0_dropCount 0 = .ok (.aload_n 0, 1) := by decide +kernel
theorem dX0_dropCount_1 : decode cX0_dropCount 1 = .ok (.getfield 9, 3) := by decide +kernel
theorem dX0_dropCount_4 : decode cX0_dropCount 4 = .ok (.invokestatic 45, 3) := by decide +kernel
theorem dX0_dropCount_7 : decode cX0_dropCount 7 = .ok (.ireturn, 1) := by decide +kernel
theorem dX0_countOf_0 : decode cX0_countOf 0 = .ok (.iload_n 1, 1) := by decide +kernel
theorem dX0_countOf_1 : decode cX0_countOf 1 = .ok (.ifCond .lt 21, 3) := by decide +kernel
theorem dX0_countOf_4 : decode cX0_countOf 4 = .ok (.iload_n 1, 1) := by decide +kernel
theorem dX0_countOf_5 : decode cX0_countOf 5 = .ok (.aload_n 0, 1) := by decide +kernel
theorem dX0_countOf_6 : decode cX0_countOf 6 = .ok (.getfield 9, 3) := by decide +kernel
theorem dX0_countOf_9 : decode cX0_countOf 9 = .ok (.arraylength, 1) := by decide +kernel
theorem dX0_countOf_10 : decode cX0_countOf 10 = .ok (.if_icmp .ge 12, 3) := by decide +kernel
theorem dX0_countOf_13 : decode cX0_countOf 13 = .ok (.aload_n 0, 1) := by decide +kernel
theorem dX0_countOf_14 : decode cX0_countOf 14 = .ok (.getfield 9, 3) := by decide +kernel
theorem dX0_countOf_17 : decode cX0_countOf 17 = .ok (.iload_n 1, 1) := by decide +kernel
theorem dX0_countOf_18 : decode cX0_countOf 18 = .ok (.iaload, 1) := by decide +kernel
theorem dX0_countOf_19 : decode cX0_countOf 19 = .ok (.goto 4, 3) := by decide +kernel
theorem dX0_countOf_22 : decode cX0_countOf 22 = .ok (.iconst 0, 1) := by decide +kernel
theorem dX0_countOf_23 : decode cX0_countOf 23 = .ok (.ireturn, 1) := by decide +kernel
theorem dX0_rainOfRecord_0 : decode cX0_rainOfRecord 0 = .ok (.lconst 0, 1) := by decide +kernel
theorem dX0_rainOfRecord_1 : decode cX0_rainOfRecord 1 = .ok (.lstore_n 1, 1) := by decide +kernel
theorem dX0_rainOfRecord_2 : decode cX0_rainOfRecord 2 = .ok (.iconst 0, 1) := by decide +kernel
theorem dX0_rainOfRecord_3 : decode cX0_rainOfRecord 3 = .ok (.istore_n 3, 1) := by decide +kernel
theorem dX0_rainOfRecord_4 : decode cX0_rainOfRecord 4 = .ok (.iload_n 3, 1) := by decide +kernel
theorem dX0_rainOfRecord_5 : decode cX0_rainOfRecord 5 = .ok (.aload_n 0, 1) := by decide +kernel
theorem dX0_rainOfRecord_6 : decode cX0_rainOfRecord 6 = .ok (.getfield 32, 3) := by decide +kernel
theorem dX0_rainOfRecord_9 : decode cX0_rainOfRecord 9 = .ok (.getfield 49, 3) := by decide +kernel
theorem dX0_rainOfRecord_12 : decode cX0_rainOfRecord 12 = .ok (.if_icmp .ge 23, 3) := by decide +kernel
theorem dX0_rainOfRecord_15 : decode cX0_rainOfRecord 15 = .ok (.lload_n 1, 1) := by decide +kernel
theorem dX0_rainOfRecord_16 : decode cX0_rainOfRecord 16 = .ok (.aload_n 0, 1) := by decide +kernel
theorem dX0_rainOfRecord_17 : decode cX0_rainOfRecord 17 = .ok (.getfield 32, 3) := by decide +kernel
theorem dX0_rainOfRecord_20 : decode cX0_rainOfRecord 20 = .ok (.iload_n 3, 1) := by decide +kernel
theorem dX0_rainOfRecord_21 : decode cX0_rainOfRecord 21 = .ok (.invokevirtual 52, 3) := by decide +kernel
theorem dX0_rainOfRecord_24 : decode cX0_rainOfRecord 24 = .ok (.invokestatic 38, 3) := by decide +kernel
theorem dX0_rainOfRecord_27 : decode cX0_rainOfRecord 27 = .ok (.ladd, 1) := by decide +kernel
theorem dX0_rainOfRecord_28 : decode cX0_rainOfRecord 28 = .ok (.lstore_n 1, 1) := by decide +kernel
theorem dX0_rainOfRecord_29 : decode cX0_rainOfRecord 29 = .ok (.iinc 3 1, 3) := by decide +kernel
theorem dX0_rainOfRecord_32 : decode cX0_rainOfRecord 32 = .ok (.goto (-28), 3) := by decide +kernel
theorem dX0_rainOfRecord_35 : decode cX0_rainOfRecord 35 = .ok (.lload_n 1, 1) := by decide +kernel
theorem dX0_rainOfRecord_36 : decode cX0_rainOfRecord 36 = .ok (.lreturn, 1) := by decide +kernel
theorem dX0_copyFrom_0 : decode cX0_copyFrom 0 = .ok (.aload_n 1, 1) := by decide +kernel
theorem dX0_copyFrom_1 : decode cX0_copyFrom 1 = .ok (.getfield 9, 3) := by decide +kernel
theorem dX0_copyFrom_4 : decode cX0_copyFrom 4 = .ok (.aload_n 0, 1) := by decide +kernel
theorem dX0_copyFrom_5 : decode cX0_copyFrom 5 = .ok (.getfield 9, 3) := by decide +kernel
theorem dX0_copyFrom_8 : decode cX0_copyFrom 8 = .ok (.invokestatic 56, 3) := by decide +kernel
theorem dX0_copyFrom_11 : decode cX0_copyFrom 11 = .ok (.aload_n 0, 1) := by decide +kernel
theorem dX0_copyFrom_12 : decode cX0_copyFrom 12 = .ok (.aload_n 1, 1) := by decide +kernel
theorem dX0_copyFrom_13 : decode cX0_copyFrom 13 = .ok (.getfield 15, 3) := by decide +kernel
theorem dX0_copyFrom_16 : decode cX0_copyFrom 16 = .ok (.putfield 15, 3) := by decide +kernel
theorem dX0_copyFrom_19 : decode cX0_copyFrom 19 = .ok (.aload_n 0, 1) := by decide +kernel
theorem dX0_copyFrom_20 : decode cX0_copyFrom 20 = .ok (.aload_n 1, 1) := by decide +kernel
theorem dX0_copyFrom_21 : decode cX0_copyFrom 21 = .ok (.getfield 19, 3) := by decide +kernel
theorem dX0_copyFrom_24 : decode cX0_copyFrom 24 = .ok (.putfield 19, 3) := by decide +kernel
theorem dX0_copyFrom_27 : decode cX0_copyFrom 27 = .ok (.aload_n 0, 1) := by decide +kernel
theorem dX0_copyFrom_28 : decode cX0_copyFrom 28 = .ok (.getfield 28, 3) := by decide +kernel
theorem dX0_copyFrom_31 : decode cX0_copyFrom 31 = .ok (.aload_n 1, 1) := by decide +kernel
theorem dX0_copyFrom_32 : decode cX0_copyFrom 32 = .ok (.getfield 28, 3) := by decide +kernel
theorem dX0_copyFrom_35 : decode cX0_copyFrom 35 = .ok (.invokevirtual 60, 3) := by decide +kernel
theorem dX0_copyFrom_38 : decode cX0_copyFrom 38 = .ok (.aload_n 0, 1) := by decide +kernel
theorem dX0_copyFrom_39 : decode cX0_copyFrom 39 = .ok (.getfield 32, 3) := by decide +kernel
theorem dX0_copyFrom_42 : decode cX0_copyFrom 42 = .ok (.aload_n 1, 1) := by decide +kernel
theorem dX0_copyFrom_43 : decode cX0_copyFrom 43 = .ok (.getfield 32, 3) := by decide +kernel
theorem dX0_copyFrom_46 : decode cX0_copyFrom 46 = .ok (.invokevirtual 60, 3) := by decide +kernel
theorem dX0_copyFrom_49 : decode cX0_copyFrom 49 = .ok (.aload_n 0, 1) := by decide +kernel
theorem dX0_copyFrom_50 : decode cX0_copyFrom 50 = .ok (.getfield 35, 3) := by decide +kernel
theorem dX0_copyFrom_53 : decode cX0_copyFrom 53 = .ok (.aload_n 1, 1) := by decide +kernel
theorem dX0_copyFrom_54 : decode cX0_copyFrom 54 = .ok (.getfield 35, 3) := by decide +kernel
theorem dX0_copyFrom_57 : decode cX0_copyFrom 57 = .ok (.invokevirtual 60, 3) := by decide +kernel
theorem dX0_copyFrom_60 : decode cX0_copyFrom 60 = .ok (.return_, 1) := by decide +kernel
theorem dX1_init_0 : decode cX1_init 0 = .ok (.aload_n 0, 1) := by decide +kernel
theorem dX1_init_1 : decode cX1_init 1 = .ok (.invokespecial 3, 3) := by decide +kernel
theorem dX1_init_4 : decode cX1_init 4 = .ok (.aload_n 0, 1) := by decide +kernel
theorem dX1_init_5 : decode cX1_init 5 = .ok (.iconst 0, 1) := by decide +kernel
theorem dX1_init_6 : decode cX1_init 6 = .ok (.putfield 9, 3) := by decide +kernel
theorem dX1_init_9 : decode cX1_init 9 = .ok (.aload_n 0, 1) := by decide +kernel
theorem dX1_init_10 : decode cX1_init 10 = .ok (.iconst 0, 1) := by decide +kernel
theorem dX1_init_11 : decode cX1_init 11 = .ok (.putfield 15, 3) := by decide +kernel
theorem dX1_init_14 : decode cX1_init 14 = .ok (.aload_n 0, 1) := by decide +kernel
theorem dX1_init_15 : decode cX1_init 15 = .ok (.iload_n 1, 1) := by decide +kernel
theorem dX1_init_16 : decode cX1_init 16 = .ok (.iconst 1, 1) := by decide +kernel
theorem dX1_init_17 : decode cX1_init 17 = .ok (.invokestatic 18, 3) := by decide +kernel
theorem dX1_init_20 : decode cX1_init 20 = .ok (.newarray .int, 2) := by decide +kernel
theorem dX1_init_22 : decode cX1_init 22 = .ok (.putfield 24, 3) := by decide +kernel
theorem dX1_init_25 : decode cX1_init 25 = .ok (.return_, 1) := by decide +kernel
theorem dX1_push_0 : decode cX1_push 0 = .ok (.aload_n 0, 1) := by decide +kernel
theorem dX1_push_1 : decode cX1_push 1 = .ok (.aload_n 0, 1) := by decide +kernel
theorem dX1_push_2 : decode cX1_push 2 = .ok (.getfield 9, 3) := by decide +kernel
theorem dX1_push_5 : decode cX1_push 5 = .ok (.aload_n 0, 1) := by decide +kernel
theorem dX1_push_6 : decode cX1_push 6 = .ok (.getfield 24, 3) := by decide +kernel
theorem dX1_push_9 : decode cX1_push 9 = .ok (.arraylength, 1) := by decide +kernel
theorem dX1_push_10 : decode cX1_push 10 = .ok (.iconst 1, 1) := by decide +kernel
theorem dX1_push_11 : decode cX1_push 11 = .ok (.isub, 1) := by decide +kernel
theorem dX1_push_12 : decode cX1_push 12 = .ok (.if_icmp .ge 12, 3) := by decide +kernel
theorem dX1_push_15 : decode cX1_push 15 = .ok (.aload_n 0, 1) := by decide +kernel
theorem dX1_push_16 : decode cX1_push 16 = .ok (.getfield 9, 3) := by decide +kernel
theorem dX1_push_19 : decode cX1_push 19 = .ok (.iconst 1, 1) := by decide +kernel
theorem dX1_push_20 : decode cX1_push 20 = .ok (.iadd, 1) := by decide +kernel
theorem dX1_push_21 : decode cX1_push 21 = .ok (.goto 4, 3) := by decide +kernel
theorem dX1_push_24 : decode cX1_push 24 = .ok (.iconst 0, 1) := by decide +kernel
theorem dX1_push_25 : decode cX1_push 25 = .ok (.putfield 9, 3) := by decide +kernel
theorem dX1_push_28 : decode cX1_push 28 = .ok (.aload_n 0, 1) := by decide +kernel
theorem dX1_push_29 : decode cX1_push 29 = .ok (.getfield 24, 3) := by decide +kernel
theorem dX1_push_32 : decode cX1_push 32 = .ok (.aload_n 0, 1) := by decide +kernel
theorem dX1_push_33 : decode cX1_push 33 = .ok (.getfield 9, 3) := by decide +kernel
theorem dX1_push_36 : decode cX1_push 36 = .ok (.iload_n 1, 1) := by decide +kernel
theorem dX1_push_37 : decode cX1_push 37 = .ok (.iastore, 1) := by decide +kernel
theorem dX1_push_38 : decode cX1_push 38 = .ok (.aload_n 0, 1) := by decide +kernel
theorem dX1_push_39 : decode cX1_push 39 = .ok (.aload_n 0, 1) := by decide +kernel
theorem dX1_push_40 : decode cX1_push 40 = .ok (.getfield 15, 3) := by decide +kernel
theorem dX1_push_43 : decode cX1_push 43 = .ok (.iconst 1, 1) := by decide +kernel
theorem dX1_push_44 : decode cX1_push 44 = .ok (.iadd, 1) := by decide +kernel
theorem dX1_push_45 : decode cX1_push 45 = .ok (.aload_n 0, 1) := by decide +kernel
theorem dX1_push_46 : decode cX1_push 46 = .ok (.getfield 24, 3) := by decide +kernel
theorem dX1_push_49 : decode cX1_push 49 = .ok (.arraylength, 1) := by decide +kernel
theorem dX1_push_50 : decode cX1_push 50 = .ok (.invokestatic 28, 3) := by decide +kernel
theorem dX1_push_53 : decode cX1_push 53 = .ok (.putfield 15, 3) := by decide +kernel
theorem dX1_push_56 : decode cX1_push 56 = .ok (.return_, 1) := by decide +kernel
theorem dX1_back_0 : decode cX1_back 0 = .ok (.iload_n 1, 1) := by decide +kernel
theorem dX1_back_1 : decode cX1_back 1 = .ok (.ifCond .lt 11, 3) := by decide +kernel
theorem dX1_back_4 : decode cX1_back 4 = .ok (.iload_n 1, 1) := by decide +kernel
theorem dX1_back_5 : decode cX1_back 5 = .ok (.aload_n 0, 1) := by decide +kernel
theorem dX1_back_6 : decode cX1_back 6 = .ok (.getfield 15, 3) := by decide +kernel
theorem dX1_back_9 : decode cX1_back 9 = .ok (.if_icmp .lt 6, 3) := by decide +kernel
theorem dX1_back_12 : decode cX1_back 12 = .ok (.bipush (-9), 2) := by decide +kernel
theorem dX1_back_14 : decode cX1_back 14 = .ok (.ireturn, 1) := by decide +kernel
theorem dX1_back_15 : decode cX1_back 15 = .ok (.aload_n 0, 1) := by decide +kernel
theorem dX1_back_16 : decode cX1_back 16 = .ok (.getfield 9, 3) := by decide +kernel
theorem dX1_back_19 : decode cX1_back 19 = .ok (.iload_n 1, 1) := by decide +kernel
theorem dX1_back_20 : decode cX1_back 20 = .ok (.isub, 1) := by decide +kernel
theorem dX1_back_21 : decode cX1_back 21 = .ok (.istore_n 2, 1) := by decide +kernel
theorem dX1_back_22 : decode cX1_back 22 = .ok (.aload_n 0, 1) := by decide +kernel
theorem dX1_back_23 : decode cX1_back 23 = .ok (.getfield 24, 3) := by decide +kernel
theorem dX1_back_26 : decode cX1_back 26 = .ok (.iload_n 2, 1) := by decide +kernel
theorem dX1_back_27 : decode cX1_back 27 = .ok (.ifCond .lt 7, 3) := by decide +kernel
theorem dX1_back_30 : decode cX1_back 30 = .ok (.iload_n 2, 1) := by decide +kernel
theorem dX1_back_31 : decode cX1_back 31 = .ok (.goto 10, 3) := by decide +kernel
theorem dX1_back_34 : decode cX1_back 34 = .ok (.iload_n 2, 1) := by decide +kernel
theorem dX1_back_35 : decode cX1_back 35 = .ok (.aload_n 0, 1) := by decide +kernel
theorem dX1_back_36 : decode cX1_back 36 = .ok (.getfield 24, 3) := by decide +kernel
theorem dX1_back_39 : decode cX1_back 39 = .ok (.arraylength, 1) := by decide +kernel
theorem dX1_back_40 : decode cX1_back 40 = .ok (.iadd, 1) := by decide +kernel
theorem dX1_back_41 : decode cX1_back 41 = .ok (.iaload, 1) := by decide +kernel
theorem dX1_back_42 : decode cX1_back 42 = .ok (.ireturn, 1) := by decide +kernel
theorem dX1_longestRunOf_0 : decode cX1_longestRunOf 0 = .ok (.iconst 0, 1) := by decide +kernel
theorem dX1_longestRunOf_1 : decode cX1_longestRunOf 1 = .ok (.istore_n 2, 1) := by decide +kernel
theorem dX1_longestRunOf_2 : decode cX1_longestRunOf 2 = .ok (.iconst 0, 1) := by decide +kernel
theorem dX1_longestRunOf_3 : decode cX1_longestRunOf 3 = .ok (.istore_n 3, 1) := by decide +kernel
theorem dX1_longestRunOf_4 : decode cX1_longestRunOf 4 = .ok (.iconst 0, 1) := by decide +kernel
theorem dX1_longestRunOf_5 : decode cX1_longestRunOf 5 = .ok (.istore 4, 2) := by decide +kernel
theorem dX1_longestRunOf_7 : decode cX1_longestRunOf 7 = .ok (.iload 4, 2) := by decide +kernel
theorem dX1_longestRunOf_9 : decode cX1_longestRunOf 9 = .ok (.aload_n 0, 1) := by decide +kernel
theorem dX1_longestRunOf_10 : decode cX1_longestRunOf 10 = .ok (.getfield 15, 3) := by decide +kernel
theorem dX1_longestRunOf_13 : decode cX1_longestRunOf 13 = .ok (.if_icmp .ge 33, 3) := by decide +kernel
theorem dX1_longestRunOf_16 : decode cX1_longestRunOf 16 = .ok (.aload_n 0, 1) := by decide +kernel
theorem dX1_longestRunOf_17 : decode cX1_longestRunOf 17 = .ok (.iload 4, 2) := by decide +kernel
theorem dX1_longestRunOf_19 : decode cX1_longestRunOf 19 = .ok (.invokevirtual 31, 3) := by decide +kernel
theorem dX1_longestRunOf_22 : decode cX1_longestRunOf 22 = .ok (.iload_n 1, 1) := by decide +kernel
theorem dX1_longestRunOf_23 : decode cX1_longestRunOf 23 = .ok (.if_icmp .ne 9, 3) := by decide +kernel
theorem dX1_longestRunOf_26 : decode cX1_longestRunOf 26 = .ok (.iload_n 3, 1) := by decide +kernel
theorem dX1_longestRunOf_27 : decode cX1_longestRunOf 27 = .ok (.iconst 1, 1) := by decide +kernel
theorem dX1_longestRunOf_28 : decode cX1_longestRunOf 28 = .ok (.iadd, 1) := by decide +kernel
theorem dX1_longestRunOf_29 : decode cX1_longestRunOf 29 = .ok (.goto 4, 3) := by decide +kernel
theorem dX1_longestRunOf_32 : decode cX1_longestRunOf 32 = .ok (.iconst 0, 1) := by decide +kernel
theorem dX1_longestRunOf_33 : decode cX1_longestRunOf 33 = .ok (.istore_n 3, 1) := by decide +kernel
theorem dX1_longestRunOf_34 : decode cX1_longestRunOf 34 = .ok (.iload_n 2, 1) := by decide +kernel
theorem dX1_longestRunOf_35 : decode cX1_longestRunOf 35 = .ok (.iload_n 3, 1) := by decide +kernel
theorem dX1_longestRunOf_36 : decode cX1_longestRunOf 36 = .ok (.invokestatic 18, 3) := by decide +kernel
theorem dX1_longestRunOf_39 : decode cX1_longestRunOf 39 = .ok (.istore_n 2, 1) := by decide +kernel
theorem dX1_longestRunOf_40 : decode cX1_longestRunOf 40 = .ok (.iinc 4 1, 3) := by decide +kernel
theorem dX1_longestRunOf_43 : decode cX1_longestRunOf 43 = .ok (.goto (-36), 3) := by decide +kernel
theorem dX1_longestRunOf_46 : decode cX1_longestRunOf 46 = .ok (.iload_n 2, 1) := by decide +kernel
theorem dX1_longestRunOf_47 : decode cX1_longestRunOf 47 = .ok (.ireturn, 1) := by decide +kernel
theorem dX1_placesOf_0 : decode cX1_placesOf 0 = .ok (.iconst 0, 1) := by decide +kernel
theorem dX1_placesOf_1 : decode cX1_placesOf 1 = .ok (.istore_n 3, 1) := by decide +kernel
theorem dX1_placesOf_2 : decode cX1_placesOf 2 = .ok (.iconst 0, 1) := by decide +kernel
theorem dX1_placesOf_3 : decode cX1_placesOf 3 = .ok (.istore 4, 2) := by decide +kernel
theorem dX1_placesOf_5 : decode cX1_placesOf 5 = .ok (.iload 4, 2) := by decide +kernel
theorem dX1_placesOf_7 : decode cX1_placesOf 7 = .ok (.iload_n 1, 1) := by decide +kernel
theorem dX1_placesOf_8 : decode cX1_placesOf 8 = .ok (.iadd, 1) := by decide +kernel
theorem dX1_placesOf_9 : decode cX1_placesOf 9 = .ok (.aload_n 0, 1) := by decide +kernel
theorem dX1_placesOf_10 : decode cX1_placesOf 10 = .ok (.getfield 15, 3) := by decide +kernel
theorem dX1_placesOf_13 : decode cX1_placesOf 13 = .ok (.if_icmp .gt 23, 3) := by decide +kernel
theorem dX1_placesOf_16 : decode cX1_placesOf 16 = .ok (.aload_n 0, 1) := by decide +kernel
theorem dX1_placesOf_17 : decode cX1_placesOf 17 = .ok (.iload 4, 2) := by decide +kernel
theorem dX1_placesOf_19 : decode cX1_placesOf 19 = .ok (.iload_n 1, 1) := by decide +kernel
theorem dX1_placesOf_20 : decode cX1_placesOf 20 = .ok (.iload_n 2, 1) := by decide +kernel
theorem dX1_placesOf_21 : decode cX1_placesOf 21 = .ok (.invokevirtual 35, 3) := by decide +kernel
theorem dX1_placesOf_24 : decode cX1_placesOf 24 = .ok (.ifCond .eq 6, 3) := by decide +kernel
theorem dX1_placesOf_27 : decode cX1_placesOf 27 = .ok (.iinc 3 1, 3) := by decide +kernel
theorem dX1_placesOf_30 : decode cX1_placesOf 30 = .ok (.iinc 4 1, 3) := by decide +kernel
theorem dX1_placesOf_33 : decode cX1_placesOf 33 = .ok (.goto (-28), 3) := by decide +kernel
theorem dX1_placesOf_36 : decode cX1_placesOf 36 = .ok (.iload_n 3, 1) := by decide +kernel
theorem dX1_placesOf_37 : decode cX1_placesOf 37 = .ok (.ireturn, 1) := by decide +kernel
theorem dX1_standsAt_0 : decode cX1_standsAt 0 = .ok (.iload_n 3, 1) := by decide +kernel
theorem dX1_standsAt_1 : decode cX1_standsAt 1 = .ok (.istore 4, 2) := by decide +kernel
theorem dX1_standsAt_3 : decode cX1_standsAt 3 = .ok (.iconst 0, 1) := by decide +kernel
theorem dX1_standsAt_4 : decode cX1_standsAt 4 = .ok (.istore 5, 2) := by decide +kernel
theorem dX1_standsAt_6 : decode cX1_standsAt 6 = .ok (.iload 5, 2) := by decide +kernel
theorem dX1_standsAt_8 : decode cX1_standsAt 8 = .ok (.iload_n 2, 1) := by decide +kernel
theorem dX1_standsAt_9 : decode cX1_standsAt 9 = .ok (.if_icmp .ge 34, 3) := by decide +kernel
theorem dX1_standsAt_12 : decode cX1_standsAt 12 = .ok (.aload_n 0, 1) := by decide +kernel
theorem dX1_standsAt_13 : decode cX1_standsAt 13 = .ok (.iload_n 1, 1) := by decide +kernel
theorem dX1_standsAt_14 : decode cX1_standsAt 14 = .ok (.iload 5, 2) := by decide +kernel
theorem dX1_standsAt_16 : decode cX1_standsAt 16 = .ok (.iadd, 1) := by decide +kernel
theorem dX1_standsAt_17 : decode cX1_standsAt 17 = .ok (.invokevirtual 31, 3) := by decide +kernel
theorem dX1_standsAt_20 : decode cX1_standsAt 20 = .ok (.iload 4, 2) := by decide +kernel
theorem dX1_standsAt_22 : decode cX1_standsAt 22 = .ok (.bipush 10, 2) := by decide +kernel
theorem dX1_standsAt_24 : decode cX1_standsAt 24 = .ok (.irem, 1) := by decide +kernel
theorem dX1_standsAt_25 : decode cX1_standsAt 25 = .ok (.if_icmp .eq 5, 3) := by decide +kernel
theorem dX1_standsAt_28 : decode cX1_standsAt 28 = .ok (.iconst 0, 1) := by decide +kernel
theorem dX1_standsAt_29 : decode cX1_standsAt 29 = .ok (.ireturn, 1) := by decide +kernel
theorem dX1_standsAt_30 : decode cX1_standsAt 30 = .ok (.iload 4, 2) := by decide +kernel
theorem dX1_standsAt_32 : decode cX1_standsAt 32 = .ok (.bipush 10, 2) := by decide +kernel
theorem dX1_standsAt_34 : decode cX1_standsAt 34 = .ok (.idiv, 1) := by decide +kernel
theorem dX1_standsAt_35 : decode cX1_standsAt 35 = .ok (.istore 4, 2) := by decide +kernel
theorem dX1_standsAt_37 : decode cX1_standsAt 37 = .ok (.iinc 5 1, 3) := by decide +kernel
theorem dX1_standsAt_40 : decode cX1_standsAt 40 = .ok (.goto (-34), 3) := by decide +kernel
theorem dX1_standsAt_43 : decode cX1_standsAt 43 = .ok (.iconst 1, 1) := by decide +kernel
theorem dX1_standsAt_44 : decode cX1_standsAt 44 = .ok (.ireturn, 1) := by decide +kernel
theorem dX1_copyFrom_0 : decode cX1_copyFrom 0 = .ok (.aload_n 1, 1) := by decide +kernel
theorem dX1_copyFrom_1 : decode cX1_copyFrom 1 = .ok (.getfield 24, 3) := by decide +kernel
theorem dX1_copyFrom_4 : decode cX1_copyFrom 4 = .ok (.aload_n 0, 1) := by decide +kernel
theorem dX1_copyFrom_5 : decode cX1_copyFrom 5 = .ok (.getfield 24, 3) := by decide +kernel
theorem dX1_copyFrom_8 : decode cX1_copyFrom 8 = .ok (.invokestatic 39, 3) := by decide +kernel
theorem dX1_copyFrom_11 : decode cX1_copyFrom 11 = .ok (.aload_n 0, 1) := by decide +kernel
theorem dX1_copyFrom_12 : decode cX1_copyFrom 12 = .ok (.aload_n 1, 1) := by decide +kernel
theorem dX1_copyFrom_13 : decode cX1_copyFrom 13 = .ok (.getfield 9, 3) := by decide +kernel
theorem dX1_copyFrom_16 : decode cX1_copyFrom 16 = .ok (.putfield 9, 3) := by decide +kernel
theorem dX1_copyFrom_19 : decode cX1_copyFrom 19 = .ok (.aload_n 0, 1) := by decide +kernel
theorem dX1_copyFrom_20 : decode cX1_copyFrom 20 = .ok (.aload_n 1, 1) := by decide +kernel
theorem dX1_copyFrom_21 : decode cX1_copyFrom 21 = .ok (.getfield 15, 3) := by decide +kernel
theorem dX1_copyFrom_24 : decode cX1_copyFrom 24 = .ok (.putfield 15, 3) := by decide +kernel
theorem dX1_copyFrom_27 : decode cX1_copyFrom 27 = .ok (.return_, 1) := by decide +kernel
theorem dX2_init_0 : decode cX2_init 0 = .ok (.aload_n 0, 1) := by decide +kernel
theorem dX2_init_1 : decode cX2_init 1 = .ok (.invokespecial 3, 3) := by decide +kernel
theorem dX2_init_4 : decode cX2_init 4 = .ok (.aload_n 0, 1) := by decide +kernel
theorem dX2_init_5 : decode cX2_init 5 = .ok (.iconst 0, 1) := by decide +kernel
theorem dX2_init_6 : decode cX2_init 6 = .ok (.putfield 9, 3) := by decide +kernel
theorem dX2_init_9 : decode cX2_init 9 = .ok (.aload_n 0, 1) := by decide +kernel
theorem dX2_init_10 : decode cX2_init 10 = .ok (.iconst 5, 1) := by decide +kernel
theorem dX2_init_11 : decode cX2_init 11 = .ok (.newarray .int, 2) := by decide +kernel
theorem dX2_init_13 : decode cX2_init 13 = .ok (.dup, 1) := by decide +kernel
theorem dX2_init_14 : decode cX2_init 14 = .ok (.iconst 0, 1) := by decide +kernel
theorem dX2_init_15 : decode cX2_init 15 = .ok (.iconst 0, 1) := by decide +kernel
theorem dX2_init_16 : decode cX2_init 16 = .ok (.iastore, 1) := by decide +kernel
theorem dX2_init_17 : decode cX2_init 17 = .ok (.dup, 1) := by decide +kernel
theorem dX2_init_18 : decode cX2_init 18 = .ok (.iconst 1, 1) := by decide +kernel
theorem dX2_init_19 : decode cX2_init 19 = .ok (.iconst 3, 1) := by decide +kernel
theorem dX2_init_20 : decode cX2_init 20 = .ok (.iastore, 1) := by decide +kernel
theorem dX2_init_21 : decode cX2_init 21 = .ok (.dup, 1) := by decide +kernel
theorem dX2_init_22 : decode cX2_init 22 = .ok (.iconst 2, 1) := by decide +kernel
theorem dX2_init_23 : decode cX2_init 23 = .ok (.iconst 4, 1) := by decide +kernel
theorem dX2_init_24 : decode cX2_init 24 = .ok (.iastore, 1) := by decide +kernel
theorem dX2_init_25 : decode cX2_init 25 = .ok (.dup, 1) := by decide +kernel
theorem dX2_init_26 : decode cX2_init 26 = .ok (.iconst 3, 1) := by decide +kernel
theorem dX2_init_27 : decode cX2_init 27 = .ok (.bipush 20, 2) := by decide +kernel
theorem dX2_init_29 : decode cX2_init 29 = .ok (.iastore, 1) := by decide +kernel
theorem dX2_init_30 : decode cX2_init 30 = .ok (.dup, 1) := by decide +kernel
theorem dX2_init_31 : decode cX2_init 31 = .ok (.iconst 4, 1) := by decide +kernel
theorem dX2_init_32 : decode cX2_init 32 = .ok (.sipush 3000, 3) := by decide +kernel
theorem dX2_init_35 : decode cX2_init 35 = .ok (.iastore, 1) := by decide +kernel
theorem dX2_init_36 : decode cX2_init 36 = .ok (.putfield 15, 3) := by decide +kernel
theorem dX2_init_39 : decode cX2_init 39 = .ok (.aload_n 0, 1) := by decide +kernel
theorem dX2_init_40 : decode cX2_init 40 = .ok (.bipush 8, 2) := by decide +kernel
theorem dX2_init_42 : decode cX2_init 42 = .ok (.newarray .int, 2) := by decide +kernel
theorem dX2_init_44 : decode cX2_init 44 = .ok (.dup, 1) := by decide +kernel
theorem dX2_init_45 : decode cX2_init 45 = .ok (.iconst 0, 1) := by decide +kernel
theorem dX2_init_46 : decode cX2_init 46 = .ok (.iconst 0, 1) := by decide +kernel
theorem dX2_init_47 : decode cX2_init 47 = .ok (.iastore, 1) := by decide +kernel
theorem dX2_init_48 : decode cX2_init 48 = .ok (.dup, 1) := by decide +kernel
theorem dX2_init_49 : decode cX2_init 49 = .ok (.iconst 1, 1) := by decide +kernel
theorem dX2_init_50 : decode cX2_init 50 = .ok (.bipush 100, 2) := by decide +kernel
theorem dX2_init_52 : decode cX2_init 52 = .ok (.iastore, 1) := by decide +kernel
theorem dX2_init_53 : decode cX2_init 53 = .ok (.dup, 1) := by decide +kernel
theorem dX2_init_54 : decode cX2_init 54 = .ok (.iconst 2, 1) := by decide +kernel
theorem dX2_init_55 : decode cX2_init 55 = .ok (.sipush 225, 3) := by decide +kernel
theorem dX2_init_58 : decode cX2_init 58 = .ok (.iastore, 1) := by decide +kernel
theorem dX2_init_59 : decode cX2_init 59 = .ok (.dup, 1) := by decide +kernel
theorem dX2_init_60 : decode cX2_init 60 = .ok (.iconst 3, 1) := by decide +kernel
theorem dX2_init_61 : decode cX2_init 61 = .ok (.sipush 400, 3) := by decide +kernel
theorem dX2_init_64 : decode cX2_init 64 = .ok (.iastore, 1) := by decide +kernel
theorem dX2_init_65 : decode cX2_init 65 = .ok (.dup, 1) := by decide +kernel
theorem dX2_init_66 : decode cX2_init 66 = .ok (.iconst 4, 1) := by decide +kernel
theorem dX2_init_67 : decode cX2_init 67 = .ok (.sipush 900, 3) := by decide +kernel
theorem dX2_init_70 : decode cX2_init 70 = .ok (.iastore, 1) := by decide +kernel
theorem dX2_init_71 : decode cX2_init 71 = .ok (.dup, 1) := by decide +kernel
theorem dX2_init_72 : decode cX2_init 72 = .ok (.iconst 5, 1) := by decide +kernel
theorem dX2_init_73 : decode cX2_init 73 = .ok (.sipush 1600, 3) := by decide +kernel
theorem dX2_init_76 : decode cX2_init 76 = .ok (.iastore, 1) := by decide +kernel
theorem dX2_init_77 : decode cX2_init 77 = .ok (.dup, 1) := by decide +kernel
theorem dX2_init_78 : decode cX2_init 78 = .ok (.bipush 6, 2) := by decide +kernel
theorem dX2_init_80 : decode cX2_init 80 = .ok (.sipush 2500, 3) := by decide +kernel
theorem dX2_init_83 : decode cX2_init 83 = .ok (.iastore, 1) := by decide +kernel
theorem dX2_init_84 : decode cX2_init 84 = .ok (.dup, 1) := by decide +kernel
theorem dX2_init_85 : decode cX2_init 85 = .ok (.bipush 7, 2) := by decide +kernel
theorem dX2_init_87 : decode cX2_init 87 = .ok (.sipush 3600, 3) := by decide +kernel
theorem dX2_init_90 : decode cX2_init 90 = .ok (.iastore, 1) := by decide +kernel
theorem dX2_init_91 : decode cX2_init 91 = .ok (.putfield 19, 3) := by decide +kernel
theorem dX2_init_94 : decode cX2_init 94 = .ok (.aload_n 0, 1) := by decide +kernel
theorem dX2_init_95 : decode cX2_init 95 = .ok (.iconst 0, 1) := by decide +kernel
theorem dX2_init_96 : decode cX2_init 96 = .ok (.putfield 22, 3) := by decide +kernel
theorem dX2_init_99 : decode cX2_init 99 = .ok (.aload_n 0, 1) := by decide +kernel
theorem dX2_init_100 : decode cX2_init 100 = .ok (.iconst 0, 1) := by decide +kernel
theorem dX2_init_101 : decode cX2_init 101 = .ok (.putfield 26, 3) := by decide +kernel
theorem dX2_init_104 : decode cX2_init 104 = .ok (.aload_n 0, 1) := by decide +kernel
theorem dX2_init_105 : decode cX2_init 105 = .ok (.iconst 0, 1) := by decide +kernel
theorem dX2_init_106 : decode cX2_init 106 = .ok (.putfield 29, 3) := by decide +kernel
theorem dX2_init_109 : decode cX2_init 109 = .ok (.aload_n 0, 1) := by decide +kernel
theorem dX2_init_110 : decode cX2_init 110 = .ok (.iconst 0, 1) := by decide +kernel
theorem dX2_init_111 : decode cX2_init 111 = .ok (.putfield 32, 3) := by decide +kernel
theorem dX2_init_114 : decode cX2_init 114 = .ok (.aload_n 0, 1) := by decide +kernel
theorem dX2_init_115 : decode cX2_init 115 = .ok (.iconst 0, 1) := by decide +kernel
theorem dX2_init_116 : decode cX2_init 116 = .ok (.putfield 35, 3) := by decide +kernel
theorem dX2_init_119 : decode cX2_init 119 = .ok (.aload_n 0, 1) := by decide +kernel
theorem dX2_init_120 : decode cX2_init 120 = .ok (.iconst 0, 1) := by decide +kernel
theorem dX2_init_121 : decode cX2_init 121 = .ok (.putfield 38, 3) := by decide +kernel
theorem dX2_init_124 : decode cX2_init 124 = .ok (.aload_n 0, 1) := by decide +kernel
theorem dX2_init_125 : decode cX2_init 125 = .ok (.bipush 8, 2) := by decide +kernel
theorem dX2_init_127 : decode cX2_init 127 = .ok (.newarray .int, 2) := by decide +kernel
theorem dX2_init_129 : decode cX2_init 129 = .ok (.putfield 41, 3) := by decide +kernel
theorem dX2_init_132 : decode cX2_init 132 = .ok (.aload_n 0, 1) := by decide +kernel
theorem dX2_init_133 : decode cX2_init 133 = .ok (.bipush 8, 2) := by decide +kernel
theorem dX2_init_135 : decode cX2_init 135 = .ok (.newarray .int, 2) := by decide +kernel
theorem dX2_init_137 : decode cX2_init 137 = .ok (.putfield 44, 3) := by decide +kernel
theorem dX2_init_140 : decode cX2_init 140 = .ok (.aload_n 0, 1) := by decide +kernel
theorem dX2_init_141 : decode cX2_init 141 = .ok (.bipush 8, 2) := by decide +kernel
theorem dX2_init_143 : decode cX2_init 143 = .ok (.newarray .int, 2) := by decide +kernel
theorem dX2_init_145 : decode cX2_init 145 = .ok (.putfield 47, 3) := by decide +kernel
theorem dX2_init_148 : decode cX2_init 148 = .ok (.return_, 1) := by decide +kernel
theorem dX2_strengthOf_0 : decode cX2_strengthOf 0 = .ok (.iload_n 1, 1) := by decide +kernel
theorem dX2_strengthOf_1 : decode cX2_strengthOf 1 = .ok (.iload_n 1, 1) := by decide +kernel
theorem dX2_strengthOf_2 : decode cX2_strengthOf 2 = .ok (.imul, 1) := by decide +kernel
theorem dX2_strengthOf_3 : decode cX2_strengthOf 3 = .ok (.bipush 100, 2) := by decide +kernel
theorem dX2_strengthOf_5 : decode cX2_strengthOf 5 = .ok (.iconst 2, 1) := by decide +kernel
theorem dX2_strengthOf_6 : decode cX2_strengthOf 6 = .ok (.aload_n 0, 1) := by decide +kernel
theorem dX2_strengthOf_7 : decode cX2_strengthOf 7 = .ok (.getfield 15, 3) := by decide +kernel
theorem dX2_strengthOf_10 : decode cX2_strengthOf 10 = .ok (.iconst 0, 1) := by decide +kernel
theorem dX2_strengthOf_11 : decode cX2_strengthOf 11 = .ok (.iaload, 1) := by decide +kernel
theorem dX2_strengthOf_12 : decode cX2_strengthOf 12 = .ok (.imul, 1) := by decide +kernel
theorem dX2_strengthOf_13 : decode cX2_strengthOf 13 = .ok (.isub, 1) := by decide +kernel
theorem dX2_strengthOf_14 : decode cX2_strengthOf 14 = .ok (.imul, 1) := by decide +kernel
theorem dX2_strengthOf_15 : decode cX2_strengthOf 15 = .ok (.bipush 100, 2) := by decide +kernel
theorem dX2_strengthOf_17 : decode cX2_strengthOf 17 = .ok (.idiv, 1) := by decide +kernel
theorem dX2_strengthOf_18 : decode cX2_strengthOf 18 = .ok (.ireturn, 1) := by decide +kernel
theorem dX2_levelAt_0 : decode cX2_levelAt 0 = .ok (.aload_n 0, 1) := by decide +kernel
theorem dX2_levelAt_1 : decode cX2_levelAt 1 = .ok (.getfield 15, 3) := by decide +kernel
theorem dX2_levelAt_4 : decode cX2_levelAt 4 = .ok (.iconst 2, 1) := by decide +kernel
theorem dX2_levelAt_5 : decode cX2_levelAt 5 = .ok (.iaload, 1) := by decide +kernel
theorem dX2_levelAt_6 : decode cX2_levelAt 6 = .ok (.istore_n 2, 1) := by decide +kernel
theorem dX2_levelAt_7 : decode cX2_levelAt 7 = .ok (.aload_n 0, 1) := by decide +kernel
theorem dX2_levelAt_8 : decode cX2_levelAt 8 = .ok (.getfield 22, 3) := by decide +kernel
theorem dX2_levelAt_11 : decode cX2_levelAt 11 = .ok (.ifCond .eq 8, 3) := by decide +kernel
theorem dX2_levelAt_14 : decode cX2_levelAt 14 = .ok (.iload_n 2, 1) := by decide +kernel
theorem dX2_levelAt_15 : decode cX2_levelAt 15 = .ok (.iconst 1, 1) := by decide +kernel
theorem dX2_levelAt_16 : decode cX2_levelAt 16 = .ok (.if_icmp .ge 5, 3) := by decide +kernel
theorem dX2_levelAt_19 : decode cX2_levelAt 19 = .ok (.iconst 0, 1) := by decide +kernel
theorem dX2_levelAt_20 : decode cX2_levelAt 20 = .ok (.ireturn, 1) := by decide +kernel
theorem dX2_levelAt_21 : decode cX2_levelAt 21 = .ok (.iload_n 1, 1) := by decide +kernel
theorem dX2_levelAt_22 : decode cX2_levelAt 22 = .ok (.aload_n 0, 1) := by decide +kernel
theorem dX2_levelAt_23 : decode cX2_levelAt 23 = .ok (.getfield 26, 3) := by decide +kernel
theorem dX2_levelAt_26 : decode cX2_levelAt 26 = .ok (.isub, 1) := by decide +kernel
theorem dX2_levelAt_27 : decode cX2_levelAt 27 = .ok (.iload_n 2, 1) := by decide +kernel
theorem dX2_levelAt_28 : decode cX2_levelAt 28 = .ok (.idiv, 1) := by decide +kernel
theorem dX2_levelAt_29 : decode cX2_levelAt 29 = .ok (.istore_n 3, 1) := by decide +kernel
theorem dX2_levelAt_30 : decode cX2_levelAt 30 = .ok (.iload_n 3, 1) := by decide +kernel
theorem dX2_levelAt_31 : decode cX2_levelAt 31 = .ok (.iconst 0, 1) := by decide +kernel
theorem dX2_levelAt_32 : decode cX2_levelAt 32 = .ok (.bipush 13, 2) := by decide +kernel
theorem dX2_levelAt_34 : decode cX2_levelAt 34 = .ok (.invokestatic 50, 3) := by decide +kernel
theorem dX2_levelAt_37 : decode cX2_levelAt 37 = .ok (.ifCond .eq 7, 3) := by decide +kernel
theorem dX2_levelAt_40 : decode cX2_levelAt 40 = .ok (.iconst 0, 1) := by decide +kernel
theorem dX2_levelAt_41 : decode cX2_levelAt 41 = .ok (.goto 9, 3) := by decide +kernel
theorem dX2_levelAt_44 : decode cX2_levelAt 44 = .ok (.aload_n 0, 1) := by decide +kernel
theorem dX2_levelAt_45 : decode cX2_levelAt 45 = .ok (.getfield 29, 3) := by decide +kernel
theorem dX2_levelAt_48 : decode cX2_levelAt 48 = .ok (.iload_n 3, 1) := by decide +kernel
theorem dX2_levelAt_49 : decode cX2_levelAt 49 = .ok (.ishr, 1) := by decide +kernel
theorem dX2_levelAt_50 : decode cX2_levelAt 50 = .ok (.ireturn, 1) := by decide +kernel
theorem dX2_fateOf_0 : decode cX2_fateOf 0 = .ok (.aload_n 0, 1) := by decide +kernel
theorem dX2_fateOf_1 : decode cX2_fateOf 1 = .ok (.getfield 32, 3) := by decide +kernel
theorem dX2_fateOf_4 : decode cX2_fateOf 4 = .ok (.ifCond .eq 20, 3) := by decide +kernel
theorem dX2_fateOf_7 : decode cX2_fateOf 7 = .ok (.iload_n 1, 1) := by decide +kernel
theorem dX2_fateOf_8 : decode cX2_fateOf 8 = .ok (.aload_n 0, 1) := by decide +kernel
theorem dX2_fateOf_9 : decode cX2_fateOf 9 = .ok (.getfield 26, 3) := by decide +kernel
theorem dX2_fateOf_12 : decode cX2_fateOf 12 = .ok (.isub, 1) := by decide +kernel
theorem dX2_fateOf_13 : decode cX2_fateOf 13 = .ok (.aload_n 0, 1) := by decide +kernel
theorem dX2_fateOf_14 : decode cX2_fateOf 14 = .ok (.getfield 15, 3) := by decide +kernel
theorem dX2_fateOf_17 : decode cX2_fateOf 17 = .ok (.iconst 1, 1) := by decide +kernel
theorem dX2_fateOf_18 : decode cX2_fateOf 18 = .ok (.iaload, 1) := by decide +kernel
theorem dX2_fateOf_19 : decode cX2_fateOf 19 = .ok (.if_icmp .ge 5, 3) := by decide +kernel
theorem dX2_fateOf_22 : decode cX2_fateOf 22 = .ok (.iconst 1, 1) := by decide +kernel
theorem dX2_fateOf_23 : decode cX2_fateOf 23 = .ok (.ireturn, 1) := by decide +kernel
theorem dX2_fateOf_24 : decode cX2_fateOf 24 = .ok (.iload_n 2, 1) := by decide +kernel
theorem dX2_fateOf_25 : decode cX2_fateOf 25 = .ok (.aload_n 0, 1) := by decide +kernel
theorem dX2_fateOf_26 : decode cX2_fateOf 26 = .ok (.getfield 15, 3) := by decide +kernel
theorem dX2_fateOf_29 : decode cX2_fateOf 29 = .ok (.iconst 3, 1) := by decide +kernel
theorem dX2_fateOf_30 : decode cX2_fateOf 30 = .ok (.iaload, 1) := by decide +kernel
theorem dX2_fateOf_31 : decode cX2_fateOf 31 = .ok (.if_icmp .ge 5, 3) := by decide +kernel
theorem dX2_fateOf_34 : decode cX2_fateOf 34 = .ok (.iconst 3, 1) := by decide +kernel
theorem dX2_fateOf_35 : decode cX2_fateOf 35 = .ok (.ireturn, 1) := by decide +kernel
theorem dX2_fateOf_36 : decode cX2_fateOf 36 = .ok (.aload_n 0, 1) := by decide +kernel
theorem dX2_fateOf_37 : decode cX2_fateOf 37 = .ok (.iload_n 1, 1) := by decide +kernel
theorem dX2_fateOf_38 : decode cX2_fateOf 38 = .ok (.invokevirtual 54, 3) := by decide +kernel
theorem dX2_fateOf_41 : decode cX2_fateOf 41 = .ok (.iload_n 2, 1) := by decide +kernel
theorem dX2_fateOf_42 : decode cX2_fateOf 42 = .ok (.if_icmp .le 7, 3) := by decide +kernel
theorem dX2_fateOf_45 : decode cX2_fateOf 45 = .ok (.iconst 2, 1) := by decide +kernel
theorem dX2_fateOf_46 : decode cX2_fateOf 46 = .ok (.goto 4, 3) := by decide +kernel
theorem dX2_fateOf_49 : decode cX2_fateOf 49 = .ok (.iconst 0, 1) := by decide +kernel
theorem dX2_fateOf_50 : decode cX2_fateOf 50 = .ok (.ireturn, 1) := by decide +kernel
theorem dX2_receive_0 : decode cX2_receive 0 = .ok (.aload_n 0, 1) := by decide +kernel
theorem dX2_receive_1 : decode cX2_receive 1 = .ok (.dup, 1) := by decide +kernel
theorem dX2_receive_2 : decode cX2_receive 2 = .ok (.getfield 9, 3) := by decide +kernel
theorem dX2_receive_5 : decode cX2_receive 5 = .ok (.iload_n 1, 1) := by decide +kernel
theorem dX2_receive_6 : decode cX2_receive 6 = .ok (.iadd, 1) := by decide +kernel
theorem dX2_receive_7 : decode cX2_receive 7 = .ok (.putfield 9, 3) := by decide +kernel
theorem dX2_receive_10 : decode cX2_receive 10 = .ok (.aload_n 0, 1) := by decide +kernel
theorem dX2_receive_11 : decode cX2_receive 11 = .ok (.iload_n 2, 1) := by decide +kernel
theorem dX2_receive_12 : decode cX2_receive 12 = .ok (.invokevirtual 58, 3) := by decide +kernel
theorem dX2_receive_15 : decode cX2_receive 15 = .ok (.istore_n 3, 1) := by decide +kernel
theorem dX2_receive_16 : decode cX2_receive 16 = .ok (.aload_n 0, 1) := by decide +kernel
theorem dX2_receive_17 : decode cX2_receive 17 = .ok (.aload_n 0, 1) := by decide +kernel
theorem dX2_receive_18 : decode cX2_receive 18 = .ok (.getfield 9, 3) := by decide +kernel
theorem dX2_receive_21 : decode cX2_receive 21 = .ok (.iload_n 3, 1) := by decide +kernel
theorem dX2_receive_22 : decode cX2_receive 22 = .ok (.invokevirtual 61, 3) := by decide +kernel
theorem dX2_receive_25 : decode cX2_receive 25 = .ok (.istore 4, 2) := by decide +kernel
theorem dX2_receive_27 : decode cX2_receive 27 = .ok (.iload 4, 2) := by decide +kernel
theorem dX2_receive_29 : decode cX2_receive 29 = .ok (.iconst 1, 1) := by decide +kernel
theorem dX2_receive_30 : decode cX2_receive 30 = .ok (.if_icmp .ne 26, 3) := by decide +kernel
theorem dX2_receive_33 : decode cX2_receive 33 = .ok (.aload_n 0, 1) := by decide +kernel
theorem dX2_receive_34 : decode cX2_receive 34 = .ok (.aload_n 0, 1) := by decide +kernel
theorem dX2_receive_35 : decode cX2_receive 35 = .ok (.getfield 29, 3) := by decide +kernel
theorem dX2_receive_38 : decode cX2_receive 38 = .ok (.iload_n 3, 1) := by decide +kernel
theorem dX2_receive_39 : decode cX2_receive 39 = .ok (.iadd, 1) := by decide +kernel
theorem dX2_receive_40 : decode cX2_receive 40 = .ok (.invokevirtual 65, 3) := by decide +kernel
theorem dX2_receive_43 : decode cX2_receive 43 = .ok (.aload_n 0, 1) := by decide +kernel
theorem dX2_receive_44 : decode cX2_receive 44 = .ok (.dup, 1) := by decide +kernel
theorem dX2_receive_45 : decode cX2_receive 45 = .ok (.getfield 35, 3) := by decide +kernel
theorem dX2_receive_48 : decode cX2_receive 48 = .ok (.iconst 1, 1) := by decide +kernel
theorem dX2_receive_49 : decode cX2_receive 49 = .ok (.iadd, 1) := by decide +kernel
theorem dX2_receive_50 : decode cX2_receive 50 = .ok (.putfield 35, 3) := by decide +kernel
theorem dX2_receive_53 : decode cX2_receive 53 = .ok (.iload 4, 2) := by decide +kernel
theorem dX2_receive_55 : decode cX2_receive 55 = .ok (.ireturn, 1) := by decide +kernel
theorem dX2_receive_56 : decode cX2_receive 56 = .ok (.aload_n 0, 1) := by decide +kernel
theorem dX2_receive_57 : decode cX2_receive 57 = .ok (.invokevirtual 69, 3) := by decide +kernel
theorem dX2_receive_60 : decode cX2_receive 60 = .ok (.iload 4, 2) := by decide +kernel
theorem dX2_receive_62 : decode cX2_receive 62 = .ok (.ifCond .ne 19, 3) := by decide +kernel
theorem dX2_receive_65 : decode cX2_receive 65 = .ok (.aload_n 0, 1) := by decide +kernel
theorem dX2_receive_66 : decode cX2_receive 66 = .ok (.iload_n 3, 1) := by decide +kernel
theorem dX2_receive_67 : decode cX2_receive 67 = .ok (.aload_n 0, 1) := by decide +kernel
theorem dX2_receive_68 : decode cX2_receive 68 = .ok (.aload_n 0, 1) := by decide +kernel
theorem dX2_receive_69 : decode cX2_receive 69 = .ok (.getfield 9, 3) := by decide +kernel
theorem dX2_receive_72 : decode cX2_receive 72 = .ok (.invokevirtual 54, 3) := by decide +kernel
theorem dX2_receive_75 : decode cX2_receive 75 = .ok (.iconst 2, 1) := by decide +kernel
theorem dX2_receive_76 : decode cX2_receive 76 = .ok (.idiv, 1) := by decide +kernel
theorem dX2_receive_77 : decode cX2_receive 77 = .ok (.iadd, 1) := by decide +kernel
theorem dX2_receive_78 : decode cX2_receive 78 = .ok (.invokevirtual 72, 3) := by decide +kernel
theorem dX2_receive_81 : decode cX2_receive 81 = .ok (.iload 4, 2) := by decide +kernel
theorem dX2_receive_83 : decode cX2_receive 83 = .ok (.ireturn, 1) := by decide +kernel
theorem dX2_letPass_0 : decode cX2_letPass 0 = .ok (.aload_n 0, 1) := by decide +kernel
theorem dX2_letPass_1 : decode cX2_letPass 1 = .ok (.dup, 1) := by decide +kernel
theorem dX2_letPass_2 : decode cX2_letPass 2 = .ok (.getfield 9, 3) := by decide +kernel
theorem dX2_letPass_5 : decode cX2_letPass 5 = .ok (.iload_n 1, 1) := by decide +kernel
theorem dX2_letPass_6 : decode cX2_letPass 6 = .ok (.iadd, 1) := by decide +kernel
theorem dX2_letPass_7 : decode cX2_letPass 7 = .ok (.putfield 9, 3) := by decide +kernel
theorem dX2_letPass_10 : decode cX2_letPass 10 = .ok (.aload_n 0, 1) := by decide +kernel
theorem dX2_letPass_11 : decode cX2_letPass 11 = .ok (.getfield 32, 3) := by decide +kernel
theorem dX2_letPass_14 : decode cX2_letPass 14 = .ok (.ifCond .eq 25, 3) := by decide +kernel
theorem dX2_letPass_17 : decode cX2_letPass 17 = .ok (.aload_n 0, 1) := by decide +kernel
theorem dX2_letPass_18 : decode cX2_letPass 18 = .ok (.getfield 9, 3) := by decide +kernel
theorem dX2_letPass_21 : decode cX2_letPass 21 = .ok (.aload_n 0, 1) := by decide +kernel
theorem dX2_letPass_22 : decode cX2_letPass 22 = .ok (.getfield 26, 3) := by decide +kernel
theorem dX2_letPass_25 : decode cX2_letPass 25 = .ok (.isub, 1) := by decide +kernel
theorem dX2_letPass_26 : decode cX2_letPass 26 = .ok (.aload_n 0, 1) := by decide +kernel
theorem dX2_letPass_27 : decode cX2_letPass 27 = .ok (.getfield 15, 3) := by decide +kernel
theorem dX2_letPass_30 : decode cX2_letPass 30 = .ok (.iconst 1, 1) := by decide +kernel
theorem dX2_letPass_31 : decode cX2_letPass 31 = .ok (.iaload, 1) := by decide +kernel
theorem dX2_letPass_32 : decode cX2_letPass 32 = .ok (.if_icmp .lt 7, 3) := by decide +kernel
theorem dX2_letPass_35 : decode cX2_letPass 35 = .ok (.aload_n 0, 1) := by decide +kernel
theorem dX2_letPass_36 : decode cX2_letPass 36 = .ok (.invokevirtual 69, 3) := by decide +kernel
theorem dX2_letPass_39 : decode cX2_letPass 39 = .ok (.return_, 1) := by decide +kernel
theorem dX2_openPulse_0 : decode cX2_openPulse 0 = .ok (.aload_n 0, 1) := by decide +kernel
theorem dX2_openPulse_1 : decode cX2_openPulse 1 = .ok (.iconst 1, 1) := by decide +kernel
theorem dX2_openPulse_2 : decode cX2_openPulse 2 = .ok (.putfield 22, 3) := by decide +kernel
theorem dX2_openPulse_5 : decode cX2_openPulse 5 = .ok (.aload_n 0, 1) := by decide +kernel
theorem dX2_openPulse_6 : decode cX2_openPulse 6 = .ok (.aload_n 0, 1) := by decide +kernel
theorem dX2_openPulse_7 : decode cX2_openPulse 7 = .ok (.getfield 9, 3) := by decide +kernel
theorem dX2_openPulse_10 : decode cX2_openPulse 10 = .ok (.putfield 26, 3) := by decide +kernel
theorem dX2_openPulse_13 : decode cX2_openPulse 13 = .ok (.aload_n 0, 1) := by decide +kernel
theorem dX2_openPulse_14 : decode cX2_openPulse 14 = .ok (.iconst 1, 1) := by decide +kernel
theorem dX2_openPulse_15 : decode cX2_openPulse 15 = .ok (.putfield 32, 3) := by decide +kernel
theorem dX2_openPulse_18 : decode cX2_openPulse 18 = .ok (.aload_n 0, 1) := by decide +kernel
theorem dX2_openPulse_19 : decode cX2_openPulse 19 = .ok (.iconst 1, 1) := by decide +kernel
theorem dX2_openPulse_20 : decode cX2_openPulse 20 = .ok (.putfield 35, 3) := by decide +kernel
theorem dX2_openPulse_23 : decode cX2_openPulse 23 = .ok (.aload_n 0, 1) := by decide +kernel
theorem dX2_openPulse_24 : decode cX2_openPulse 24 = .ok (.iconst 0, 1) := by decide +kernel
theorem dX2_openPulse_25 : decode cX2_openPulse 25 = .ok (.putfield 38, 3) := by decide +kernel
theorem dX2_openPulse_28 : decode cX2_openPulse 28 = .ok (.aload_n 0, 1) := by decide +kernel
theorem dX2_openPulse_29 : decode cX2_openPulse 29 = .ok (.iload_n 1, 1) := by decide +kernel
theorem dX2_openPulse_30 : decode cX2_openPulse 30 = .ok (.invokevirtual 65, 3) := by decide +kernel
theorem dX2_openPulse_33 : decode cX2_openPulse 33 = .ok (.return_, 1) := by decide +kernel
theorem dX2_strike_0 : decode cX2_strike 0 = .ok (.aload_n 0, 1) := by decide +kernel
theorem dX2_strike_1 : decode cX2_strike 1 = .ok (.iload_n 1, 1) := by decide +kernel
theorem dX2_strike_2 : decode cX2_strike 2 = .ok (.putfield 29, 3) := by decide +kernel
theorem dX2_strike_5 : decode cX2_strike 5 = .ok (.aload_n 0, 1) := by decide +kernel
theorem dX2_strike_6 : decode cX2_strike 6 = .ok (.getfield 29, 3) := by decide +kernel
theorem dX2_strike_9 : decode cX2_strike 9 = .ok (.aload_n 0, 1) := by decide +kernel
theorem dX2_strike_10 : decode cX2_strike 10 = .ok (.getfield 15, 3) := by decide +kernel
theorem dX2_strike_13 : decode cX2_strike 13 = .ok (.iconst 4, 1) := by decide +kernel
theorem dX2_strike_14 : decode cX2_strike 14 = .ok (.iaload, 1) := by decide +kernel
theorem dX2_strike_15 : decode cX2_strike 15 = .ok (.if_icmp .le 18, 3) := by decide +kernel
theorem dX2_strike_18 : decode cX2_strike 18 = .ok (.aload_n 0, 1) := by decide +kernel
theorem dX2_strike_19 : decode cX2_strike 19 = .ok (.aload_n 0, 1) := by decide +kernel
theorem dX2_strike_20 : decode cX2_strike 20 = .ok (.getfield 15, 3) := by decide +kernel
theorem dX2_strike_23 : decode cX2_strike 23 = .ok (.iconst 4, 1) := by decide +kernel
theorem dX2_strike_24 : decode cX2_strike 24 = .ok (.iaload, 1) := by decide +kernel
theorem dX2_strike_25 : decode cX2_strike 25 = .ok (.putfield 29, 3) := by decide +kernel
theorem dX2_strike_28 : decode cX2_strike 28 = .ok (.aload_n 0, 1) := by decide +kernel
theorem dX2_strike_29 : decode cX2_strike 29 = .ok (.iconst 1, 1) := by decide +kernel
theorem dX2_strike_30 : decode cX2_strike 30 = .ok (.putfield 38, 3) := by decide +kernel
theorem dX2_strike_33 : decode cX2_strike 33 = .ok (.return_, 1) := by decide +kernel
theorem dX2_closePulse_0 : decode cX2_closePulse 0 = .ok (.aload_n 0, 1) := by decide +kernel
theorem dX2_closePulse_1 : decode cX2_closePulse 1 = .ok (.getfield 32, 3) := by decide +kernel
theorem dX2_closePulse_4 : decode cX2_closePulse 4 = .ok (.ifCond .ne 4, 3) := by decide +kernel
theorem dX2_closePulse_7 : decode cX2_closePulse 7 = .ok (.return_, 1) := by decide +kernel
theorem dX2_closePulse_8 : decode cX2_closePulse 8 = .ok (.aload_n 0, 1) := by decide +kernel
theorem dX2_closePulse_9 : decode cX2_closePulse 9 = .ok (.aload_n 0, 1) := by decide +kernel
theorem dX2_closePulse_10 : decode cX2_closePulse 10 = .ok (.getfield 29, 3) := by decide +kernel
theorem dX2_closePulse_13 : decode cX2_closePulse 13 = .ok (.invokevirtual 75, 3) := by decide +kernel
theorem dX2_closePulse_16 : decode cX2_closePulse 16 = .ok (.istore_n 1, 1) := by decide +kernel
theorem dX2_closePulse_17 : decode cX2_closePulse 17 = .ok (.aload_n 0, 1) := by decide +kernel
theorem dX2_closePulse_18 : decode cX2_closePulse 18 = .ok (.getfield 41, 3) := by decide +kernel
theorem dX2_closePulse_21 : decode cX2_closePulse 21 = .ok (.iload_n 1, 1) := by decide +kernel
theorem dX2_closePulse_22 : decode cX2_closePulse 22 = .ok (.dup2, 1) := by decide +kernel
theorem dX2_closePulse_23 : decode cX2_closePulse 23 = .ok (.iaload, 1) := by decide +kernel
theorem dX2_closePulse_24 : decode cX2_closePulse 24 = .ok (.iconst 1, 1) := by decide +kernel
theorem dX2_closePulse_25 : decode cX2_closePulse 25 = .ok (.iadd, 1) := by decide +kernel
theorem dX2_closePulse_26 : decode cX2_closePulse 26 = .ok (.iastore, 1) := by decide +kernel
theorem dX2_closePulse_27 : decode cX2_closePulse 27 = .ok (.aload_n 0, 1) := by decide +kernel
theorem dX2_closePulse_28 : decode cX2_closePulse 28 = .ok (.getfield 47, 3) := by decide +kernel
theorem dX2_closePulse_31 : decode cX2_closePulse 31 = .ok (.iload_n 1, 1) := by decide +kernel
theorem dX2_closePulse_32 : decode cX2_closePulse 32 = .ok (.dup2, 1) := by decide +kernel
theorem dX2_closePulse_33 : decode cX2_closePulse 33 = .ok (.iaload, 1) := by decide +kernel
theorem dX2_closePulse_34 : decode cX2_closePulse 34 = .ok (.aload_n 0, 1) := by decide +kernel
theorem dX2_closePulse_35 : decode cX2_closePulse 35 = .ok (.getfield 35, 3) := by decide +kernel
theorem dX2_closePulse_38 : decode cX2_closePulse 38 = .ok (.iadd, 1) := by decide +kernel
theorem dX2_closePulse_39 : decode cX2_closePulse 39 = .ok (.iastore, 1) := by decide +kernel
theorem dX2_closePulse_40 : decode cX2_closePulse 40 = .ok (.aload_n 0, 1) := by decide +kernel
theorem dX2_closePulse_41 : decode cX2_closePulse 41 = .ok (.getfield 38, 3) := by decide +kernel
theorem dX2_closePulse_44 : decode cX2_closePulse 44 = .ok (.ifCond .eq 13, 3) := by decide +kernel
theorem dX2_closePulse_47 : decode cX2_closePulse 47 = .ok (.aload_n 0, 1) := by decide +kernel
theorem dX2_closePulse_48 : decode cX2_closePulse 48 = .ok (.getfield 44, 3) := by decide +kernel
theorem dX2_closePulse_51 : decode cX2_closePulse 51 = .ok (.iload_n 1, 1) := by decide +kernel
theorem dX2_closePulse_52 : decode cX2_closePulse 52 = .ok (.dup2, 1) := by decide +kernel
theorem dX2_closePulse_53 : decode cX2_closePulse 53 = .ok (.iaload, 1) := by decide +kernel
theorem dX2_closePulse_54 : decode cX2_closePulse 54 = .ok (.iconst 1, 1) := by decide +kernel
theorem dX2_closePulse_55 : decode cX2_closePulse 55 = .ok (.iadd, 1) := by decide +kernel
theorem dX2_closePulse_56 : decode cX2_closePulse 56 = .ok (.iastore, 1) := by decide +kernel
theorem dX2_closePulse_57 : decode cX2_closePulse 57 = .ok (.aload_n 0, 1) := by decide +kernel
theorem dX2_closePulse_58 : decode cX2_closePulse 58 = .ok (.iconst 0, 1) := by decide +kernel
theorem dX2_closePulse_59 : decode cX2_closePulse 59 = .ok (.putfield 32, 3) := by decide +kernel
theorem dX2_closePulse_62 : decode cX2_closePulse 62 = .ok (.return_, 1) := by decide +kernel
theorem dX2_binOf_0 : decode cX2_binOf 0 = .ok (.bipush 7, 2) := by decide +kernel
theorem dX2_binOf_2 : decode cX2_binOf 2 = .ok (.istore_n 2, 1) := by decide +kernel
theorem dX2_binOf_3 : decode cX2_binOf 3 = .ok (.iload_n 2, 1) := by decide +kernel
theorem dX2_binOf_4 : decode cX2_binOf 4 = .ok (.ifCond .le 21, 3) := by decide +kernel
theorem dX2_binOf_7 : decode cX2_binOf 7 = .ok (.aload_n 0, 1) := by decide +kernel
theorem dX2_binOf_8 : decode cX2_binOf 8 = .ok (.getfield 19, 3) := by decide +kernel
theorem dX2_binOf_11 : decode cX2_binOf 11 = .ok (.iload_n 2, 1) := by decide +kernel
theorem dX2_binOf_12 : decode cX2_binOf 12 = .ok (.iaload, 1) := by decide +kernel
theorem dX2_binOf_13 : decode cX2_binOf 13 = .ok (.iload_n 1, 1) := by decide +kernel
theorem dX2_binOf_14 : decode cX2_binOf 14 = .ok (.if_icmp .gt 5, 3) := by decide +kernel
theorem dX2_binOf_17 : decode cX2_binOf 17 = .ok (.iload_n 2, 1) := by decide +kernel
theorem dX2_binOf_18 : decode cX2_binOf 18 = .ok (.ireturn, 1) := by decide +kernel
theorem dX2_binOf_19 : decode cX2_binOf 19 = .ok (.iinc 2 (-1), 3) := by decide +kernel
theorem dX2_binOf_22 : decode cX2_binOf 22 = .ok (.goto (-19), 3) := by decide +kernel
theorem dX2_binOf_25 : decode cX2_binOf 25 = .ok (.iconst 0, 1) := by decide +kernel
theorem dX2_binOf_26 : decode cX2_binOf 26 = .ok (.ireturn, 1) := by decide +kernel
theorem dX2_lowerEnd_0 : decode cX2_lowerEnd 0 = .ok (.aload_n 0, 1) := by decide +kernel
theorem dX2_lowerEnd_1 : decode cX2_lowerEnd 1 = .ok (.getfield 19, 3) := by decide +kernel
theorem dX2_lowerEnd_4 : decode cX2_lowerEnd 4 = .ok (.iload_n 1, 1) := by decide +kernel
theorem dX2_lowerEnd_5 : decode cX2_lowerEnd 5 = .ok (.iaload, 1) := by decide +kernel
theorem dX2_lowerEnd_6 : decode cX2_lowerEnd 6 = .ok (.ireturn, 1) := by decide +kernel
theorem dX2_upperEnd_0 : decode cX2_upperEnd 0 = .ok (.iload_n 1, 1) := by decide +kernel
theorem dX2_upperEnd_1 : decode cX2_upperEnd 1 = .ok (.bipush 7, 2) := by decide +kernel
theorem dX2_upperEnd_3 : decode cX2_upperEnd 3 = .ok (.if_icmp .ge 16, 3) := by decide +kernel
theorem dX2_upperEnd_6 : decode cX2_upperEnd 6 = .ok (.aload_n 0, 1) := by decide +kernel
theorem dX2_upperEnd_7 : decode cX2_upperEnd 7 = .ok (.getfield 19, 3) := by decide +kernel
theorem dX2_upperEnd_10 : decode cX2_upperEnd 10 = .ok (.iload_n 1, 1) := by decide +kernel
theorem dX2_upperEnd_11 : decode cX2_upperEnd 11 = .ok (.iconst 1, 1) := by decide +kernel
theorem dX2_upperEnd_12 : decode cX2_upperEnd 12 = .ok (.iadd, 1) := by decide +kernel
theorem dX2_upperEnd_13 : decode cX2_upperEnd 13 = .ok (.iaload, 1) := by decide +kernel
theorem dX2_upperEnd_14 : decode cX2_upperEnd 14 = .ok (.iconst 1, 1) := by decide +kernel
theorem dX2_upperEnd_15 : decode cX2_upperEnd 15 = .ok (.isub, 1) := by decide +kernel
theorem dX2_upperEnd_16 : decode cX2_upperEnd 16 = .ok (.goto 6, 3) := by decide +kernel
theorem dX2_upperEnd_19 : decode cX2_upperEnd 19 = .ok (.sipush 5000, 3) := by decide +kernel
theorem dX2_upperEnd_22 : decode cX2_upperEnd 22 = .ok (.ireturn, 1) := by decide +kernel
theorem dX2_wouldAscend_0 : decode cX2_wouldAscend 0 = .ok (.aload_n 0, 1) := by decide +kernel
theorem dX2_wouldAscend_1 : decode cX2_wouldAscend 1 = .ok (.getfield 19, 3) := by decide +kernel
theorem dX2_wouldAscend_4 : decode cX2_wouldAscend 4 = .ok (.iload_n 1, 1) := by decide +kernel
theorem dX2_wouldAscend_5 : decode cX2_wouldAscend 5 = .ok (.iconst 1, 1) := by decide +kernel
theorem dX2_wouldAscend_6 : decode cX2_wouldAscend 6 = .ok (.isub, 1) := by decide +kernel
theorem dX2_wouldAscend_7 : decode cX2_wouldAscend 7 = .ok (.iaload, 1) := by decide +kernel
theorem dX2_wouldAscend_8 : decode cX2_wouldAscend 8 = .ok (.iload_n 2, 1) := by decide +kernel
theorem dX2_wouldAscend_9 : decode cX2_wouldAscend 9 = .ok (.if_icmp .ge 25, 3) := by decide +kernel
theorem dX2_wouldAscend_12 : decode cX2_wouldAscend 12 = .ok (.iload_n 1, 1) := by decide +kernel
theorem dX2_wouldAscend_13 : decode cX2_wouldAscend 13 = .ok (.bipush 7, 2) := by decide +kernel
theorem dX2_wouldAscend_15 : decode cX2_wouldAscend 15 = .ok (.if_icmp .eq 15, 3) := by decide +kernel
theorem dX2_wouldAscend_18 : decode cX2_wouldAscend 18 = .ok (.iload_n 2, 1) := by decide +kernel
theorem dX2_wouldAscend_19 : decode cX2_wouldAscend 19 = .ok (.aload_n 0, 1) := by decide +kernel
theorem dX2_wouldAscend_20 : decode cX2_wouldAscend 20 = .ok (.getfield 19, 3) := by decide +kernel
theorem dX2_wouldAscend_23 : decode cX2_wouldAscend 23 = .ok (.iload_n 1, 1) := by decide +kernel
theorem dX2_wouldAscend_24 : decode cX2_wouldAscend 24 = .ok (.iconst 1, 1) := by decide +kernel
theorem dX2_wouldAscend_25 : decode cX2_wouldAscend 25 = .ok (.iadd, 1) := by decide +kernel
theorem dX2_wouldAscend_26 : decode cX2_wouldAscend 26 = .ok (.iaload, 1) := by decide +kernel
theorem dX2_wouldAscend_27 : decode cX2_wouldAscend 27 = .ok (.if_icmp .ge 7, 3) := by decide +kernel
theorem dX2_wouldAscend_30 : decode cX2_wouldAscend 30 = .ok (.iconst 1, 1) := by decide +kernel
theorem dX2_wouldAscend_31 : decode cX2_wouldAscend 31 = .ok (.goto 4, 3) := by decide +kernel
theorem dX2_wouldAscend_34 : decode cX2_wouldAscend 34 = .ok (.iconst 0, 1) := by decide +kernel
theorem dX2_wouldAscend_35 : decode cX2_wouldAscend 35 = .ok (.ireturn, 1) := by decide +kernel
theorem dX2_emptyBins_0 : decode cX2_emptyBins 0 = .ok (.aload_n 0, 1) := by decide +kernel
theorem dX2_emptyBins_1 : decode cX2_emptyBins 1 = .ok (.getfield 41, 3) := by decide +kernel
theorem dX2_emptyBins_4 : decode cX2_emptyBins 4 = .ok (.invokestatic 78, 3) := by decide +kernel
theorem dX2_emptyBins_7 : decode cX2_emptyBins 7 = .ok (.aload_n 0, 1) := by decide +kernel
theorem dX2_emptyBins_8 : decode cX2_emptyBins 8 = .ok (.getfield 44, 3) := by decide +kernel
theorem dX2_emptyBins_11 : decode cX2_emptyBins 11 = .ok (.invokestatic 78, 3) := by decide +kernel
theorem dX2_emptyBins_14 : decode cX2_emptyBins 14 = .ok (.aload_n 0, 1) := by decide +kernel
theorem dX2_emptyBins_15 : decode cX2_emptyBins 15 = .ok (.getfield 47, 3) := by decide +kernel
theorem dX2_emptyBins_18 : decode cX2_emptyBins 18 = .ok (.invokestatic 78, 3) := by decide +kernel
theorem dX2_emptyBins_21 : decode cX2_emptyBins 21 = .ok (.return_, 1) := by decide +kernel
theorem dX2_reckonedRain_0 : decode cX2_reckonedRain 0 = .ok (.lconst 0, 1) := by decide +kernel
theorem dX2_reckonedRain_1 : decode cX2_reckonedRain 1 = .ok (.lstore_n 2, 1) := by decide +kernel
theorem dX2_reckonedRain_2 : decode cX2_reckonedRain 2 = .ok (.iconst 0, 1) := by decide +kernel
theorem dX2_reckonedRain_3 : decode cX2_reckonedRain 3 = .ok (.istore 4, 2) := by decide +kernel
theorem dX2_reckonedRain_5 : decode cX2_reckonedRain 5 = .ok (.iload 4, 2) := by decide +kernel
theorem dX2_reckonedRain_7 : decode cX2_reckonedRain 7 = .ok (.bipush 7, 2) := by decide +kernel
theorem dX2_reckonedRain_9 : decode cX2_reckonedRain 9 = .ok (.if_icmp .gt 34, 3) := by decide +kernel
theorem dX2_reckonedRain_12 : decode cX2_reckonedRain 12 = .ok (.lload_n 2, 1) := by decide +kernel
theorem dX2_reckonedRain_13 : decode cX2_reckonedRain 13 = .ok (.aload_n 0, 1) := by decide +kernel
theorem dX2_reckonedRain_14 : decode cX2_reckonedRain 14 = .ok (.getfield 41, 3) := by decide +kernel
theorem dX2_reckonedRain_17 : decode cX2_reckonedRain 17 = .ok (.iload 4, 2) := by decide +kernel
theorem dX2_reckonedRain_19 : decode cX2_reckonedRain 19 = .ok (.iaload, 1) := by decide +kernel
theorem dX2_reckonedRain_20 : decode cX2_reckonedRain 20 = .ok (.i2l, 1) := by decide +kernel
theorem dX2_reckonedRain_21 : decode cX2_reckonedRain 21 = .ok (.aload_n 0, 1) := by decide +kernel
theorem dX2_reckonedRain_22 : decode cX2_reckonedRain 22 = .ok (.iload 4, 2) := by decide +kernel
theorem dX2_reckonedRain_24 : decode cX2_reckonedRain 24 = .ok (.iload_n 1, 1) := by decide +kernel
theorem dX2_reckonedRain_25 : decode cX2_reckonedRain 25 = .ok (.invokevirtual 82, 3) := by decide +kernel
theorem dX2_reckonedRain_28 : decode cX2_reckonedRain 28 = .ok (.invokestatic 85, 3) := by decide +kernel
theorem dX2_reckonedRain_31 : decode cX2_reckonedRain 31 = .ok (.invokestatic 88, 3) := by decide +kernel
theorem dX2_reckonedRain_34 : decode cX2_reckonedRain 34 = .ok (.lmul, 1) := by decide +kernel
theorem dX2_reckonedRain_35 : decode cX2_reckonedRain 35 = .ok (.ladd, 1) := by decide +kernel
theorem dX2_reckonedRain_36 : decode cX2_reckonedRain 36 = .ok (.lstore_n 2, 1) := by decide +kernel
theorem dX2_reckonedRain_37 : decode cX2_reckonedRain 37 = .ok (.iinc 4 1, 3) := by decide +kernel
theorem dX2_reckonedRain_40 : decode cX2_reckonedRain 40 = .ok (.goto (-35), 3) := by decide +kernel
theorem dX2_reckonedRain_43 : decode cX2_reckonedRain 43 = .ok (.lload_n 2, 1) := by decide +kernel
theorem dX2_reckonedRain_44 : decode cX2_reckonedRain 44 = .ok (.lreturn, 1) := by decide +kernel
theorem dX2_endByLaw_0 : decode cX2_endByLaw 0 = .ok (.iload_n 2, 1) := by decide +kernel
theorem dX2_endByLaw_1 : decode cX2_endByLaw 1 = .ok (.lookupswitch 47 #[(0, 27), (1, 33)], 27) := by decide +kernel
theorem dX2_endByLaw_28 : decode cX2_endByLaw 28 = .ok (.aload_n 0, 1) := by decide +kernel
theorem dX2_endByLaw_29 : decode cX2_endByLaw 29 = .ok (.iload_n 1, 1) := by decide +kernel
theorem dX2_endByLaw_30 : decode cX2_endByLaw 30 = .ok (.invokevirtual 92, 3) := by decide +kernel
theorem dX2_endByLaw_33 : decode cX2_endByLaw 33 = .ok (.ireturn, 1) := by decide +kernel
theorem dX2_endByLaw_34 : decode cX2_endByLaw 34 = .ok (.aload_n 0, 1) := by decide +kernel
theorem dX2_endByLaw_35 : decode cX2_endByLaw 35 = .ok (.iload_n 1, 1) := by decide +kernel
theorem dX2_endByLaw_36 : decode cX2_endByLaw 36 = .ok (.invokevirtual 92, 3) := by decide +kernel
theorem dX2_endByLaw_39 : decode cX2_endByLaw 39 = .ok (.aload_n 0, 1) := by decide +kernel
theorem dX2_endByLaw_40 : decode cX2_endByLaw 40 = .ok (.iload_n 1, 1) := by decide +kernel
theorem dX2_endByLaw_41 : decode cX2_endByLaw 41 = .ok (.invokevirtual 95, 3) := by decide +kernel
theorem dX2_endByLaw_44 : decode cX2_endByLaw 44 = .ok (.iadd, 1) := by decide +kernel
theorem dX2_endByLaw_45 : decode cX2_endByLaw 45 = .ok (.iconst 2, 1) := by decide +kernel
theorem dX2_endByLaw_46 : decode cX2_endByLaw 46 = .ok (.idiv, 1) := by decide +kernel
theorem dX2_endByLaw_47 : decode cX2_endByLaw 47 = .ok (.ireturn, 1) := by decide +kernel
theorem dX2_endByLaw_48 : decode cX2_endByLaw 48 = .ok (.aload_n 0, 1) := by decide +kernel
theorem dX2_endByLaw_49 : decode cX2_endByLaw 49 = .ok (.iload_n 1, 1) := by decide +kernel
theorem dX2_endByLaw_50 : decode cX2_endByLaw 50 = .ok (.invokevirtual 95, 3) := by decide +kernel
theorem dX2_endByLaw_53 : decode cX2_endByLaw 53 = .ok (.ireturn, 1) := by decide +kernel
theorem dX2_copySetupFrom_0 : decode cX2_copySetupFrom 0 = .ok (.aload_n 1, 1) := by decide +kernel
theorem dX2_copySetupFrom_1 : decode cX2_copySetupFrom 1 = .ok (.getfield 15, 3) := by decide +kernel
theorem dX2_copySetupFrom_4 : decode cX2_copySetupFrom 4 = .ok (.aload_n 0, 1) := by decide +kernel
theorem dX2_copySetupFrom_5 : decode cX2_copySetupFrom 5 = .ok (.getfield 15, 3) := by decide +kernel
theorem dX2_copySetupFrom_8 : decode cX2_copySetupFrom 8 = .ok (.invokestatic 98, 3) := by decide +kernel
theorem dX2_copySetupFrom_11 : decode cX2_copySetupFrom 11 = .ok (.aload_n 1, 1) := by decide +kernel
theorem dX2_copySetupFrom_12 : decode cX2_copySetupFrom 12 = .ok (.getfield 19, 3) := by decide +kernel
theorem dX2_copySetupFrom_15 : decode cX2_copySetupFrom 15 = .ok (.aload_n 0, 1) := by decide +kernel
theorem dX2_copySetupFrom_16 : decode cX2_copySetupFrom 16 = .ok (.getfield 19, 3) := by decide +kernel
theorem dX2_copySetupFrom_19 : decode cX2_copySetupFrom 19 = .ok (.invokestatic 98, 3) := by decide +kernel
theorem dX2_copySetupFrom_22 : decode cX2_copySetupFrom 22 = .ok (.return_, 1) := by decide +kernel
theorem dX2_copyFrom_0 : decode cX2_copyFrom 0 = .ok (.aload_n 0, 1) := by decide +kernel
theorem dX2_copyFrom_1 : decode cX2_copyFrom 1 = .ok (.aload_n 1, 1) := by decide +kernel
theorem dX2_copyFrom_2 : decode cX2_copyFrom 2 = .ok (.invokevirtual 102, 3) := by decide +kernel
theorem dX2_copyFrom_5 : decode cX2_copyFrom 5 = .ok (.aload_n 0, 1) := by decide +kernel
theorem dX2_copyFrom_6 : decode cX2_copyFrom 6 = .ok (.aload_n 1, 1) := by decide +kernel
theorem dX2_copyFrom_7 : decode cX2_copyFrom 7 = .ok (.getfield 9, 3) := by decide +kernel
theorem dX2_copyFrom_10 : decode cX2_copyFrom 10 = .ok (.putfield 9, 3) := by decide +kernel
theorem dX2_copyFrom_13 : decode cX2_copyFrom 13 = .ok (.aload_n 0, 1) := by decide +kernel
theorem dX2_copyFrom_14 : decode cX2_copyFrom 14 = .ok (.aload_n 1, 1) := by decide +kernel
theorem dX2_copyFrom_15 : decode cX2_copyFrom 15 = .ok (.getfield 22, 3) := by decide +kernel
theorem dX2_copyFrom_18 : decode cX2_copyFrom 18 = .ok (.putfield 22, 3) := by decide +kernel
theorem dX2_copyFrom_21 : decode cX2_copyFrom 21 = .ok (.aload_n 0, 1) := by decide +kernel
theorem dX2_copyFrom_22 : decode cX2_copyFrom 22 = .ok (.aload_n 1, 1) := by decide +kernel
theorem dX2_copyFrom_23 : decode cX2_copyFrom 23 = .ok (.getfield 26, 3) := by decide +kernel
theorem dX2_copyFrom_26 : decode cX2_copyFrom 26 = .ok (.putfield 26, 3) := by decide +kernel
theorem dX2_copyFrom_29 : decode cX2_copyFrom 29 = .ok (.aload_n 0, 1) := by decide +kernel
theorem dX2_copyFrom_30 : decode cX2_copyFrom 30 = .ok (.aload_n 1, 1) := by decide +kernel
theorem dX2_copyFrom_31 : decode cX2_copyFrom 31 = .ok (.getfield 29, 3) := by decide +kernel
theorem dX2_copyFrom_34 : decode cX2_copyFrom 34 = .ok (.putfield 29, 3) := by decide +kernel
theorem dX2_copyFrom_37 : decode cX2_copyFrom 37 = .ok (.aload_n 0, 1) := by decide +kernel
theorem dX2_copyFrom_38 : decode cX2_copyFrom 38 = .ok (.aload_n 1, 1) := by decide +kernel
theorem dX2_copyFrom_39 : decode cX2_copyFrom 39 = .ok (.getfield 32, 3) := by decide +kernel
theorem dX2_copyFrom_42 : decode cX2_copyFrom 42 = .ok (.putfield 32, 3) := by decide +kernel
theorem dX2_copyFrom_45 : decode cX2_copyFrom 45 = .ok (.aload_n 0, 1) := by decide +kernel
theorem dX2_copyFrom_46 : decode cX2_copyFrom 46 = .ok (.aload_n 1, 1) := by decide +kernel
theorem dX2_copyFrom_47 : decode cX2_copyFrom 47 = .ok (.getfield 35, 3) := by decide +kernel
theorem dX2_copyFrom_50 : decode cX2_copyFrom 50 = .ok (.putfield 35, 3) := by decide +kernel
theorem dX2_copyFrom_53 : decode cX2_copyFrom 53 = .ok (.aload_n 0, 1) := by decide +kernel
theorem dX2_copyFrom_54 : decode cX2_copyFrom 54 = .ok (.aload_n 1, 1) := by decide +kernel
theorem dX2_copyFrom_55 : decode cX2_copyFrom 55 = .ok (.getfield 38, 3) := by decide +kernel
theorem dX2_copyFrom_58 : decode cX2_copyFrom 58 = .ok (.putfield 38, 3) := by decide +kernel
theorem dX2_copyFrom_61 : decode cX2_copyFrom 61 = .ok (.aload_n 1, 1) := by decide +kernel
theorem dX2_copyFrom_62 : decode cX2_copyFrom 62 = .ok (.getfield 41, 3) := by decide +kernel
theorem dX2_copyFrom_65 : decode cX2_copyFrom 65 = .ok (.aload_n 0, 1) := by decide +kernel
theorem dX2_copyFrom_66 : decode cX2_copyFrom 66 = .ok (.getfield 41, 3) := by decide +kernel
theorem dX2_copyFrom_69 : decode cX2_copyFrom 69 = .ok (.invokestatic 98, 3) := by decide +kernel
theorem dX2_copyFrom_72 : decode cX2_copyFrom 72 = .ok (.aload_n 1, 1) := by decide +kernel
theorem dX2_copyFrom_73 : decode cX2_copyFrom 73 = .ok (.getfield 44, 3) := by decide +kernel
theorem dX2_copyFrom_76 : decode cX2_copyFrom 76 = .ok (.aload_n 0, 1) := by decide +kernel
theorem dX2_copyFrom_77 : decode cX2_copyFrom 77 = .ok (.getfield 44, 3) := by decide +kernel
theorem dX2_copyFrom_80 : decode cX2_copyFrom 80 = .ok (.invokestatic 98, 3) := by decide +kernel
theorem dX2_copyFrom_83 : decode cX2_copyFrom 83 = .ok (.aload_n 1, 1) := by decide +kernel
theorem dX2_copyFrom_84 : decode cX2_copyFrom 84 = .ok (.getfield 47, 3) := by decide +kernel
theorem dX2_copyFrom_87 : decode cX2_copyFrom 87 = .ok (.aload_n 0, 1) := by decide +kernel
theorem dX2_copyFrom_88 : decode cX2_copyFrom 88 = .ok (.getfield 47, 3) := by decide +kernel
theorem dX2_copyFrom_91 : decode cX2_copyFrom 91 = .ok (.invokestatic 98, 3) := by decide +kernel
theorem dX2_copyFrom_94 : decode cX2_copyFrom 94 = .ok (.return_, 1) := by decide +kernel
theorem dX3_init_0 : decode cX3_init 0 = .ok (.aload_n 0, 1) := by decide +kernel
theorem dX3_init_1 : decode cX3_init 1 = .ok (.invokespecial 1, 3) := by decide +kernel
theorem dX3_init_4 : decode cX3_init 4 = .ok (.aload_n 0, 1) := by decide +kernel
theorem dX3_init_5 : decode cX3_init 5 = .ok (.new 7, 3) := by decide +kernel
theorem dX3_init_8 : decode cX3_init 8 = .ok (.dup, 1) := by decide +kernel
theorem dX3_init_9 : decode cX3_init 9 = .ok (.invokespecial 9, 3) := by decide +kernel
theorem dX3_init_12 : decode cX3_init 12 = .ok (.putfield 10, 3) := by decide +kernel
theorem dX3_init_15 : decode cX3_init 15 = .ok (.aload_n 0, 1) := by decide +kernel
theorem dX3_init_16 : decode cX3_init 16 = .ok (.new 16, 3) := by decide +kernel
theorem dX3_init_19 : decode cX3_init 19 = .ok (.dup, 1) := by decide +kernel
theorem dX3_init_20 : decode cX3_init 20 = .ok (.invokespecial 18, 3) := by decide +kernel
theorem dX3_init_23 : decode cX3_init 23 = .ok (.putfield 19, 3) := by decide +kernel
theorem dX3_init_26 : decode cX3_init 26 = .ok (.return_, 1) := by decide +kernel
theorem dX3_letFall_0 : decode cX3_letFall 0 = .ok (.aload_n 0, 1) := by decide +kernel
theorem dX3_letFall_1 : decode cX3_letFall 1 = .ok (.getfield 10, 3) := by decide +kernel
theorem dX3_letFall_4 : decode cX3_letFall 4 = .ok (.iload_n 1, 1) := by decide +kernel
theorem dX3_letFall_5 : decode cX3_letFall 5 = .ok (.iload_n 2, 1) := by decide +kernel
theorem dX3_letFall_6 : decode cX3_letFall 6 = .ok (.invokevirtual 23, 3) := by decide +kernel
theorem dX3_letFall_9 : decode cX3_letFall 9 = .ok (.istore_n 3, 1) := by decide +kernel
theorem dX3_letFall_10 : decode cX3_letFall 10 = .ok (.aload_n 0, 1) := by decide +kernel
theorem dX3_letFall_11 : decode cX3_letFall 11 = .ok (.getfield 19, 3) := by decide +kernel
theorem dX3_letFall_14 : decode cX3_letFall 14 = .ok (.aload_n 0, 1) := by decide +kernel
theorem dX3_letFall_15 : decode cX3_letFall 15 = .ok (.getfield 10, 3) := by decide +kernel
theorem dX3_letFall_18 : decode cX3_letFall 18 = .ok (.getfield 27, 3) := by decide +kernel
theorem dX3_letFall_21 : decode cX3_letFall 21 = .ok (.iload_n 2, 1) := by decide +kernel
theorem dX3_letFall_22 : decode cX3_letFall 22 = .ok (.iload_n 3, 1) := by decide +kernel
theorem dX3_letFall_23 : decode cX3_letFall 23 = .ok (.invokevirtual 31, 3) := by decide +kernel
theorem dX3_letFall_26 : decode cX3_letFall 26 = .ok (.iload_n 3, 1) := by decide +kernel
theorem dX3_letFall_27 : decode cX3_letFall 27 = .ok (.ireturn, 1) := by decide +kernel
theorem dX3_copyFrom_0 : decode cX3_copyFrom 0 = .ok (.aload_n 0, 1) := by decide +kernel
theorem dX3_copyFrom_1 : decode cX3_copyFrom 1 = .ok (.getfield 10, 3) := by decide +kernel
theorem dX3_copyFrom_4 : decode cX3_copyFrom 4 = .ok (.aload_n 1, 1) := by decide +kernel
theorem dX3_copyFrom_5 : decode cX3_copyFrom 5 = .ok (.getfield 10, 3) := by decide +kernel
theorem dX3_copyFrom_8 : decode cX3_copyFrom 8 = .ok (.invokevirtual 35, 3) := by decide +kernel
theorem dX3_copyFrom_11 : decode cX3_copyFrom 11 = .ok (.aload_n 0, 1) := by decide +kernel
theorem dX3_copyFrom_12 : decode cX3_copyFrom 12 = .ok (.getfield 19, 3) := by decide +kernel
theorem dX3_copyFrom_15 : decode cX3_copyFrom 15 = .ok (.aload_n 1, 1) := by decide +kernel
theorem dX3_copyFrom_16 : decode cX3_copyFrom 16 = .ok (.getfield 19, 3) := by decide +kernel
theorem dX3_copyFrom_19 : decode cX3_copyFrom 19 = .ok (.invokevirtual 39, 3) := by decide +kernel
theorem dX3_copyFrom_22 : decode cX3_copyFrom 22 = .ok (.return_, 1) := by decide +kernel
theorem dX4_init_0 : decode cX4_init 0 = .ok (.aload_n 0, 1) := by decide +kernel
theorem dX4_init_1 : decode cX4_init 1 = .ok (.invokespecial 3, 3) := by decide +kernel
theorem dX4_init_4 : decode cX4_init 4 = .ok (.aload_n 0, 1) := by decide +kernel
theorem dX4_init_5 : decode cX4_init 5 = .ok (.bipush 100, 2) := by decide +kernel
theorem dX4_init_7 : decode cX4_init 7 = .ok (.newarray .int, 2) := by decide +kernel
theorem dX4_init_9 : decode cX4_init 9 = .ok (.putfield 9, 3) := by decide +kernel
theorem dX4_init_12 : decode cX4_init 12 = .ok (.aload_n 0, 1) := by decide +kernel
theorem dX4_init_13 : decode cX4_init 13 = .ok (.iconst 0, 1) := by decide +kernel
theorem dX4_init_14 : decode cX4_init 14 = .ok (.putfield 15, 3) := by decide +kernel
theorem dX4_init_17 : decode cX4_init 17 = .ok (.return_, 1) := by decide +kernel
theorem dX4_isFull_0 : decode cX4_isFull 0 = .ok (.aload_n 0, 1) := by decide +kernel
theorem dX4_isFull_1 : decode cX4_isFull 1 = .ok (.getfield 15, 3) := by decide +kernel
theorem dX4_isFull_4 : decode cX4_isFull 4 = .ok (.aload_n 0, 1) := by decide +kernel
theorem dX4_isFull_5 : decode cX4_isFull 5 = .ok (.getfield 9, 3) := by decide +kernel
theorem dX4_isFull_8 : decode cX4_isFull 8 = .ok (.arraylength, 1) := by decide +kernel
theorem dX4_isFull_9 : decode cX4_isFull 9 = .ok (.if_icmp .lt 7, 3) := by decide +kernel
theorem dX4_isFull_12 : decode cX4_isFull 12 = .ok (.iconst 1, 1) := by decide +kernel
theorem dX4_isFull_13 : decode cX4_isFull 13 = .ok (.goto 4, 3) := by decide +kernel
theorem dX4_isFull_16 : decode cX4_isFull 16 = .ok (.iconst 0, 1) := by decide +kernel
theorem dX4_isFull_17 : decode cX4_isFull 17 = .ok (.ireturn, 1) := by decide +kernel
theorem dX4_add_0 : decode cX4_add 0 = .ok (.aload_n 0, 1) := by decide +kernel
theorem dX4_add_1 : decode cX4_add 1 = .ok (.invokevirtual 19, 3) := by decide +kernel
theorem dX4_add_4 : decode cX4_add 4 = .ok (.ifCond .ne 23, 3) := by decide +kernel
theorem dX4_add_7 : decode cX4_add 7 = .ok (.aload_n 0, 1) := by decide +kernel
theorem dX4_add_8 : decode cX4_add 8 = .ok (.getfield 9, 3) := by decide +kernel
theorem dX4_add_11 : decode cX4_add 11 = .ok (.aload_n 0, 1) := by decide +kernel
theorem dX4_add_12 : decode cX4_add 12 = .ok (.getfield 15, 3) := by decide +kernel
theorem dX4_add_15 : decode cX4_add 15 = .ok (.iload_n 1, 1) := by decide +kernel
theorem dX4_add_16 : decode cX4_add 16 = .ok (.iastore, 1) := by decide +kernel
theorem dX4_add_17 : decode cX4_add 17 = .ok (.aload_n 0, 1) := by decide +kernel
theorem dX4_add_18 : decode cX4_add 18 = .ok (.dup, 1) := by decide +kernel
theorem dX4_add_19 : decode cX4_add 19 = .ok (.getfield 15, 3) := by decide +kernel
theorem dX4_add_22 : decode cX4_add 22 = .ok (.iconst 1, 1) := by decide +kernel
theorem dX4_add_23 : decode cX4_add 23 = .ok (.iadd, 1) := by decide +kernel
theorem dX4_add_24 : decode cX4_add 24 = .ok (.putfield 15, 3) := by decide +kernel
theorem dX4_add_27 : decode cX4_add 27 = .ok (.aload_n 0, 1) := by decide +kernel
theorem dX4_add_28 : decode cX4_add 28 = .ok (.getfield 15, 3) := by decide +kernel
theorem dX4_add_31 : decode cX4_add 31 = .ok (.ireturn, 1) := by decide +kernel
theorem dX4_wipe_0 : decode cX4_wipe 0 = .ok (.aload_n 0, 1) := by decide +kernel
theorem dX4_wipe_1 : decode cX4_wipe 1 = .ok (.getfield 15, 3) := by decide +kernel
theorem dX4_wipe_4 : decode cX4_wipe 4 = .ok (.istore_n 1, 1) := by decide +kernel
theorem dX4_wipe_5 : decode cX4_wipe 5 = .ok (.aload_n 0, 1) := by decide +kernel
theorem dX4_wipe_6 : decode cX4_wipe 6 = .ok (.iconst 0, 1) := by decide +kernel
theorem dX4_wipe_7 : decode cX4_wipe 7 = .ok (.putfield 15, 3) := by decide +kernel
theorem dX4_wipe_10 : decode cX4_wipe 10 = .ok (.iload_n 1, 1) := by decide +kernel
theorem dX4_wipe_11 : decode cX4_wipe 11 = .ok (.ireturn, 1) := by decide +kernel
theorem dX4_signAt_0 : decode cX4_signAt 0 = .ok (.iload_n 1, 1) := by decide +kernel
theorem dX4_signAt_1 : decode cX4_signAt 1 = .ok (.ifCond .lt 20, 3) := by decide +kernel
theorem dX4_signAt_4 : decode cX4_signAt 4 = .ok (.iload_n 1, 1) := by decide +kernel
theorem dX4_signAt_5 : decode cX4_signAt 5 = .ok (.aload_n 0, 1) := by decide +kernel
theorem dX4_signAt_6 : decode cX4_signAt 6 = .ok (.getfield 15, 3) := by decide +kernel
theorem dX4_signAt_9 : decode cX4_signAt 9 = .ok (.if_icmp .ge 12, 3) := by decide +kernel
theorem dX4_signAt_12 : decode cX4_signAt 12 = .ok (.aload_n 0, 1) := by decide +kernel
theorem dX4_signAt_13 : decode cX4_signAt 13 = .ok (.getfield 9, 3) := by decide +kernel
theorem dX4_signAt_16 : decode cX4_signAt 16 = .ok (.iload_n 1, 1) := by decide +kernel
theorem dX4_signAt_17 : decode cX4_signAt 17 = .ok (.iaload, 1) := by decide +kernel
theorem dX4_signAt_18 : decode cX4_signAt 18 = .ok (.goto 5, 3) := by decide +kernel
theorem dX4_signAt_21 : decode cX4_signAt 21 = .ok (.bipush (-9), 2) := by decide +kernel
theorem dX4_signAt_23 : decode cX4_signAt 23 = .ok (.ireturn, 1) := by decide +kernel
theorem dX4_digitAt_0 : decode cX4_digitAt 0 = .ok (.aload_n 0, 1) := by decide +kernel
theorem dX4_digitAt_1 : decode cX4_digitAt 1 = .ok (.iload_n 1, 1) := by decide +kernel
theorem dX4_digitAt_2 : decode cX4_digitAt 2 = .ok (.invokevirtual 23, 3) := by decide +kernel
theorem dX4_digitAt_5 : decode cX4_digitAt 5 = .ok (.bipush 48, 2) := by decide +kernel
theorem dX4_digitAt_7 : decode cX4_digitAt 7 = .ok (.isub, 1) := by decide +kernel
theorem dX4_digitAt_8 : decode cX4_digitAt 8 = .ok (.ireturn, 1) := by decide +kernel
theorem dX4_numberAt_0 : decode cX4_numberAt 0 = .ok (.aload_n 0, 1) := by decide +kernel
theorem dX4_numberAt_1 : decode cX4_numberAt 1 = .ok (.iload_n 1, 1) := by decide +kernel
theorem dX4_numberAt_2 : decode cX4_numberAt 2 = .ok (.invokevirtual 27, 3) := by decide +kernel
theorem dX4_numberAt_5 : decode cX4_numberAt 5 = .ok (.bipush 10, 2) := by decide +kernel
theorem dX4_numberAt_7 : decode cX4_numberAt 7 = .ok (.imul, 1) := by decide +kernel
theorem dX4_numberAt_8 : decode cX4_numberAt 8 = .ok (.aload_n 0, 1) := by decide +kernel
theorem dX4_numberAt_9 : decode cX4_numberAt 9 = .ok (.iload_n 1, 1) := by decide +kernel
theorem dX4_numberAt_10 : decode cX4_numberAt 10 = .ok (.iconst 1, 1) := by decide +kernel
theorem dX4_numberAt_11 : decode cX4_numberAt 11 = .ok (.iadd, 1) := by decide +kernel
theorem dX4_numberAt_12 : decode cX4_numberAt 12 = .ok (.invokevirtual 27, 3) := by decide +kernel
theorem dX4_numberAt_15 : decode cX4_numberAt 15 = .ok (.iadd, 1) := by decide +kernel
theorem dX4_numberAt_16 : decode cX4_numberAt 16 = .ok (.ireturn, 1) := by decide +kernel
theorem dX4_firstError_0 : decode cX4_firstError 0 = .ok (.aload_n 0, 1) := by decide +kernel
theorem dX4_firstError_1 : decode cX4_firstError 1 = .ok (.iconst 0, 1) := by decide +kernel
theorem dX4_firstError_2 : decode cX4_firstError 2 = .ok (.invokevirtual 23, 3) := by decide +kernel
theorem dX4_firstError_5 : decode cX4_firstError 5 = .ok (.bipush 80, 2) := by decide +kernel
theorem dX4_firstError_7 : decode cX4_firstError 7 = .ok (.if_icmp .eq 5, 3) := by decide +kernel
theorem dX4_firstError_10 : decode cX4_firstError 10 = .ok (.iconst 0, 1) := by decide +kernel
theorem dX4_firstError_11 : decode cX4_firstError 11 = .ok (.ireturn, 1) := by decide +kernel
theorem dX4_firstError_12 : decode cX4_firstError 12 = .ok (.iconst 1, 1) := by decide +kernel
theorem dX4_firstError_13 : decode cX4_firstError 13 = .ok (.istore_n 1, 1) := by decide +kernel
theorem dX4_firstError_14 : decode cX4_firstError 14 = .ok (.iconst 0, 1) := by decide +kernel
theorem dX4_firstError_15 : decode cX4_firstError 15 = .ok (.istore_n 2, 1) := by decide +kernel
theorem dX4_firstError_16 : decode cX4_firstError 16 = .ok (.iload_n 2, 1) := by decide +kernel
theorem dX4_firstError_17 : decode cX4_firstError 17 = .ok (.bipush 100, 2) := by decide +kernel
theorem dX4_firstError_19 : decode cX4_firstError 19 = .ok (.if_icmp .ge 39, 3) := by decide +kernel
theorem dX4_firstError_22 : decode cX4_firstError 22 = .ok (.iload_n 1, 1) := by decide +kernel
theorem dX4_firstError_23 : decode cX4_firstError 23 = .ok (.aload_n 0, 1) := by decide +kernel
theorem dX4_firstError_24 : decode cX4_firstError 24 = .ok (.getfield 15, 3) := by decide +kernel
theorem dX4_firstError_27 : decode cX4_firstError 27 = .ok (.if_icmp .ge 31, 3) := by decide +kernel
theorem dX4_firstError_30 : decode cX4_firstError 30 = .ok (.aload_n 0, 1) := by decide +kernel
theorem dX4_firstError_31 : decode cX4_firstError 31 = .ok (.iload_n 1, 1) := by decide +kernel
theorem dX4_firstError_32 : decode cX4_firstError 32 = .ok (.invokevirtual 30, 3) := by decide +kernel
theorem dX4_firstError_35 : decode cX4_firstError 35 = .ok (.istore_n 3, 1) := by decide +kernel
theorem dX4_firstError_36 : decode cX4_firstError 36 = .ok (.iload_n 3, 1) := by decide +kernel
theorem dX4_firstError_37 : decode cX4_firstError 37 = .ok (.bipush (-9), 2) := by decide +kernel
theorem dX4_firstError_39 : decode cX4_firstError 39 = .ok (.if_icmp .eq 5, 3) := by decide +kernel
theorem dX4_firstError_42 : decode cX4_firstError 42 = .ok (.iload_n 3, 1) := by decide +kernel
theorem dX4_firstError_43 : decode cX4_firstError 43 = .ok (.ireturn, 1) := by decide +kernel
theorem dX4_firstError_44 : decode cX4_firstError 44 = .ok (.iload_n 1, 1) := by decide +kernel
theorem dX4_firstError_45 : decode cX4_firstError 45 = .ok (.aload_n 0, 1) := by decide +kernel
theorem dX4_firstError_46 : decode cX4_firstError 46 = .ok (.iload_n 1, 1) := by decide +kernel
theorem dX4_firstError_47 : decode cX4_firstError 47 = .ok (.invokevirtual 33, 3) := by decide +kernel
theorem dX4_firstError_50 : decode cX4_firstError 50 = .ok (.iadd, 1) := by decide +kernel
theorem dX4_firstError_51 : decode cX4_firstError 51 = .ok (.istore_n 1, 1) := by decide +kernel
theorem dX4_firstError_52 : decode cX4_firstError 52 = .ok (.iinc 2 1, 3) := by decide +kernel
theorem dX4_firstError_55 : decode cX4_firstError 55 = .ok (.goto (-39), 3) := by decide +kernel
theorem dX4_firstError_58 : decode cX4_firstError 58 = .ok (.bipush (-9), 2) := by decide +kernel
theorem dX4_firstError_60 : decode cX4_firstError 60 = .ok (.ireturn, 1) := by decide +kernel
theorem dX4_partLength_0 : decode cX4_partLength 0 = .ok (.aload_n 0, 1) := by decide +kernel
theorem dX4_partLength_1 : decode cX4_partLength 1 = .ok (.iload_n 1, 1) := by decide +kernel
theorem dX4_partLength_2 : decode cX4_partLength 2 = .ok (.invokevirtual 23, 3) := by decide +kernel
theorem dX4_partLength_5 : decode cX4_partLength 5 = .ok (.lookupswitch 31 #[(100, 27), (103, 29)], 27) := by decide +kernel
theorem dX4_partLength_32 : decode cX4_partLength 32 = .ok (.iconst 5, 1) := by decide +kernel
theorem dX4_partLength_33 : decode cX4_partLength 33 = .ok (.ireturn, 1) := by decide +kernel
theorem dX4_partLength_34 : decode cX4_partLength 34 = .ok (.iconst 2, 1) := by decide +kernel
theorem dX4_partLength_35 : decode cX4_partLength 35 = .ok (.ireturn, 1) := by decide +kernel
theorem dX4_partLength_36 : decode cX4_partLength 36 = .ok (.iconst 3, 1) := by decide +kernel
theorem dX4_partLength_37 : decode cX4_partLength 37 = .ok (.ireturn, 1) := by decide +kernel
theorem dX4_errorInPart_0 : decode cX4_errorInPart 0 = .ok (.aload_n 0, 1) := by decide +kernel
theorem dX4_errorInPart_1 : decode cX4_errorInPart 1 = .ok (.iload_n 1, 1) := by decide +kernel
theorem dX4_errorInPart_2 : decode cX4_errorInPart 2 = .ok (.invokevirtual 23, 3) := by decide +kernel
theorem dX4_errorInPart_5 : decode cX4_errorInPart 5 = .ok (.lookupswitch 101 #[(100, 51), (103, 91), (112, 59), (116, 71), (119, 81)], 51) := by decide +kernel
theorem dX4_errorInPart_56 : decode cX4_errorInPart 56 = .ok (.aload_n 0, 1) := by decide +kernel
theorem dX4_errorInPart_57 : decode cX4_errorInPart 57 = .ok (.iload_n 1, 1) := by decide +kernel
theorem dX4_errorInPart_58 : decode cX4_errorInPart 58 = .ok (.iconst 1, 1) := by decide +kernel
theorem dX4_errorInPart_59 : decode cX4_errorInPart 59 = .ok (.iadd, 1) := by decide +kernel
theorem dX4_errorInPart_60 : decode cX4_errorInPart 60 = .ok (.invokevirtual 36, 3) := by decide +kernel
theorem dX4_errorInPart_63 : decode cX4_errorInPart 63 = .ok (.ireturn, 1) := by decide +kernel
theorem dX4_errorInPart_64 : decode cX4_errorInPart 64 = .ok (.aload_n 0, 1) := by decide +kernel
theorem dX4_errorInPart_65 : decode cX4_errorInPart 65 = .ok (.iload_n 1, 1) := by decide +kernel
theorem dX4_errorInPart_66 : decode cX4_errorInPart 66 = .ok (.iconst 1, 1) := by decide +kernel
theorem dX4_errorInPart_67 : decode cX4_errorInPart 67 = .ok (.iadd, 1) := by decide +kernel
theorem dX4_errorInPart_68 : decode cX4_errorInPart 68 = .ok (.iconst 2, 1) := by decide +kernel
theorem dX4_errorInPart_69 : decode cX4_errorInPart 69 = .ok (.iconst 1, 1) := by decide +kernel
theorem dX4_errorInPart_70 : decode cX4_errorInPart 70 = .ok (.bipush 99, 2) := by decide +kernel
theorem dX4_errorInPart_72 : decode cX4_errorInPart 72 = .ok (.invokevirtual 39, 3) := by decide +kernel
theorem dX4_errorInPart_75 : decode cX4_errorInPart 75 = .ok (.ireturn, 1) := by decide +kernel
theorem dX4_errorInPart_76 : decode cX4_errorInPart 76 = .ok (.aload_n 0, 1) := by decide +kernel
theorem dX4_errorInPart_77 : decode cX4_errorInPart 77 = .ok (.iload_n 1, 1) := by decide +kernel
theorem dX4_errorInPart_78 : decode cX4_errorInPart 78 = .ok (.iconst 1, 1) := by decide +kernel
theorem dX4_errorInPart_79 : decode cX4_errorInPart 79 = .ok (.iadd, 1) := by decide +kernel
theorem dX4_errorInPart_80 : decode cX4_errorInPart 80 = .ok (.iconst 2, 1) := by decide +kernel
theorem dX4_errorInPart_81 : decode cX4_errorInPart 81 = .ok (.iconst 0, 1) := by decide +kernel
theorem dX4_errorInPart_82 : decode cX4_errorInPart 82 = .ok (.invokevirtual 43, 3) := by decide +kernel
theorem dX4_errorInPart_85 : decode cX4_errorInPart 85 = .ok (.ireturn, 1) := by decide +kernel
theorem dX4_errorInPart_86 : decode cX4_errorInPart 86 = .ok (.aload_n 0, 1) := by decide +kernel
theorem dX4_errorInPart_87 : decode cX4_errorInPart 87 = .ok (.iload_n 1, 1) := by decide +kernel
theorem dX4_errorInPart_88 : decode cX4_errorInPart 88 = .ok (.iconst 1, 1) := by decide +kernel
theorem dX4_errorInPart_89 : decode cX4_errorInPart 89 = .ok (.iadd, 1) := by decide +kernel
theorem dX4_errorInPart_90 : decode cX4_errorInPart 90 = .ok (.iconst 2, 1) := by decide +kernel
theorem dX4_errorInPart_91 : decode cX4_errorInPart 91 = .ok (.iconst 1, 1) := by decide +kernel
theorem dX4_errorInPart_92 : decode cX4_errorInPart 92 = .ok (.invokevirtual 43, 3) := by decide +kernel
theorem dX4_errorInPart_95 : decode cX4_errorInPart 95 = .ok (.ireturn, 1) := by decide +kernel
theorem dX4_errorInPart_96 : decode cX4_errorInPart 96 = .ok (.aload_n 0, 1) := by decide +kernel
theorem dX4_errorInPart_97 : decode cX4_errorInPart 97 = .ok (.iload_n 1, 1) := by decide +kernel
theorem dX4_errorInPart_98 : decode cX4_errorInPart 98 = .ok (.iconst 1, 1) := by decide +kernel
theorem dX4_errorInPart_99 : decode cX4_errorInPart 99 = .ok (.iadd, 1) := by decide +kernel
theorem dX4_errorInPart_100 : decode cX4_errorInPart 100 = .ok (.iconst 1, 1) := by decide +kernel
theorem dX4_errorInPart_101 : decode cX4_errorInPart 101 = .ok (.iconst 2, 1) := by decide +kernel
theorem dX4_errorInPart_102 : decode cX4_errorInPart 102 = .ok (.invokevirtual 43, 3) := by decide +kernel
theorem dX4_errorInPart_105 : decode cX4_errorInPart 105 = .ok (.ireturn, 1) := by decide +kernel
theorem dX4_errorInPart_106 : decode cX4_errorInPart 106 = .ok (.iload_n 1, 1) := by decide +kernel
theorem dX4_errorInPart_107 : decode cX4_errorInPart 107 = .ok (.ireturn, 1) := by decide +kernel
theorem dX4_errorInDrop_0 : decode cX4_errorInDrop 0 = .ok (.aload_n 0, 1) := by decide +kernel
theorem dX4_errorInDrop_1 : decode cX4_errorInDrop 1 = .ok (.iload_n 1, 1) := by decide +kernel
theorem dX4_errorInDrop_2 : decode cX4_errorInDrop 2 = .ok (.iconst 2, 1) := by decide +kernel
theorem dX4_errorInDrop_3 : decode cX4_errorInDrop 3 = .ok (.iconst 0, 1) := by decide +kernel
theorem dX4_errorInDrop_4 : decode cX4_errorInDrop 4 = .ok (.bipush 99, 2) := by decide +kernel
theorem dX4_errorInDrop_6 : decode cX4_errorInDrop 6 = .ok (.invokevirtual 39, 3) := by decide +kernel
theorem dX4_errorInDrop_9 : decode cX4_errorInDrop 9 = .ok (.istore_n 2, 1) := by decide +kernel
theorem dX4_errorInDrop_10 : decode cX4_errorInDrop 10 = .ok (.iload_n 2, 1) := by decide +kernel
theorem dX4_errorInDrop_11 : decode cX4_errorInDrop 11 = .ok (.bipush (-9), 2) := by decide +kernel
theorem dX4_errorInDrop_13 : decode cX4_errorInDrop 13 = .ok (.if_icmp .eq 7, 3) := by decide +kernel
theorem dX4_errorInDrop_16 : decode cX4_errorInDrop 16 = .ok (.iload_n 2, 1) := by decide +kernel
theorem dX4_errorInDrop_17 : decode cX4_errorInDrop 17 = .ok (.goto 14, 3) := by decide +kernel
theorem dX4_errorInDrop_20 : decode cX4_errorInDrop 20 = .ok (.aload_n 0, 1) := by decide +kernel
theorem dX4_errorInDrop_21 : decode cX4_errorInDrop 21 = .ok (.iload_n 1, 1) := by decide +kernel
theorem dX4_errorInDrop_22 : decode cX4_errorInDrop 22 = .ok (.iconst 2, 1) := by decide +kernel
theorem dX4_errorInDrop_23 : decode cX4_errorInDrop 23 = .ok (.iadd, 1) := by decide +kernel
theorem dX4_errorInDrop_24 : decode cX4_errorInDrop 24 = .ok (.iconst 2, 1) := by decide +kernel
theorem dX4_errorInDrop_25 : decode cX4_errorInDrop 25 = .ok (.iconst 1, 1) := by decide +kernel
theorem dX4_errorInDrop_26 : decode cX4_errorInDrop 26 = .ok (.bipush 60, 2) := by decide +kernel
theorem dX4_errorInDrop_28 : decode cX4_errorInDrop 28 = .ok (.invokevirtual 39, 3) := by decide +kernel
theorem dX4_errorInDrop_31 : decode cX4_errorInDrop 31 = .ok (.ireturn, 1) := by decide +kernel
theorem dX4_errorInSetting_0 : decode cX4_errorInSetting 0 = .ok (.aload_n 0, 1) := by decide +kernel
theorem dX4_errorInSetting_1 : decode cX4_errorInSetting 1 = .ok (.iload_n 1, 1) := by decide +kernel
theorem dX4_errorInSetting_2 : decode cX4_errorInSetting 2 = .ok (.iload_n 2, 1) := by decide +kernel
theorem dX4_errorInSetting_3 : decode cX4_errorInSetting 3 = .ok (.getstatic 47, 3) := by decide +kernel
theorem dX4_errorInSetting_6 : decode cX4_errorInSetting 6 = .ok (.iload_n 3, 1) := by decide +kernel
theorem dX4_errorInSetting_7 : decode cX4_errorInSetting 7 = .ok (.iaload, 1) := by decide +kernel
theorem dX4_errorInSetting_8 : decode cX4_errorInSetting 8 = .ok (.getstatic 50, 3) := by decide +kernel
theorem dX4_errorInSetting_11 : decode cX4_errorInSetting 11 = .ok (.iload_n 3, 1) := by decide +kernel
theorem dX4_errorInSetting_12 : decode cX4_errorInSetting 12 = .ok (.iaload, 1) := by decide +kernel
theorem dX4_errorInSetting_13 : decode cX4_errorInSetting 13 = .ok (.invokevirtual 39, 3) := by decide +kernel
theorem dX4_errorInSetting_16 : decode cX4_errorInSetting 16 = .ok (.ireturn, 1) := by decide +kernel
theorem dX4_errorInNumber_0 : decode cX4_errorInNumber 0 = .ok (.iconst 0, 1) := by decide +kernel
theorem dX4_errorInNumber_1 : decode cX4_errorInNumber 1 = .ok (.istore 5, 2) := by decide +kernel
theorem dX4_errorInNumber_3 : decode cX4_errorInNumber 3 = .ok (.iconst 0, 1) := by decide +kernel
theorem dX4_errorInNumber_4 : decode cX4_errorInNumber 4 = .ok (.istore 6, 2) := by decide +kernel
theorem dX4_errorInNumber_6 : decode cX4_errorInNumber 6 = .ok (.iload 6, 2) := by decide +kernel
theorem dX4_errorInNumber_8 : decode cX4_errorInNumber 8 = .ok (.iload_n 2, 1) := by decide +kernel
theorem dX4_errorInNumber_9 : decode cX4_errorInNumber 9 = .ok (.if_icmp .ge 84, 3) := by decide +kernel
theorem dX4_errorInNumber_12 : decode cX4_errorInNumber 12 = .ok (.aload_n 0, 1) := by decide +kernel
theorem dX4_errorInNumber_13 : decode cX4_errorInNumber 13 = .ok (.iload_n 1, 1) := by decide +kernel
theorem dX4_errorInNumber_14 : decode cX4_errorInNumber 14 = .ok (.iload 6, 2) := by decide +kernel
theorem dX4_errorInNumber_16 : decode cX4_errorInNumber 16 = .ok (.iadd, 1) := by decide +kernel
theorem dX4_errorInNumber_17 : decode cX4_errorInNumber 17 = .ok (.invokevirtual 27, 3) := by decide +kernel
theorem dX4_errorInNumber_20 : decode cX4_errorInNumber 20 = .ok (.istore 7, 2) := by decide +kernel
theorem dX4_errorInNumber_22 : decode cX4_errorInNumber 22 = .ok (.iload 7, 2) := by decide +kernel
theorem dX4_errorInNumber_24 : decode cX4_errorInNumber 24 = .ok (.iconst 0, 1) := by decide +kernel
theorem dX4_errorInNumber_25 : decode cX4_errorInNumber 25 = .ok (.bipush 9, 2) := by decide +kernel
theorem dX4_errorInNumber_27 : decode cX4_errorInNumber 27 = .ok (.invokestatic 53, 3) := by decide +kernel
theorem dX4_errorInNumber_30 : decode cX4_errorInNumber 30 = .ok (.ifCond .eq 8, 3) := by decide +kernel
theorem dX4_errorInNumber_33 : decode cX4_errorInNumber 33 = .ok (.iload_n 1, 1) := by decide +kernel
theorem dX4_errorInNumber_34 : decode cX4_errorInNumber 34 = .ok (.iload 6, 2) := by decide +kernel
theorem dX4_errorInNumber_36 : decode cX4_errorInNumber 36 = .ok (.iadd, 1) := by decide +kernel
theorem dX4_errorInNumber_37 : decode cX4_errorInNumber 37 = .ok (.ireturn, 1) := by decide +kernel
theorem dX4_errorInNumber_38 : decode cX4_errorInNumber 38 = .ok (.iload 6, 2) := by decide +kernel
theorem dX4_errorInNumber_40 : decode cX4_errorInNumber 40 = .ok (.iconst 1, 1) := by decide +kernel
theorem dX4_errorInNumber_41 : decode cX4_errorInNumber 41 = .ok (.iadd, 1) := by decide +kernel
theorem dX4_errorInNumber_42 : decode cX4_errorInNumber 42 = .ok (.iload_n 2, 1) := by decide +kernel
theorem dX4_errorInNumber_43 : decode cX4_errorInNumber 43 = .ok (.if_icmp .ge 8, 3) := by decide +kernel
theorem dX4_errorInNumber_46 : decode cX4_errorInNumber 46 = .ok (.bipush 10, 2) := by decide +kernel
theorem dX4_errorInNumber_48 : decode cX4_errorInNumber 48 = .ok (.goto 4, 3) := by decide +kernel
theorem dX4_errorInNumber_51 : decode cX4_errorInNumber 51 = .ok (.iconst 1, 1) := by decide +kernel
theorem dX4_errorInNumber_52 : decode cX4_errorInNumber 52 = .ok (.istore 8, 2) := by decide +kernel
theorem dX4_errorInNumber_54 : decode cX4_errorInNumber 54 = .ok (.iload 5, 2) := by decide +kernel
theorem dX4_errorInNumber_56 : decode cX4_errorInNumber 56 = .ok (.iload 7, 2) := by decide +kernel
theorem dX4_errorInNumber_58 : decode cX4_errorInNumber 58 = .ok (.iload 8, 2) := by decide +kernel
theorem dX4_errorInNumber_60 : decode cX4_errorInNumber 60 = .ok (.imul, 1) := by decide +kernel
theorem dX4_errorInNumber_61 : decode cX4_errorInNumber 61 = .ok (.iadd, 1) := by decide +kernel
theorem dX4_errorInNumber_62 : decode cX4_errorInNumber 62 = .ok (.istore 5, 2) := by decide +kernel
theorem dX4_errorInNumber_64 : decode cX4_errorInNumber 64 = .ok (.iload 5, 2) := by decide +kernel
theorem dX4_errorInNumber_66 : decode cX4_errorInNumber 66 = .ok (.iload 4, 2) := by decide +kernel
theorem dX4_errorInNumber_68 : decode cX4_errorInNumber 68 = .ok (.if_icmp .gt 14, 3) := by decide +kernel
theorem dX4_errorInNumber_71 : decode cX4_errorInNumber 71 = .ok (.iload 5, 2) := by decide +kernel
theorem dX4_errorInNumber_73 : decode cX4_errorInNumber 73 = .ok (.iload 8, 2) := by decide +kernel
theorem dX4_errorInNumber_75 : decode cX4_errorInNumber 75 = .ok (.iadd, 1) := by decide +kernel
theorem dX4_errorInNumber_76 : decode cX4_errorInNumber 76 = .ok (.iconst 1, 1) := by decide +kernel
theorem dX4_errorInNumber_77 : decode cX4_errorInNumber 77 = .ok (.isub, 1) := by decide +kernel
theorem dX4_errorInNumber_78 : decode cX4_errorInNumber 78 = .ok (.iload_n 3, 1) := by decide +kernel
theorem dX4_errorInNumber_79 : decode cX4_errorInNumber 79 = .ok (.if_icmp .ge 8, 3) := by decide +kernel
theorem dX4_errorInNumber_82 : decode cX4_errorInNumber 82 = .ok (.iload_n 1, 1) := by decide +kernel
theorem dX4_errorInNumber_83 : decode cX4_errorInNumber 83 = .ok (.iload 6, 2) := by decide +kernel
theorem dX4_errorInNumber_85 : decode cX4_errorInNumber 85 = .ok (.iadd, 1) := by decide +kernel
theorem dX4_errorInNumber_86 : decode cX4_errorInNumber 86 = .ok (.ireturn, 1) := by decide +kernel
theorem dX4_errorInNumber_87 : decode cX4_errorInNumber 87 = .ok (.iinc 6 1, 3) := by decide +kernel
theorem dX4_errorInNumber_90 : decode cX4_errorInNumber 90 = .ok (.goto (-84), 3) := by decide +kernel
theorem dX4_errorInNumber_93 : decode cX4_errorInNumber 93 = .ok (.bipush (-9), 2) := by decide +kernel
theorem dX4_errorInNumber_95 : decode cX4_errorInNumber 95 = .ok (.ireturn, 1) := by decide +kernel
theorem dX5_init_0 : decode cX5_init 0 = .ok (.aload_n 0, 1) := by decide +kernel
theorem dX5_init_1 : decode cX5_init 1 = .ok (.invokespecial 1, 3) := by decide +kernel
theorem dX5_init_4 : decode cX5_init 4 = .ok (.aload_n 0, 1) := by decide +kernel
theorem dX5_init_5 : decode cX5_init 5 = .ok (.new 7, 3) := by decide +kernel
theorem dX5_init_8 : decode cX5_init 8 = .ok (.dup, 1) := by decide +kernel
theorem dX5_init_9 : decode cX5_init 9 = .ok (.invokespecial 9, 3) := by decide +kernel
theorem dX5_init_12 : decode cX5_init 12 = .ok (.putfield 10, 3) := by decide +kernel
theorem dX5_init_15 : decode cX5_init 15 = .ok (.aload_n 0, 1) := by decide +kernel
theorem dX5_init_16 : decode cX5_init 16 = .ok (.new 16, 3) := by decide +kernel
theorem dX5_init_19 : decode cX5_init 19 = .ok (.dup, 1) := by decide +kernel
theorem dX5_init_20 : decode cX5_init 20 = .ok (.invokespecial 18, 3) := by decide +kernel
theorem dX5_init_23 : decode cX5_init 23 = .ok (.putfield 19, 3) := by decide +kernel
theorem dX5_init_26 : decode cX5_init 26 = .ok (.aload_n 0, 1) := by decide +kernel
theorem dX5_init_27 : decode cX5_init 27 = .ok (.new 16, 3) := by decide +kernel
theorem dX5_init_30 : decode cX5_init 30 = .ok (.dup, 1) := by decide +kernel
theorem dX5_init_31 : decode cX5_init 31 = .ok (.invokespecial 18, 3) := by decide +kernel
theorem dX5_init_34 : decode cX5_init 34 = .ok (.putfield 23, 3) := by decide +kernel
theorem dX5_init_37 : decode cX5_init 37 = .ok (.aload_n 0, 1) := by decide +kernel
theorem dX5_init_38 : decode cX5_init 38 = .ok (.new 16, 3) := by decide +kernel
theorem dX5_init_41 : decode cX5_init 41 = .ok (.dup, 1) := by decide +kernel
theorem dX5_init_42 : decode cX5_init 42 = .ok (.invokespecial 18, 3) := by decide +kernel
theorem dX5_init_45 : decode cX5_init 45 = .ok (.putfield 26, 3) := by decide +kernel
theorem dX5_init_48 : decode cX5_init 48 = .ok (.aload_n 0, 1) := by decide +kernel
theorem dX5_init_49 : decode cX5_init 49 = .ok (.bipush 14, 2) := by decide +kernel
theorem dX5_init_51 : decode cX5_init 51 = .ok (.anewarray 16, 3) := by decide +kernel
theorem dX5_init_54 : decode cX5_init 54 = .ok (.putfield 29, 3) := by decide +kernel
theorem dX5_init_57 : decode cX5_init 57 = .ok (.aload_n 0, 1) := by decide +kernel
theorem dX5_init_58 : decode cX5_init 58 = .ok (.iconst 0, 1) := by decide +kernel
theorem dX5_init_59 : decode cX5_init 59 = .ok (.putfield 33, 3) := by decide +kernel
theorem dX5_init_62 : decode cX5_init 62 = .ok (.aload_n 0, 1) := by decide +kernel
theorem dX5_init_63 : decode cX5_init 63 = .ok (.iconst 0, 1) := by decide +kernel
theorem dX5_init_64 : decode cX5_init 64 = .ok (.putfield 37, 3) := by decide +kernel
theorem dX5_init_67 : decode cX5_init 67 = .ok (.aload_n 0, 1) := by decide +kernel
theorem dX5_init_68 : decode cX5_init 68 = .ok (.new 16, 3) := by decide +kernel
theorem dX5_init_71 : decode cX5_init 71 = .ok (.dup, 1) := by decide +kernel
theorem dX5_init_72 : decode cX5_init 72 = .ok (.invokespecial 18, 3) := by decide +kernel
theorem dX5_init_75 : decode cX5_init 75 = .ok (.putfield 40, 3) := by decide +kernel
theorem dX5_init_78 : decode cX5_init 78 = .ok (.aload_n 0, 1) := by decide +kernel
theorem dX5_init_79 : decode cX5_init 79 = .ok (.new 16, 3) := by decide +kernel
theorem dX5_init_82 : decode cX5_init 82 = .ok (.dup, 1) := by decide +kernel
theorem dX5_init_83 : decode cX5_init 83 = .ok (.invokespecial 18, 3) := by decide +kernel
theorem dX5_init_86 : decode cX5_init 86 = .ok (.putfield 43, 3) := by decide +kernel
theorem dX5_init_89 : decode cX5_init 89 = .ok (.aload_n 0, 1) := by decide +kernel
theorem dX5_init_90 : decode cX5_init 90 = .ok (.iconst 0, 1) := by decide +kernel
theorem dX5_init_91 : decode cX5_init 91 = .ok (.putfield 46, 3) := by decide +kernel
theorem dX5_init_94 : decode cX5_init 94 = .ok (.aload_n 0, 1) := by decide +kernel
theorem dX5_init_95 : decode cX5_init 95 = .ok (.iconst 0, 1) := by decide +kernel
theorem dX5_init_96 : decode cX5_init 96 = .ok (.putfield 50, 3) := by decide +kernel
theorem dX5_init_99 : decode cX5_init 99 = .ok (.iconst 0, 1) := by decide +kernel
theorem dX5_init_100 : decode cX5_init 100 = .ok (.istore_n 1, 1) := by decide +kernel
theorem dX5_init_101 : decode cX5_init 101 = .ok (.iload_n 1, 1) := by decide +kernel
theorem dX5_init_102 : decode cX5_init 102 = .ok (.aload_n 0, 1) := by decide +kernel
theorem dX5_init_103 : decode cX5_init 103 = .ok (.getfield 29, 3) := by decide +kernel
theorem dX5_init_106 : decode cX5_init 106 = .ok (.arraylength, 1) := by decide +kernel
theorem dX5_init_107 : decode cX5_init 107 = .ok (.if_icmp .ge 22, 3) := by decide +kernel
theorem dX5_init_110 : decode cX5_init 110 = .ok (.aload_n 0, 1) := by decide +kernel
theorem dX5_init_111 : decode cX5_init 111 = .ok (.getfield 29, 3) := by decide +kernel
theorem dX5_init_114 : decode cX5_init 114 = .ok (.iload_n 1, 1) := by decide +kernel
theorem dX5_init_115 : decode cX5_init 115 = .ok (.new 16, 3) := by decide +kernel
theorem dX5_init_118 : decode cX5_init 118 = .ok (.dup, 1) := by decide +kernel
theorem dX5_init_119 : decode cX5_init 119 = .ok (.invokespecial 18, 3) := by decide +kernel
theorem dX5_init_122 : decode cX5_init 122 = .ok (.aastore, 1) := by decide +kernel
theorem dX5_init_123 : decode cX5_init 123 = .ok (.iinc 1 1, 3) := by decide +kernel
theorem dX5_init_126 : decode cX5_init 126 = .ok (.goto (-25), 3) := by decide +kernel
theorem dX5_init_129 : decode cX5_init 129 = .ok (.return_, 1) := by decide +kernel
theorem dX5_append_0 : decode cX5_append 0 = .ok (.iload_n 1, 1) := by decide +kernel
theorem dX5_append_1 : decode cX5_append 1 = .ok (.iconst 0, 1) := by decide +kernel
theorem dX5_append_2 : decode cX5_append 2 = .ok (.sipush 255, 3) := by decide +kernel
theorem dX5_append_5 : decode cX5_append 5 = .ok (.invokestatic 53, 3) := by decide +kernel
theorem dX5_append_8 : decode cX5_append 8 = .ok (.ifCond .eq 13, 3) := by decide +kernel
theorem dX5_append_11 : decode cX5_append 11 = .ok (.new 57, 3) := by decide +kernel
theorem dX5_append_14 : decode cX5_append 14 = .ok (.dup, 1) := by decide +kernel
theorem dX5_append_15 : decode cX5_append 15 = .ok (.ldc 59, 2) := by decide +kernel
theorem dX5_append_17 : decode cX5_append 17 = .ok (.invokespecial 61, 3) := by decide +kernel
theorem dX5_append_20 : decode cX5_append 20 = .ok (.athrow, 1) := by decide +kernel
theorem dX5_append_21 : decode cX5_append 21 = .ok (.aload_n 0, 1) := by decide +kernel
theorem dX5_append_22 : decode cX5_append 22 = .ok (.getfield 10, 3) := by decide +kernel
theorem dX5_append_25 : decode cX5_append 25 = .ok (.invokevirtual 64, 3) := by decide +kernel
theorem dX5_append_28 : decode cX5_append 28 = .ok (.ifCond .eq 13, 3) := by decide +kernel
theorem dX5_append_31 : decode cX5_append 31 = .ok (.new 68, 3) := by decide +kernel
theorem dX5_append_34 : decode cX5_append 34 = .ok (.dup, 1) := by decide +kernel
theorem dX5_append_35 : decode cX5_append 35 = .ok (.ldc 70, 2) := by decide +kernel
theorem dX5_append_37 : decode cX5_append 37 = .ok (.invokespecial 72, 3) := by decide +kernel
theorem dX5_append_40 : decode cX5_append 40 = .ok (.athrow, 1) := by decide +kernel
theorem dX5_append_41 : decode cX5_append 41 = .ok (.aload_n 0, 1) := by decide +kernel
theorem dX5_append_42 : decode cX5_append 42 = .ok (.getfield 10, 3) := by decide +kernel
theorem dX5_append_45 : decode cX5_append 45 = .ok (.iload_n 1, 1) := by decide +kernel
theorem dX5_append_46 : decode cX5_append 46 = .ok (.invokevirtual 73, 3) := by decide +kernel
theorem dX5_append_49 : decode cX5_append 49 = .ok (.ireturn, 1) := by decide +kernel
theorem dX5_clearText_0 : decode cX5_clearText 0 = .ok (.aload_n 0, 1) := by decide +kernel
theorem dX5_clearText_1 : decode cX5_clearText 1 = .ok (.getfield 10, 3) := by decide +kernel
theorem dX5_clearText_4 : decode cX5_clearText 4 = .ok (.invokevirtual 77, 3) := by decide +kernel
theorem dX5_clearText_7 : decode cX5_clearText 7 = .ok (.ireturn, 1) := by decide +kernel
theorem dX5_errorPosition_0 : decode cX5_errorPosition 0 = .ok (.aload_n 0, 1) := by decide +kernel
theorem dX5_errorPosition_1 : decode cX5_errorPosition 1 = .ok (.getfield 10, 3) := by decide +kernel
theorem dX5_errorPosition_4 : decode cX5_errorPosition 4 = .ok (.invokevirtual 81, 3) := by decide +kernel
theorem dX5_errorPosition_7 : decode cX5_errorPosition 7 = .ok (.ireturn, 1) := by decide +kernel
theorem dX5_load_0 : decode cX5_load 0 = .ok (.aload_n 0, 1) := by decide +kernel
theorem dX5_load_1 : decode cX5_load 1 = .ok (.getfield 10, 3) := by decide +kernel
theorem dX5_load_4 : decode cX5_load 4 = .ok (.invokevirtual 81, 3) := by decide +kernel
theorem dX5_load_7 : decode cX5_load 7 = .ok (.bipush (-9), 2) := by decide +kernel
theorem dX5_load_9 : decode cX5_load 9 = .ok (.if_icmp .eq 13, 3) := by decide +kernel
theorem dX5_load_12 : decode cX5_load 12 = .ok (.new 68, 3) := by decide +kernel
theorem dX5_load_15 : decode cX5_load 15 = .ok (.dup, 1) := by decide +kernel
theorem dX5_load_16 : decode cX5_load 16 = .ok (.ldc 84, 2) := by decide +kernel
theorem dX5_load_18 : decode cX5_load 18 = .ok (.invokespecial 72, 3) := by decide +kernel
theorem dX5_load_21 : decode cX5_load 21 = .ok (.athrow, 1) := by decide +kernel
theorem dX5_load_22 : decode cX5_load 22 = .ok (.aload_n 0, 1) := by decide +kernel
theorem dX5_load_23 : decode cX5_load 23 = .ok (.getfield 19, 3) := by decide +kernel
theorem dX5_load_26 : decode cX5_load 26 = .ok (.aload_n 0, 1) := by decide +kernel
theorem dX5_load_27 : decode cX5_load 27 = .ok (.getfield 23, 3) := by decide +kernel
theorem dX5_load_30 : decode cX5_load 30 = .ok (.invokevirtual 86, 3) := by decide +kernel
theorem dX5_load_33 : decode cX5_load 33 = .ok (.aload_n 0, 1) := by decide +kernel
theorem dX5_load_34 : decode cX5_load 34 = .ok (.iconst 0, 1) := by decide +kernel
theorem dX5_load_35 : decode cX5_load 35 = .ok (.putfield 37, 3) := by decide +kernel
theorem dX5_load_38 : decode cX5_load 38 = .ok (.aload_n 0, 1) := by decide +kernel
theorem dX5_load_39 : decode cX5_load 39 = .ok (.iconst 0, 1) := by decide +kernel
theorem dX5_load_40 : decode cX5_load 40 = .ok (.putfield 46, 3) := by decide +kernel
theorem dX5_load_43 : decode cX5_load 43 = .ok (.aload_n 0, 1) := by decide +kernel
theorem dX5_load_44 : decode cX5_load 44 = .ok (.iconst 0, 1) := by decide +kernel
theorem dX5_load_45 : decode cX5_load 45 = .ok (.putfield 50, 3) := by decide +kernel
theorem dX5_load_48 : decode cX5_load 48 = .ok (.iconst 1, 1) := by decide +kernel
theorem dX5_load_49 : decode cX5_load 49 = .ok (.istore_n 1, 1) := by decide +kernel
theorem dX5_load_50 : decode cX5_load 50 = .ok (.iconst 0, 1) := by decide +kernel
theorem dX5_load_51 : decode cX5_load 51 = .ok (.istore_n 2, 1) := by decide +kernel
theorem dX5_load_52 : decode cX5_load 52 = .ok (.iload_n 2, 1) := by decide +kernel
theorem dX5_load_53 : decode cX5_load 53 = .ok (.bipush 100, 2) := by decide +kernel
theorem dX5_load_55 : decode cX5_load 55 = .ok (.if_icmp .ge 36, 3) := by decide +kernel
theorem dX5_load_58 : decode cX5_load 58 = .ok (.iload_n 1, 1) := by decide +kernel
theorem dX5_load_59 : decode cX5_load 59 = .ok (.aload_n 0, 1) := by decide +kernel
theorem dX5_load_60 : decode cX5_load 60 = .ok (.getfield 10, 3) := by decide +kernel
theorem dX5_load_63 : decode cX5_load 63 = .ok (.getfield 90, 3) := by decide +kernel
theorem dX5_load_66 : decode cX5_load 66 = .ok (.if_icmp .ge 25, 3) := by decide +kernel
theorem dX5_load_69 : decode cX5_load 69 = .ok (.aload_n 0, 1) := by decide +kernel
theorem dX5_load_70 : decode cX5_load 70 = .ok (.iload_n 1, 1) := by decide +kernel
theorem dX5_load_71 : decode cX5_load 71 = .ok (.invokevirtual 93, 3) := by decide +kernel
theorem dX5_load_74 : decode cX5_load 74 = .ok (.iload_n 1, 1) := by decide +kernel
theorem dX5_load_75 : decode cX5_load 75 = .ok (.aload_n 0, 1) := by decide +kernel
theorem dX5_load_76 : decode cX5_load 76 = .ok (.getfield 10, 3) := by decide +kernel
theorem dX5_load_79 : decode cX5_load 79 = .ok (.iload_n 1, 1) := by decide +kernel
theorem dX5_load_80 : decode cX5_load 80 = .ok (.invokevirtual 97, 3) := by decide +kernel
theorem dX5_load_83 : decode cX5_load 83 = .ok (.iadd, 1) := by decide +kernel
theorem dX5_load_84 : decode cX5_load 84 = .ok (.istore_n 1, 1) := by decide +kernel
theorem dX5_load_85 : decode cX5_load 85 = .ok (.iinc 2 1, 3) := by decide +kernel
theorem dX5_load_88 : decode cX5_load 88 = .ok (.goto (-36), 3) := by decide +kernel
theorem dX5_load_91 : decode cX5_load 91 = .ok (.aload_n 0, 1) := by decide +kernel
theorem dX5_load_92 : decode cX5_load 92 = .ok (.getfield 19, 3) := by decide +kernel
theorem dX5_load_95 : decode cX5_load 95 = .ok (.getfield 100, 3) := by decide +kernel
theorem dX5_load_98 : decode cX5_load 98 = .ok (.invokevirtual 104, 3) := by decide +kernel
theorem dX5_load_101 : decode cX5_load 101 = .ok (.ireturn, 1) := by decide +kernel
theorem dX5_about_0 : decode cX5_about 0 = .ok (.aload_n 0, 1) := by decide +kernel
theorem dX5_about_1 : decode cX5_about 1 = .ok (.getfield 19, 3) := by decide +kernel
theorem dX5_about_4 : decode cX5_about 4 = .ok (.getfield 109, 3) := by decide +kernel
theorem dX5_about_7 : decode cX5_about 7 = .ok (.astore_n 2, 1) := by decide +kernel
theorem dX5_about_8 : decode cX5_about 8 = .ok (.aload_n 0, 1) := by decide +kernel
theorem dX5_about_9 : decode cX5_about 9 = .ok (.getfield 19, 3) := by decide +kernel
theorem dX5_about_12 : decode cX5_about 12 = .ok (.getfield 100, 3) := by decide +kernel
theorem dX5_about_15 : decode cX5_about 15 = .ok (.astore_n 3, 1) := by decide +kernel
theorem dX5_about_16 : decode cX5_about 16 = .ok (.iload_n 1, 1) := by decide +kernel
theorem dX5_about_17 : decode cX5_about 17 = .ok (.tableswitch 151 0 11 #[63, 68, 73, 79, 85, 91, 97, 105, 113, 122, 130, 138], 63) := by decide +kernel
theorem dX5_about_80 : decode cX5_about 80 = .ok (.aload_n 2, 1) := by decide +kernel
theorem dX5_about_81 : decode cX5_about 81 = .ok (.getfield 113, 3) := by decide +kernel
theorem dX5_about_84 : decode cX5_about 84 = .ok (.ireturn, 1) := by decide +kernel
theorem dX5_about_85 : decode cX5_about 85 = .ok (.aload_n 3, 1) := by decide +kernel
theorem dX5_about_86 : decode cX5_about 86 = .ok (.invokevirtual 104, 3) := by decide +kernel
theorem dX5_about_89 : decode cX5_about 89 = .ok (.ireturn, 1) := by decide +kernel
theorem dX5_about_90 : decode cX5_about 90 = .ok (.aload_n 3, 1) := by decide +kernel
theorem dX5_about_91 : decode cX5_about 91 = .ok (.iconst 0, 1) := by decide +kernel
theorem dX5_about_92 : decode cX5_about 92 = .ok (.invokevirtual 118, 3) := by decide +kernel
theorem dX5_about_95 : decode cX5_about 95 = .ok (.ireturn, 1) := by decide +kernel
theorem dX5_about_96 : decode cX5_about 96 = .ok (.aload_n 3, 1) := by decide +kernel
theorem dX5_about_97 : decode cX5_about 97 = .ok (.iconst 1, 1) := by decide +kernel
theorem dX5_about_98 : decode cX5_about 98 = .ok (.invokevirtual 118, 3) := by decide +kernel
theorem dX5_about_101 : decode cX5_about 101 = .ok (.ireturn, 1) := by decide +kernel
theorem dX5_about_102 : decode cX5_about 102 = .ok (.aload_n 3, 1) := by decide +kernel
theorem dX5_about_103 : decode cX5_about 103 = .ok (.iconst 2, 1) := by decide +kernel
theorem dX5_about_104 : decode cX5_about 104 = .ok (.invokevirtual 118, 3) := by decide +kernel
theorem dX5_about_107 : decode cX5_about 107 = .ok (.ireturn, 1) := by decide +kernel
theorem dX5_about_108 : decode cX5_about 108 = .ok (.aload_n 3, 1) := by decide +kernel
theorem dX5_about_109 : decode cX5_about 109 = .ok (.iconst 3, 1) := by decide +kernel
theorem dX5_about_110 : decode cX5_about 110 = .ok (.invokevirtual 118, 3) := by decide +kernel
theorem dX5_about_113 : decode cX5_about 113 = .ok (.ireturn, 1) := by decide +kernel
theorem dX5_about_114 : decode cX5_about 114 = .ok (.aload_n 2, 1) := by decide +kernel
theorem dX5_about_115 : decode cX5_about 115 = .ok (.getfield 121, 3) := by decide +kernel
theorem dX5_about_118 : decode cX5_about 118 = .ok (.invokestatic 125, 3) := by decide +kernel
theorem dX5_about_121 : decode cX5_about 121 = .ok (.ireturn, 1) := by decide +kernel
theorem dX5_about_122 : decode cX5_about 122 = .ok (.aload_n 2, 1) := by decide +kernel
theorem dX5_about_123 : decode cX5_about 123 = .ok (.getfield 129, 3) := by decide +kernel
theorem dX5_about_126 : decode cX5_about 126 = .ok (.invokestatic 125, 3) := by decide +kernel
theorem dX5_about_129 : decode cX5_about 129 = .ok (.ireturn, 1) := by decide +kernel
theorem dX5_about_130 : decode cX5_about 130 = .ok (.aload_n 2, 1) := by decide +kernel
theorem dX5_about_131 : decode cX5_about 131 = .ok (.aload_n 2, 1) := by decide +kernel
theorem dX5_about_132 : decode cX5_about 132 = .ok (.getfield 113, 3) := by decide +kernel
theorem dX5_about_135 : decode cX5_about 135 = .ok (.invokevirtual 132, 3) := by decide +kernel
theorem dX5_about_138 : decode cX5_about 138 = .ok (.ireturn, 1) := by decide +kernel
theorem dX5_about_139 : decode cX5_about 139 = .ok (.aload_n 3, 1) := by decide +kernel
theorem dX5_about_140 : decode cX5_about 140 = .ok (.getfield 135, 3) := by decide +kernel
theorem dX5_about_143 : decode cX5_about 143 = .ok (.getfield 139, 3) := by decide +kernel
theorem dX5_about_146 : decode cX5_about 146 = .ok (.ireturn, 1) := by decide +kernel
theorem dX5_about_147 : decode cX5_about 147 = .ok (.aload_n 3, 1) := by decide +kernel
theorem dX5_about_148 : decode cX5_about 148 = .ok (.getfield 142, 3) := by decide +kernel
theorem dX5_about_151 : decode cX5_about 151 = .ok (.getfield 139, 3) := by decide +kernel
theorem dX5_about_154 : decode cX5_about 154 = .ok (.ireturn, 1) := by decide +kernel
theorem dX5_about_155 : decode cX5_about 155 = .ok (.aload_n 2, 1) := by decide +kernel
theorem dX5_about_156 : decode cX5_about 156 = .ok (.getfield 145, 3) := by decide +kernel
theorem dX5_about_159 : decode cX5_about 159 = .ok (.ifCond .eq 7, 3) := by decide +kernel
theorem dX5_about_162 : decode cX5_about 162 = .ok (.iconst 1, 1) := by decide +kernel
theorem dX5_about_163 : decode cX5_about 163 = .ok (.goto 4, 3) := by decide +kernel
theorem dX5_about_166 : decode cX5_about 166 = .ok (.iconst 0, 1) := by decide +kernel
theorem dX5_about_167 : decode cX5_about 167 = .ok (.ireturn, 1) := by decide +kernel
theorem dX5_about_168 : decode cX5_about 168 = .ok (.new 57, 3) := by decide +kernel
theorem dX5_about_171 : decode cX5_about 171 = .ok (.dup, 1) := by decide +kernel
theorem dX5_about_172 : decode cX5_about 172 = .ok (.ldc 148, 2) := by decide +kernel
theorem dX5_about_174 : decode cX5_about 174 = .ok (.invokespecial 61, 3) := by decide +kernel
theorem dX5_about_177 : decode cX5_about 177 = .ok (.athrow, 1) := by decide +kernel
theorem dX5_setting_0 : decode cX5_setting 0 = .ok (.iload_n 1, 1) := by decide +kernel
theorem dX5_setting_1 : decode cX5_setting 1 = .ok (.iconst 0, 1) := by decide +kernel
theorem dX5_setting_2 : decode cX5_setting 2 = .ok (.iconst 4, 1) := by decide +kernel
theorem dX5_setting_3 : decode cX5_setting 3 = .ok (.invokestatic 53, 3) := by decide +kernel
theorem dX5_setting_6 : decode cX5_setting 6 = .ok (.ifCond .eq 13, 3) := by decide +kernel
theorem dX5_setting_9 : decode cX5_setting 9 = .ok (.new 57, 3) := by decide +kernel
theorem dX5_setting_12 : decode cX5_setting 12 = .ok (.dup, 1) := by decide +kernel
theorem dX5_setting_13 : decode cX5_setting 13 = .ok (.ldc 150, 2) := by decide +kernel
theorem dX5_setting_15 : decode cX5_setting 15 = .ok (.invokespecial 61, 3) := by decide +kernel
theorem dX5_setting_18 : decode cX5_setting 18 = .ok (.athrow, 1) := by decide +kernel
theorem dX5_setting_19 : decode cX5_setting 19 = .ok (.aload_n 0, 1) := by decide +kernel
theorem dX5_setting_20 : decode cX5_setting 20 = .ok (.getfield 19, 3) := by decide +kernel
theorem dX5_setting_23 : decode cX5_setting 23 = .ok (.getfield 109, 3) := by decide +kernel
theorem dX5_setting_26 : decode cX5_setting 26 = .ok (.getfield 152, 3) := by decide +kernel
theorem dX5_setting_29 : decode cX5_setting 29 = .ok (.iload_n 1, 1) := by decide +kernel
theorem dX5_setting_30 : decode cX5_setting 30 = .ok (.iaload, 1) := by decide +kernel
theorem dX5_setting_31 : decode cX5_setting 31 = .ok (.ireturn, 1) := by decide +kernel
theorem dX5_bin_0 : decode cX5_bin 0 = .ok (.iload_n 1, 1) := by decide +kernel
theorem dX5_bin_1 : decode cX5_bin 1 = .ok (.iconst 0, 1) := by decide +kernel
theorem dX5_bin_2 : decode cX5_bin 2 = .ok (.bipush 7, 2) := by decide +kernel
theorem dX5_bin_4 : decode cX5_bin 4 = .ok (.invokestatic 53, 3) := by decide +kernel
theorem dX5_bin_7 : decode cX5_bin 7 = .ok (.ifCond .eq 13, 3) := by decide +kernel
theorem dX5_bin_10 : decode cX5_bin 10 = .ok (.new 155, 3) := by decide +kernel
theorem dX5_bin_13 : decode cX5_bin 13 = .ok (.dup, 1) := by decide +kernel
theorem dX5_bin_14 : decode cX5_bin 14 = .ok (.ldc 157, 2) := by decide +kernel
theorem dX5_bin_16 : decode cX5_bin 16 = .ok (.invokespecial 159, 3) := by decide +kernel
theorem dX5_bin_19 : decode cX5_bin 19 = .ok (.athrow, 1) := by decide +kernel
theorem dX5_bin_20 : decode cX5_bin 20 = .ok (.aload_n 0, 1) := by decide +kernel
theorem dX5_bin_21 : decode cX5_bin 21 = .ok (.getfield 19, 3) := by decide +kernel
theorem dX5_bin_24 : decode cX5_bin 24 = .ok (.getfield 109, 3) := by decide +kernel
theorem dX5_bin_27 : decode cX5_bin 27 = .ok (.astore_n 3, 1) := by decide +kernel
theorem dX5_bin_28 : decode cX5_bin 28 = .ok (.iload_n 2, 1) := by decide +kernel
theorem dX5_bin_29 : decode cX5_bin 29 = .ok (.tableswitch 68 0 4 #[35, 41, 47, 54, 61], 35) := by decide +kernel
theorem dX5_bin_64 : decode cX5_bin 64 = .ok (.aload_n 3, 1) := by decide +kernel
theorem dX5_bin_65 : decode cX5_bin 65 = .ok (.iload_n 1, 1) := by decide +kernel
theorem dX5_bin_66 : decode cX5_bin 66 = .ok (.invokevirtual 160, 3) := by decide +kernel
theorem dX5_bin_69 : decode cX5_bin 69 = .ok (.ireturn, 1) := by decide +kernel
theorem dX5_bin_70 : decode cX5_bin 70 = .ok (.aload_n 3, 1) := by decide +kernel
theorem dX5_bin_71 : decode cX5_bin 71 = .ok (.iload_n 1, 1) := by decide +kernel
theorem dX5_bin_72 : decode cX5_bin 72 = .ok (.invokevirtual 163, 3) := by decide +kernel
theorem dX5_bin_75 : decode cX5_bin 75 = .ok (.ireturn, 1) := by decide +kernel
theorem dX5_bin_76 : decode cX5_bin 76 = .ok (.aload_n 3, 1) := by decide +kernel
theorem dX5_bin_77 : decode cX5_bin 77 = .ok (.getfield 121, 3) := by decide +kernel
theorem dX5_bin_80 : decode cX5_bin 80 = .ok (.iload_n 1, 1) := by decide +kernel
theorem dX5_bin_81 : decode cX5_bin 81 = .ok (.iaload, 1) := by decide +kernel
theorem dX5_bin_82 : decode cX5_bin 82 = .ok (.ireturn, 1) := by decide +kernel
theorem dX5_bin_83 : decode cX5_bin 83 = .ok (.aload_n 3, 1) := by decide +kernel
theorem dX5_bin_84 : decode cX5_bin 84 = .ok (.getfield 129, 3) := by decide +kernel
theorem dX5_bin_87 : decode cX5_bin 87 = .ok (.iload_n 1, 1) := by decide +kernel
theorem dX5_bin_88 : decode cX5_bin 88 = .ok (.iaload, 1) := by decide +kernel
theorem dX5_bin_89 : decode cX5_bin 89 = .ok (.ireturn, 1) := by decide +kernel
theorem dX5_bin_90 : decode cX5_bin 90 = .ok (.aload_n 3, 1) := by decide +kernel
theorem dX5_bin_91 : decode cX5_bin 91 = .ok (.getfield 166, 3) := by decide +kernel
theorem dX5_bin_94 : decode cX5_bin 94 = .ok (.iload_n 1, 1) := by decide +kernel
theorem dX5_bin_95 : decode cX5_bin 95 = .ok (.iaload, 1) := by decide +kernel
theorem dX5_bin_96 : decode cX5_bin 96 = .ok (.ireturn, 1) := by decide +kernel
theorem dX5_bin_97 : decode cX5_bin 97 = .ok (.new 57, 3) := by decide +kernel
theorem dX5_bin_100 : decode cX5_bin 100 = .ok (.dup, 1) := by decide +kernel
theorem dX5_bin_101 : decode cX5_bin 101 = .ok (.ldc 169, 2) := by decide +kernel
theorem dX5_bin_103 : decode cX5_bin 103 = .ok (.invokespecial 61, 3) := by decide +kernel
theorem dX5_bin_106 : decode cX5_bin 106 = .ok (.athrow, 1) := by decide +kernel
theorem dX5_pulse_0 : decode cX5_pulse 0 = .ok (.iload_n 1, 1) := by decide +kernel
theorem dX5_pulse_1 : decode cX5_pulse 1 = .ok (.iconst 0, 1) := by decide +kernel
theorem dX5_pulse_2 : decode cX5_pulse 2 = .ok (.iconst 3, 1) := by decide +kernel
theorem dX5_pulse_3 : decode cX5_pulse 3 = .ok (.invokestatic 53, 3) := by decide +kernel
theorem dX5_pulse_6 : decode cX5_pulse 6 = .ok (.ifCond .eq 13, 3) := by decide +kernel
theorem dX5_pulse_9 : decode cX5_pulse 9 = .ok (.new 57, 3) := by decide +kernel
theorem dX5_pulse_12 : decode cX5_pulse 12 = .ok (.dup, 1) := by decide +kernel
theorem dX5_pulse_13 : decode cX5_pulse 13 = .ok (.ldc 171, 2) := by decide +kernel
theorem dX5_pulse_15 : decode cX5_pulse 15 = .ok (.invokespecial 61, 3) := by decide +kernel
theorem dX5_pulse_18 : decode cX5_pulse 18 = .ok (.athrow, 1) := by decide +kernel
theorem dX5_pulse_19 : decode cX5_pulse 19 = .ok (.aload_n 0, 1) := by decide +kernel
theorem dX5_pulse_20 : decode cX5_pulse 20 = .ok (.getfield 19, 3) := by decide +kernel
theorem dX5_pulse_23 : decode cX5_pulse 23 = .ok (.getfield 109, 3) := by decide +kernel
theorem dX5_pulse_26 : decode cX5_pulse 26 = .ok (.astore_n 2, 1) := by decide +kernel
theorem dX5_pulse_27 : decode cX5_pulse 27 = .ok (.aload_n 2, 1) := by decide +kernel
theorem dX5_pulse_28 : decode cX5_pulse 28 = .ok (.getfield 145, 3) := by decide +kernel
theorem dX5_pulse_31 : decode cX5_pulse 31 = .ok (.ifCond .ne 6, 3) := by decide +kernel
theorem dX5_pulse_34 : decode cX5_pulse 34 = .ok (.bipush (-9), 2) := by decide +kernel
theorem dX5_pulse_36 : decode cX5_pulse 36 = .ok (.ireturn, 1) := by decide +kernel
theorem dX5_pulse_37 : decode cX5_pulse 37 = .ok (.iload_n 1, 1) := by decide +kernel
theorem dX5_pulse_38 : decode cX5_pulse 38 = .ok (.tableswitch 46 0 2 #[26, 36, 41], 26) := by decide +kernel
theorem dX5_pulse_64 : decode cX5_pulse 64 = .ok (.aload_n 2, 1) := by decide +kernel
theorem dX5_pulse_65 : decode cX5_pulse 65 = .ok (.getfield 113, 3) := by decide +kernel
theorem dX5_pulse_68 : decode cX5_pulse 68 = .ok (.aload_n 2, 1) := by decide +kernel
theorem dX5_pulse_69 : decode cX5_pulse 69 = .ok (.getfield 173, 3) := by decide +kernel
theorem dX5_pulse_72 : decode cX5_pulse 72 = .ok (.isub, 1) := by decide +kernel
theorem dX5_pulse_73 : decode cX5_pulse 73 = .ok (.ireturn, 1) := by decide +kernel
theorem dX5_pulse_74 : decode cX5_pulse 74 = .ok (.aload_n 2, 1) := by decide +kernel
theorem dX5_pulse_75 : decode cX5_pulse 75 = .ok (.getfield 176, 3) := by decide +kernel
theorem dX5_pulse_78 : decode cX5_pulse 78 = .ok (.ireturn, 1) := by decide +kernel
theorem dX5_pulse_79 : decode cX5_pulse 79 = .ok (.aload_n 2, 1) := by decide +kernel
theorem dX5_pulse_80 : decode cX5_pulse 80 = .ok (.getfield 179, 3) := by decide +kernel
theorem dX5_pulse_83 : decode cX5_pulse 83 = .ok (.ireturn, 1) := by decide +kernel
theorem dX5_pulse_84 : decode cX5_pulse 84 = .ok (.aload_n 2, 1) := by decide +kernel
theorem dX5_pulse_85 : decode cX5_pulse 85 = .ok (.getfield 182, 3) := by decide +kernel
theorem dX5_pulse_88 : decode cX5_pulse 88 = .ok (.ifCond .eq 7, 3) := by decide +kernel
theorem dX5_pulse_91 : decode cX5_pulse 91 = .ok (.iconst 1, 1) := by decide +kernel
theorem dX5_pulse_92 : decode cX5_pulse 92 = .ok (.goto 4, 3) := by decide +kernel
theorem dX5_pulse_95 : decode cX5_pulse 95 = .ok (.iconst 0, 1) := by decide +kernel
theorem dX5_pulse_96 : decode cX5_pulse 96 = .ok (.ireturn, 1) := by decide +kernel
theorem dX5_fate_0 : decode cX5_fate 0 = .ok (.iload_n 1, 1) := by decide +kernel
theorem dX5_fate_1 : decode cX5_fate 1 = .ok (.ifCond .ge 13, 3) := by decide +kernel
theorem dX5_fate_4 : decode cX5_fate 4 = .ok (.new 57, 3) := by decide +kernel
theorem dX5_fate_7 : decode cX5_fate 7 = .ok (.dup, 1) := by decide +kernel
theorem dX5_fate_8 : decode cX5_fate 8 = .ok (.ldc 185, 2) := by decide +kernel
theorem dX5_fate_10 : decode cX5_fate 10 = .ok (.invokespecial 61, 3) := by decide +kernel
theorem dX5_fate_13 : decode cX5_fate 13 = .ok (.athrow, 1) := by decide +kernel
theorem dX5_fate_14 : decode cX5_fate 14 = .ok (.aload_n 0, 1) := by decide +kernel
theorem dX5_fate_15 : decode cX5_fate 15 = .ok (.getfield 19, 3) := by decide +kernel
theorem dX5_fate_18 : decode cX5_fate 18 = .ok (.getfield 100, 3) := by decide +kernel
theorem dX5_fate_21 : decode cX5_fate 21 = .ok (.getfield 142, 3) := by decide +kernel
theorem dX5_fate_24 : decode cX5_fate 24 = .ok (.iload_n 1, 1) := by decide +kernel
theorem dX5_fate_25 : decode cX5_fate 25 = .ok (.invokevirtual 187, 3) := by decide +kernel
theorem dX5_fate_28 : decode cX5_fate 28 = .ok (.ireturn, 1) := by decide +kernel
theorem dX5_longest_0 : decode cX5_longest 0 = .ok (.iload_n 1, 1) := by decide +kernel
theorem dX5_longest_1 : decode cX5_longest 1 = .ok (.iconst 0, 1) := by decide +kernel
theorem dX5_longest_2 : decode cX5_longest 2 = .ok (.iconst 3, 1) := by decide +kernel
theorem dX5_longest_3 : decode cX5_longest 3 = .ok (.invokestatic 53, 3) := by decide +kernel
theorem dX5_longest_6 : decode cX5_longest 6 = .ok (.ifCond .eq 13, 3) := by decide +kernel
theorem dX5_longest_9 : decode cX5_longest 9 = .ok (.new 57, 3) := by decide +kernel
theorem dX5_longest_12 : decode cX5_longest 12 = .ok (.dup, 1) := by decide +kernel
theorem dX5_longest_13 : decode cX5_longest 13 = .ok (.ldc 190, 2) := by decide +kernel
theorem dX5_longest_15 : decode cX5_longest 15 = .ok (.invokespecial 61, 3) := by decide +kernel
theorem dX5_longest_18 : decode cX5_longest 18 = .ok (.athrow, 1) := by decide +kernel
theorem dX5_longest_19 : decode cX5_longest 19 = .ok (.aload_n 0, 1) := by decide +kernel
theorem dX5_longest_20 : decode cX5_longest 20 = .ok (.getfield 19, 3) := by decide +kernel
theorem dX5_longest_23 : decode cX5_longest 23 = .ok (.getfield 100, 3) := by decide +kernel
theorem dX5_longest_26 : decode cX5_longest 26 = .ok (.getfield 142, 3) := by decide +kernel
theorem dX5_longest_29 : decode cX5_longest 29 = .ok (.iload_n 1, 1) := by decide +kernel
theorem dX5_longest_30 : decode cX5_longest 30 = .ok (.invokevirtual 192, 3) := by decide +kernel
theorem dX5_longest_33 : decode cX5_longest 33 = .ok (.ireturn, 1) := by decide +kernel
theorem dX5_pattern_0 : decode cX5_pattern 0 = .ok (.iload_n 1, 1) := by decide +kernel
theorem dX5_pattern_1 : decode cX5_pattern 1 = .ok (.iconst 1, 1) := by decide +kernel
theorem dX5_pattern_2 : decode cX5_pattern 2 = .ok (.bipush 8, 2) := by decide +kernel
theorem dX5_pattern_4 : decode cX5_pattern 4 = .ok (.invokestatic 53, 3) := by decide +kernel
theorem dX5_pattern_7 : decode cX5_pattern 7 = .ok (.ifCond .eq 13, 3) := by decide +kernel
theorem dX5_pattern_10 : decode cX5_pattern 10 = .ok (.new 57, 3) := by decide +kernel
theorem dX5_pattern_13 : decode cX5_pattern 13 = .ok (.dup, 1) := by decide +kernel
theorem dX5_pattern_14 : decode cX5_pattern 14 = .ok (.ldc 195, 2) := by decide +kernel
theorem dX5_pattern_16 : decode cX5_pattern 16 = .ok (.invokespecial 61, 3) := by decide +kernel
theorem dX5_pattern_19 : decode cX5_pattern 19 = .ok (.athrow, 1) := by decide +kernel
theorem dX5_pattern_20 : decode cX5_pattern 20 = .ok (.iload_n 1, 1) := by decide +kernel
theorem dX5_pattern_21 : decode cX5_pattern 21 = .ok (.iload_n 2, 1) := by decide +kernel
theorem dX5_pattern_22 : decode cX5_pattern 22 = .ok (.invokestatic 197, 3) := by decide +kernel
theorem dX5_pattern_25 : decode cX5_pattern 25 = .ok (.ifCond .ne 13, 3) := by decide +kernel
theorem dX5_pattern_28 : decode cX5_pattern 28 = .ok (.new 57, 3) := by decide +kernel
theorem dX5_pattern_31 : decode cX5_pattern 31 = .ok (.dup, 1) := by decide +kernel
theorem dX5_pattern_32 : decode cX5_pattern 32 = .ok (.ldc 201, 2) := by decide +kernel
theorem dX5_pattern_34 : decode cX5_pattern 34 = .ok (.invokespecial 61, 3) := by decide +kernel
theorem dX5_pattern_37 : decode cX5_pattern 37 = .ok (.athrow, 1) := by decide +kernel
theorem dX5_pattern_38 : decode cX5_pattern 38 = .ok (.aload_n 0, 1) := by decide +kernel
theorem dX5_pattern_39 : decode cX5_pattern 39 = .ok (.getfield 19, 3) := by decide +kernel
theorem dX5_pattern_42 : decode cX5_pattern 42 = .ok (.getfield 100, 3) := by decide +kernel
theorem dX5_pattern_45 : decode cX5_pattern 45 = .ok (.getfield 142, 3) := by decide +kernel
theorem dX5_pattern_48 : decode cX5_pattern 48 = .ok (.iload_n 1, 1) := by decide +kernel
theorem dX5_pattern_49 : decode cX5_pattern 49 = .ok (.iload_n 2, 1) := by decide +kernel
theorem dX5_pattern_50 : decode cX5_pattern 50 = .ok (.invokevirtual 203, 3) := by decide +kernel
theorem dX5_pattern_53 : decode cX5_pattern 53 = .ok (.ireturn, 1) := by decide +kernel
theorem dX5_rain_0 : decode cX5_rain 0 = .ok (.iload_n 1, 1) := by decide +kernel
theorem dX5_rain_1 : decode cX5_rain 1 = .ok (.iconst 0, 1) := by decide +kernel
theorem dX5_rain_2 : decode cX5_rain 2 = .ok (.iconst 2, 1) := by decide +kernel
theorem dX5_rain_3 : decode cX5_rain 3 = .ok (.invokestatic 53, 3) := by decide +kernel
theorem dX5_rain_6 : decode cX5_rain 6 = .ok (.ifCond .eq 13, 3) := by decide +kernel
theorem dX5_rain_9 : decode cX5_rain 9 = .ok (.new 57, 3) := by decide +kernel
theorem dX5_rain_12 : decode cX5_rain 12 = .ok (.dup, 1) := by decide +kernel
theorem dX5_rain_13 : decode cX5_rain 13 = .ok (.ldc 207, 2) := by decide +kernel
theorem dX5_rain_15 : decode cX5_rain 15 = .ok (.invokespecial 61, 3) := by decide +kernel
theorem dX5_rain_18 : decode cX5_rain 18 = .ok (.athrow, 1) := by decide +kernel
theorem dX5_rain_19 : decode cX5_rain 19 = .ok (.aload_n 0, 1) := by decide +kernel
theorem dX5_rain_20 : decode cX5_rain 20 = .ok (.getfield 19, 3) := by decide +kernel
theorem dX5_rain_23 : decode cX5_rain 23 = .ok (.getfield 109, 3) := by decide +kernel
theorem dX5_rain_26 : decode cX5_rain 26 = .ok (.iload_n 1, 1) := by decide +kernel
theorem dX5_rain_27 : decode cX5_rain 27 = .ok (.invokevirtual 209, 3) := by decide +kernel
theorem dX5_rain_30 : decode cX5_rain 30 = .ok (.lreturn, 1) := by decide +kernel
theorem dX5_trueRain_0 : decode cX5_trueRain 0 = .ok (.aload_n 0, 1) := by decide +kernel
theorem dX5_trueRain_1 : decode cX5_trueRain 1 = .ok (.getfield 19, 3) := by decide +kernel
theorem dX5_trueRain_4 : decode cX5_trueRain 4 = .ok (.getfield 100, 3) := by decide +kernel
theorem dX5_trueRain_7 : decode cX5_trueRain 7 = .ok (.getfield 213, 3) := by decide +kernel
theorem dX5_trueRain_10 : decode cX5_trueRain 10 = .ok (.lreturn, 1) := by decide +kernel
theorem dX5_drop_0 : decode cX5_drop 0 = .ok (.iload_n 1, 1) := by decide +kernel
theorem dX5_drop_1 : decode cX5_drop 1 = .ok (.iload_n 2, 1) := by decide +kernel
theorem dX5_drop_2 : decode cX5_drop 2 = .ok (.invokestatic 217, 3) := by decide +kernel
theorem dX5_drop_5 : decode cX5_drop 5 = .ok (.ifCond .ne 13, 3) := by decide +kernel
theorem dX5_drop_8 : decode cX5_drop 8 = .ok (.new 57, 3) := by decide +kernel
theorem dX5_drop_11 : decode cX5_drop 11 = .ok (.dup, 1) := by decide +kernel
theorem dX5_drop_12 : decode cX5_drop 12 = .ok (.ldc 220, 2) := by decide +kernel
theorem dX5_drop_14 : decode cX5_drop 14 = .ok (.invokespecial 61, 3) := by decide +kernel
theorem dX5_drop_17 : decode cX5_drop 17 = .ok (.athrow, 1) := by decide +kernel
theorem dX5_drop_18 : decode cX5_drop 18 = .ok (.aload_n 0, 1) := by decide +kernel
theorem dX5_drop_19 : decode cX5_drop 19 = .ok (.invokevirtual 222, 3) := by decide +kernel
theorem dX5_drop_22 : decode cX5_drop 22 = .ok (.aload_n 0, 1) := by decide +kernel
theorem dX5_drop_23 : decode cX5_drop 23 = .ok (.getfield 19, 3) := by decide +kernel
theorem dX5_drop_26 : decode cX5_drop 26 = .ok (.iload_n 1, 1) := by decide +kernel
theorem dX5_drop_27 : decode cX5_drop 27 = .ok (.iload_n 2, 1) := by decide +kernel
theorem dX5_drop_28 : decode cX5_drop 28 = .ok (.invokevirtual 225, 3) := by decide +kernel
theorem dX5_drop_31 : decode cX5_drop 31 = .ok (.ireturn, 1) := by decide +kernel
theorem dX5_pass_0 : decode cX5_pass 0 = .ok (.iload_n 1, 1) := by decide +kernel
theorem dX5_pass_1 : decode cX5_pass 1 = .ok (.iconst 1, 1) := by decide +kernel
theorem dX5_pass_2 : decode cX5_pass 2 = .ok (.bipush 99, 2) := by decide +kernel
theorem dX5_pass_4 : decode cX5_pass 4 = .ok (.invokestatic 53, 3) := by decide +kernel
theorem dX5_pass_7 : decode cX5_pass 7 = .ok (.ifCond .eq 13, 3) := by decide +kernel
theorem dX5_pass_10 : decode cX5_pass 10 = .ok (.new 57, 3) := by decide +kernel
theorem dX5_pass_13 : decode cX5_pass 13 = .ok (.dup, 1) := by decide +kernel
theorem dX5_pass_14 : decode cX5_pass 14 = .ok (.ldc 228, 2) := by decide +kernel
theorem dX5_pass_16 : decode cX5_pass 16 = .ok (.invokespecial 61, 3) := by decide +kernel
theorem dX5_pass_19 : decode cX5_pass 19 = .ok (.athrow, 1) := by decide +kernel
theorem dX5_pass_20 : decode cX5_pass 20 = .ok (.aload_n 0, 1) := by decide +kernel
theorem dX5_pass_21 : decode cX5_pass 21 = .ok (.invokevirtual 222, 3) := by decide +kernel
theorem dX5_pass_24 : decode cX5_pass 24 = .ok (.aload_n 0, 1) := by decide +kernel
theorem dX5_pass_25 : decode cX5_pass 25 = .ok (.getfield 19, 3) := by decide +kernel
theorem dX5_pass_28 : decode cX5_pass 28 = .ok (.getfield 109, 3) := by decide +kernel
theorem dX5_pass_31 : decode cX5_pass 31 = .ok (.iload_n 1, 1) := by decide +kernel
theorem dX5_pass_32 : decode cX5_pass 32 = .ok (.invokevirtual 230, 3) := by decide +kernel
theorem dX5_pass_35 : decode cX5_pass 35 = .ok (.aload_n 0, 1) := by decide +kernel
theorem dX5_pass_36 : decode cX5_pass 36 = .ok (.getfield 19, 3) := by decide +kernel
theorem dX5_pass_39 : decode cX5_pass 39 = .ok (.getfield 109, 3) := by decide +kernel
theorem dX5_pass_42 : decode cX5_pass 42 = .ok (.aload_n 0, 1) := by decide +kernel
theorem dX5_pass_43 : decode cX5_pass 43 = .ok (.getfield 19, 3) := by decide +kernel
theorem dX5_pass_46 : decode cX5_pass 46 = .ok (.getfield 109, 3) := by decide +kernel
theorem dX5_pass_49 : decode cX5_pass 49 = .ok (.getfield 113, 3) := by decide +kernel
theorem dX5_pass_52 : decode cX5_pass 52 = .ok (.invokevirtual 132, 3) := by decide +kernel
theorem dX5_pass_55 : decode cX5_pass 55 = .ok (.ireturn, 1) := by decide +kernel
theorem dX5_set_0 : decode cX5_set 0 = .ok (.iload_n 1, 1) := by decide +kernel
theorem dX5_set_1 : decode cX5_set 1 = .ok (.iload_n 2, 1) := by decide +kernel
theorem dX5_set_2 : decode cX5_set 2 = .ok (.invokestatic 233, 3) := by decide +kernel
theorem dX5_set_5 : decode cX5_set 5 = .ok (.ifCond .ne 13, 3) := by decide +kernel
theorem dX5_set_8 : decode cX5_set 8 = .ok (.new 57, 3) := by decide +kernel
theorem dX5_set_11 : decode cX5_set 11 = .ok (.dup, 1) := by decide +kernel
theorem dX5_set_12 : decode cX5_set 12 = .ok (.ldc 236, 2) := by decide +kernel
theorem dX5_set_14 : decode cX5_set 14 = .ok (.invokespecial 61, 3) := by decide +kernel
theorem dX5_set_17 : decode cX5_set 17 = .ok (.athrow, 1) := by decide +kernel
theorem dX5_set_18 : decode cX5_set 18 = .ok (.aload_n 0, 1) := by decide +kernel
theorem dX5_set_19 : decode cX5_set 19 = .ok (.invokevirtual 222, 3) := by decide +kernel
theorem dX5_set_22 : decode cX5_set 22 = .ok (.aload_n 0, 1) := by decide +kernel
theorem dX5_set_23 : decode cX5_set 23 = .ok (.getfield 19, 3) := by decide +kernel
theorem dX5_set_26 : decode cX5_set 26 = .ok (.getfield 109, 3) := by decide +kernel
theorem dX5_set_29 : decode cX5_set 29 = .ok (.getfield 152, 3) := by decide +kernel
theorem dX5_set_32 : decode cX5_set 32 = .ok (.iload_n 1, 1) := by decide +kernel
theorem dX5_set_33 : decode cX5_set 33 = .ok (.iaload, 1) := by decide +kernel
theorem dX5_set_34 : decode cX5_set 34 = .ok (.istore_n 3, 1) := by decide +kernel
theorem dX5_set_35 : decode cX5_set 35 = .ok (.aload_n 0, 1) := by decide +kernel
theorem dX5_set_36 : decode cX5_set 36 = .ok (.getfield 19, 3) := by decide +kernel
theorem dX5_set_39 : decode cX5_set 39 = .ok (.getfield 109, 3) := by decide +kernel
theorem dX5_set_42 : decode cX5_set 42 = .ok (.getfield 152, 3) := by decide +kernel
theorem dX5_set_45 : decode cX5_set 45 = .ok (.iload_n 1, 1) := by decide +kernel
theorem dX5_set_46 : decode cX5_set 46 = .ok (.iload_n 2, 1) := by decide +kernel
theorem dX5_set_47 : decode cX5_set 47 = .ok (.iastore, 1) := by decide +kernel
theorem dX5_set_48 : decode cX5_set 48 = .ok (.iload_n 3, 1) := by decide +kernel
theorem dX5_set_49 : decode cX5_set 49 = .ok (.ireturn, 1) := by decide +kernel
theorem dX5_setBorder_0 : decode cX5_setBorder 0 = .ok (.iload_n 1, 1) := by decide +kernel
theorem dX5_setBorder_1 : decode cX5_setBorder 1 = .ok (.iconst 1, 1) := by decide +kernel
theorem dX5_setBorder_2 : decode cX5_setBorder 2 = .ok (.bipush 7, 2) := by decide +kernel
theorem dX5_setBorder_4 : decode cX5_setBorder 4 = .ok (.invokestatic 53, 3) := by decide +kernel
theorem dX5_setBorder_7 : decode cX5_setBorder 7 = .ok (.ifCond .eq 13, 3) := by decide +kernel
theorem dX5_setBorder_10 : decode cX5_setBorder 10 = .ok (.new 155, 3) := by decide +kernel
theorem dX5_setBorder_13 : decode cX5_setBorder 13 = .ok (.dup, 1) := by decide +kernel
theorem dX5_setBorder_14 : decode cX5_setBorder 14 = .ok (.ldc 238, 2) := by decide +kernel
theorem dX5_setBorder_16 : decode cX5_setBorder 16 = .ok (.invokespecial 159, 3) := by decide +kernel
theorem dX5_setBorder_19 : decode cX5_setBorder 19 = .ok (.athrow, 1) := by decide +kernel
theorem dX5_setBorder_20 : decode cX5_setBorder 20 = .ok (.iload_n 2, 1) := by decide +kernel
theorem dX5_setBorder_21 : decode cX5_setBorder 21 = .ok (.iconst 1, 1) := by decide +kernel
theorem dX5_setBorder_22 : decode cX5_setBorder 22 = .ok (.sipush 5000, 3) := by decide +kernel
theorem dX5_setBorder_25 : decode cX5_setBorder 25 = .ok (.invokestatic 53, 3) := by decide +kernel
theorem dX5_setBorder_28 : decode cX5_setBorder 28 = .ok (.ifCond .eq 13, 3) := by decide +kernel
theorem dX5_setBorder_31 : decode cX5_setBorder 31 = .ok (.new 57, 3) := by decide +kernel
theorem dX5_setBorder_34 : decode cX5_setBorder 34 = .ok (.dup, 1) := by decide +kernel
theorem dX5_setBorder_35 : decode cX5_setBorder 35 = .ok (.ldc 240, 2) := by decide +kernel
theorem dX5_setBorder_37 : decode cX5_setBorder 37 = .ok (.invokespecial 61, 3) := by decide +kernel
theorem dX5_setBorder_40 : decode cX5_setBorder 40 = .ok (.athrow, 1) := by decide +kernel
theorem dX5_setBorder_41 : decode cX5_setBorder 41 = .ok (.aload_n 0, 1) := by decide +kernel
theorem dX5_setBorder_42 : decode cX5_setBorder 42 = .ok (.getfield 19, 3) := by decide +kernel
theorem dX5_setBorder_45 : decode cX5_setBorder 45 = .ok (.getfield 109, 3) := by decide +kernel
theorem dX5_setBorder_48 : decode cX5_setBorder 48 = .ok (.iload_n 1, 1) := by decide +kernel
theorem dX5_setBorder_49 : decode cX5_setBorder 49 = .ok (.iload_n 2, 1) := by decide +kernel
theorem dX5_setBorder_50 : decode cX5_setBorder 50 = .ok (.invokevirtual 242, 3) := by decide +kernel
theorem dX5_setBorder_53 : decode cX5_setBorder 53 = .ok (.ifCond .ne 13, 3) := by decide +kernel
theorem dX5_setBorder_56 : decode cX5_setBorder 56 = .ok (.new 68, 3) := by decide +kernel
theorem dX5_setBorder_59 : decode cX5_setBorder 59 = .ok (.dup, 1) := by decide +kernel
theorem dX5_setBorder_60 : decode cX5_setBorder 60 = .ok (.ldc 245, 2) := by decide +kernel
theorem dX5_setBorder_62 : decode cX5_setBorder 62 = .ok (.invokespecial 72, 3) := by decide +kernel
theorem dX5_setBorder_65 : decode cX5_setBorder 65 = .ok (.athrow, 1) := by decide +kernel
theorem dX5_setBorder_66 : decode cX5_setBorder 66 = .ok (.aload_n 0, 1) := by decide +kernel
theorem dX5_setBorder_67 : decode cX5_setBorder 67 = .ok (.invokevirtual 222, 3) := by decide +kernel
theorem dX5_setBorder_70 : decode cX5_setBorder 70 = .ok (.aload_n 0, 1) := by decide +kernel
theorem dX5_setBorder_71 : decode cX5_setBorder 71 = .ok (.getfield 19, 3) := by decide +kernel
theorem dX5_setBorder_74 : decode cX5_setBorder 74 = .ok (.getfield 109, 3) := by decide +kernel
theorem dX5_setBorder_77 : decode cX5_setBorder 77 = .ok (.getfield 247, 3) := by decide +kernel
theorem dX5_setBorder_80 : decode cX5_setBorder 80 = .ok (.iload_n 1, 1) := by decide +kernel
theorem dX5_setBorder_81 : decode cX5_setBorder 81 = .ok (.iaload, 1) := by decide +kernel
theorem dX5_setBorder_82 : decode cX5_setBorder 82 = .ok (.istore_n 3, 1) := by decide +kernel
theorem dX5_setBorder_83 : decode cX5_setBorder 83 = .ok (.aload_n 0, 1) := by decide +kernel
theorem dX5_setBorder_84 : decode cX5_setBorder 84 = .ok (.getfield 19, 3) := by decide +kernel
theorem dX5_setBorder_87 : decode cX5_setBorder 87 = .ok (.getfield 109, 3) := by decide +kernel
theorem dX5_setBorder_90 : decode cX5_setBorder 90 = .ok (.getfield 247, 3) := by decide +kernel
theorem dX5_setBorder_93 : decode cX5_setBorder 93 = .ok (.iload_n 1, 1) := by decide +kernel
theorem dX5_setBorder_94 : decode cX5_setBorder 94 = .ok (.iload_n 2, 1) := by decide +kernel
theorem dX5_setBorder_95 : decode cX5_setBorder 95 = .ok (.iastore, 1) := by decide +kernel
theorem dX5_setBorder_96 : decode cX5_setBorder 96 = .ok (.iload_n 3, 1) := by decide +kernel
theorem dX5_setBorder_97 : decode cX5_setBorder 97 = .ok (.ireturn, 1) := by decide +kernel
theorem dX5_empty_0 : decode cX5_empty 0 = .ok (.aload_n 0, 1) := by decide +kernel
theorem dX5_empty_1 : decode cX5_empty 1 = .ok (.invokevirtual 222, 3) := by decide +kernel
theorem dX5_empty_4 : decode cX5_empty 4 = .ok (.aload_n 0, 1) := by decide +kernel
theorem dX5_empty_5 : decode cX5_empty 5 = .ok (.getfield 19, 3) := by decide +kernel
theorem dX5_empty_8 : decode cX5_empty 8 = .ok (.getfield 109, 3) := by decide +kernel
theorem dX5_empty_11 : decode cX5_empty 11 = .ok (.getfield 121, 3) := by decide +kernel
theorem dX5_empty_14 : decode cX5_empty 14 = .ok (.invokestatic 125, 3) := by decide +kernel
theorem dX5_empty_17 : decode cX5_empty 17 = .ok (.istore_n 1, 1) := by decide +kernel
theorem dX5_empty_18 : decode cX5_empty 18 = .ok (.aload_n 0, 1) := by decide +kernel
theorem dX5_empty_19 : decode cX5_empty 19 = .ok (.getfield 19, 3) := by decide +kernel
theorem dX5_empty_22 : decode cX5_empty 22 = .ok (.getfield 109, 3) := by decide +kernel
theorem dX5_empty_25 : decode cX5_empty 25 = .ok (.invokevirtual 250, 3) := by decide +kernel
theorem dX5_empty_28 : decode cX5_empty 28 = .ok (.iload_n 1, 1) := by decide +kernel
theorem dX5_empty_29 : decode cX5_empty 29 = .ok (.ireturn, 1) := by decide +kernel
theorem dX5_undo_0 : decode cX5_undo 0 = .ok (.aload_n 0, 1) := by decide +kernel
theorem dX5_undo_1 : decode cX5_undo 1 = .ok (.getfield 37, 3) := by decide +kernel
theorem dX5_undo_4 : decode cX5_undo 4 = .ok (.iconst 1, 1) := by decide +kernel
theorem dX5_undo_5 : decode cX5_undo 5 = .ok (.if_icmp .ge 13, 3) := by decide +kernel
theorem dX5_undo_8 : decode cX5_undo 8 = .ok (.new 68, 3) := by decide +kernel
theorem dX5_undo_11 : decode cX5_undo 11 = .ok (.dup, 1) := by decide +kernel
theorem dX5_undo_12 : decode cX5_undo 12 = .ok (.ldc 253, 2) := by decide +kernel
theorem dX5_undo_14 : decode cX5_undo 14 = .ok (.invokespecial 72, 3) := by decide +kernel
theorem dX5_undo_17 : decode cX5_undo 17 = .ok (.athrow, 1) := by decide +kernel
theorem dX5_undo_18 : decode cX5_undo 18 = .ok (.aload_n 0, 1) := by decide +kernel
theorem dX5_undo_19 : decode cX5_undo 19 = .ok (.aload_n 0, 1) := by decide +kernel
theorem dX5_undo_20 : decode cX5_undo 20 = .ok (.getfield 33, 3) := by decide +kernel
theorem dX5_undo_23 : decode cX5_undo 23 = .ok (.ifCond .le 12, 3) := by decide +kernel
theorem dX5_undo_26 : decode cX5_undo 26 = .ok (.aload_n 0, 1) := by decide +kernel
theorem dX5_undo_27 : decode cX5_undo 27 = .ok (.getfield 33, 3) := by decide +kernel
theorem dX5_undo_30 : decode cX5_undo 30 = .ok (.iconst 1, 1) := by decide +kernel
theorem dX5_undo_31 : decode cX5_undo 31 = .ok (.isub, 1) := by decide +kernel
theorem dX5_undo_32 : decode cX5_undo 32 = .ok (.goto 5, 3) := by decide +kernel
theorem dX5_undo_35 : decode cX5_undo 35 = .ok (.bipush 13, 2) := by decide +kernel
theorem dX5_undo_37 : decode cX5_undo 37 = .ok (.putfield 33, 3) := by decide +kernel
theorem dX5_undo_40 : decode cX5_undo 40 = .ok (.aload_n 0, 1) := by decide +kernel
theorem dX5_undo_41 : decode cX5_undo 41 = .ok (.dup, 1) := by decide +kernel
theorem dX5_undo_42 : decode cX5_undo 42 = .ok (.getfield 37, 3) := by decide +kernel
theorem dX5_undo_45 : decode cX5_undo 45 = .ok (.iconst 1, 1) := by decide +kernel
theorem dX5_undo_46 : decode cX5_undo 46 = .ok (.isub, 1) := by decide +kernel
theorem dX5_undo_47 : decode cX5_undo 47 = .ok (.putfield 37, 3) := by decide +kernel
theorem dX5_undo_50 : decode cX5_undo 50 = .ok (.aload_n 0, 1) := by decide +kernel
theorem dX5_undo_51 : decode cX5_undo 51 = .ok (.getfield 19, 3) := by decide +kernel
theorem dX5_undo_54 : decode cX5_undo 54 = .ok (.aload_n 0, 1) := by decide +kernel
theorem dX5_undo_55 : decode cX5_undo 55 = .ok (.getfield 29, 3) := by decide +kernel
theorem dX5_undo_58 : decode cX5_undo 58 = .ok (.aload_n 0, 1) := by decide +kernel
theorem dX5_undo_59 : decode cX5_undo 59 = .ok (.getfield 33, 3) := by decide +kernel
theorem dX5_undo_62 : decode cX5_undo 62 = .ok (.aaload, 1) := by decide +kernel
theorem dX5_undo_63 : decode cX5_undo 63 = .ok (.invokevirtual 86, 3) := by decide +kernel
theorem dX5_undo_66 : decode cX5_undo 66 = .ok (.aload_n 0, 1) := by decide +kernel
theorem dX5_undo_67 : decode cX5_undo 67 = .ok (.getfield 37, 3) := by decide +kernel
theorem dX5_undo_70 : decode cX5_undo 70 = .ok (.ireturn, 1) := by decide +kernel
theorem dX5_wouldBe_0 : decode cX5_wouldBe 0 = .ok (.iload_n 1, 1) := by decide +kernel
theorem dX5_wouldBe_1 : decode cX5_wouldBe 1 = .ok (.iload_n 2, 1) := by decide +kernel
theorem dX5_wouldBe_2 : decode cX5_wouldBe 2 = .ok (.invokestatic 217, 3) := by decide +kernel
theorem dX5_wouldBe_5 : decode cX5_wouldBe 5 = .ok (.ifCond .ne 13, 3) := by decide +kernel
theorem dX5_wouldBe_8 : decode cX5_wouldBe 8 = .ok (.new 57, 3) := by decide +kernel
theorem dX5_wouldBe_11 : decode cX5_wouldBe 11 = .ok (.dup, 1) := by decide +kernel
theorem dX5_wouldBe_12 : decode cX5_wouldBe 12 = .ok (.ldc 220, 2) := by decide +kernel
theorem dX5_wouldBe_14 : decode cX5_wouldBe 14 = .ok (.invokespecial 61, 3) := by decide +kernel
theorem dX5_wouldBe_17 : decode cX5_wouldBe 17 = .ok (.athrow, 1) := by decide +kernel
theorem dX5_wouldBe_18 : decode cX5_wouldBe 18 = .ok (.aload_n 0, 1) := by decide +kernel
theorem dX5_wouldBe_19 : decode cX5_wouldBe 19 = .ok (.getfield 19, 3) := by decide +kernel
theorem dX5_wouldBe_22 : decode cX5_wouldBe 22 = .ok (.getfield 109, 3) := by decide +kernel
theorem dX5_wouldBe_25 : decode cX5_wouldBe 25 = .ok (.aload_n 0, 1) := by decide +kernel
theorem dX5_wouldBe_26 : decode cX5_wouldBe 26 = .ok (.getfield 19, 3) := by decide +kernel
theorem dX5_wouldBe_29 : decode cX5_wouldBe 29 = .ok (.getfield 109, 3) := by decide +kernel
theorem dX5_wouldBe_32 : decode cX5_wouldBe 32 = .ok (.getfield 113, 3) := by decide +kernel
theorem dX5_wouldBe_35 : decode cX5_wouldBe 35 = .ok (.iload_n 1, 1) := by decide +kernel
theorem dX5_wouldBe_36 : decode cX5_wouldBe 36 = .ok (.iadd, 1) := by decide +kernel
theorem dX5_wouldBe_37 : decode cX5_wouldBe 37 = .ok (.aload_n 0, 1) := by decide +kernel
theorem dX5_wouldBe_38 : decode cX5_wouldBe 38 = .ok (.getfield 19, 3) := by decide +kernel
theorem dX5_wouldBe_41 : decode cX5_wouldBe 41 = .ok (.getfield 109, 3) := by decide +kernel
theorem dX5_wouldBe_44 : decode cX5_wouldBe 44 = .ok (.iload_n 2, 1) := by decide +kernel
theorem dX5_wouldBe_45 : decode cX5_wouldBe 45 = .ok (.invokevirtual 255, 3) := by decide +kernel
theorem dX5_wouldBe_48 : decode cX5_wouldBe 48 = .ok (.invokevirtual 258, 3) := by decide +kernel
theorem dX5_wouldBe_51 : decode cX5_wouldBe 51 = .ok (.ireturn, 1) := by decide +kernel
theorem dX5_leastSize_0 : decode cX5_leastSize 0 = .ok (.iload_n 1, 1) := by decide +kernel
theorem dX5_leastSize_1 : decode cX5_leastSize 1 = .ok (.iconst 0, 1) := by decide +kernel
theorem dX5_leastSize_2 : decode cX5_leastSize 2 = .ok (.bipush 99, 2) := by decide +kernel
theorem dX5_leastSize_4 : decode cX5_leastSize 4 = .ok (.invokestatic 53, 3) := by decide +kernel
theorem dX5_leastSize_7 : decode cX5_leastSize 7 = .ok (.ifCond .eq 14, 3) := by decide +kernel
theorem dX5_leastSize_10 : decode cX5_leastSize 10 = .ok (.new 57, 3) := by decide +kernel
theorem dX5_leastSize_13 : decode cX5_leastSize 13 = .ok (.dup, 1) := by decide +kernel
theorem dX5_leastSize_14 : decode cX5_leastSize 14 = .ok (.ldc_w 261, 3) := by decide +kernel
theorem dX5_leastSize_17 : decode cX5_leastSize 17 = .ok (.invokespecial 61, 3) := by decide +kernel
theorem dX5_leastSize_20 : decode cX5_leastSize 20 = .ok (.athrow, 1) := by decide +kernel
theorem dX5_leastSize_21 : decode cX5_leastSize 21 = .ok (.aload_n 0, 1) := by decide +kernel
theorem dX5_leastSize_22 : decode cX5_leastSize 22 = .ok (.getfield 19, 3) := by decide +kernel
theorem dX5_leastSize_25 : decode cX5_leastSize 25 = .ok (.getfield 109, 3) := by decide +kernel
theorem dX5_leastSize_28 : decode cX5_leastSize 28 = .ok (.astore_n 2, 1) := by decide +kernel
theorem dX5_leastSize_29 : decode cX5_leastSize 29 = .ok (.iconst 1, 1) := by decide +kernel
theorem dX5_leastSize_30 : decode cX5_leastSize 30 = .ok (.istore_n 3, 1) := by decide +kernel
theorem dX5_leastSize_31 : decode cX5_leastSize 31 = .ok (.iload_n 3, 1) := by decide +kernel
theorem dX5_leastSize_32 : decode cX5_leastSize 32 = .ok (.bipush 60, 2) := by decide +kernel
theorem dX5_leastSize_34 : decode cX5_leastSize 34 = .ok (.if_icmp .gt 29, 3) := by decide +kernel
theorem dX5_leastSize_37 : decode cX5_leastSize 37 = .ok (.aload_n 2, 1) := by decide +kernel
theorem dX5_leastSize_38 : decode cX5_leastSize 38 = .ok (.aload_n 2, 1) := by decide +kernel
theorem dX5_leastSize_39 : decode cX5_leastSize 39 = .ok (.getfield 113, 3) := by decide +kernel
theorem dX5_leastSize_42 : decode cX5_leastSize 42 = .ok (.iload_n 1, 1) := by decide +kernel
theorem dX5_leastSize_43 : decode cX5_leastSize 43 = .ok (.iadd, 1) := by decide +kernel
theorem dX5_leastSize_44 : decode cX5_leastSize 44 = .ok (.aload_n 2, 1) := by decide +kernel
theorem dX5_leastSize_45 : decode cX5_leastSize 45 = .ok (.iload_n 3, 1) := by decide +kernel
theorem dX5_leastSize_46 : decode cX5_leastSize 46 = .ok (.invokevirtual 255, 3) := by decide +kernel
theorem dX5_leastSize_49 : decode cX5_leastSize 49 = .ok (.invokevirtual 258, 3) := by decide +kernel
theorem dX5_leastSize_52 : decode cX5_leastSize 52 = .ok (.ifCond .ne 5, 3) := by decide +kernel
theorem dX5_leastSize_55 : decode cX5_leastSize 55 = .ok (.iload_n 3, 1) := by decide +kernel
theorem dX5_leastSize_56 : decode cX5_leastSize 56 = .ok (.ireturn, 1) := by decide +kernel
theorem dX5_leastSize_57 : decode cX5_leastSize 57 = .ok (.iinc 3 1, 3) := by decide +kernel
theorem dX5_leastSize_60 : decode cX5_leastSize 60 = .ok (.goto (-29), 3) := by decide +kernel
theorem dX5_leastSize_63 : decode cX5_leastSize 63 = .ok (.bipush (-9), 2) := by decide +kernel
theorem dX5_leastSize_65 : decode cX5_leastSize 65 = .ok (.ireturn, 1) := by decide +kernel
theorem dX5_quietIn_0 : decode cX5_quietIn 0 = .ok (.iload_n 1, 1) := by decide +kernel
theorem dX5_quietIn_1 : decode cX5_quietIn 1 = .ok (.iconst 0, 1) := by decide +kernel
theorem dX5_quietIn_2 : decode cX5_quietIn 2 = .ok (.sipush 5000, 3) := by decide +kernel
theorem dX5_quietIn_5 : decode cX5_quietIn 5 = .ok (.invokestatic 53, 3) := by decide +kernel
theorem dX5_quietIn_8 : decode cX5_quietIn 8 = .ok (.ifCond .eq 14, 3) := by decide +kernel
theorem dX5_quietIn_11 : decode cX5_quietIn 11 = .ok (.new 57, 3) := by decide +kernel
theorem dX5_quietIn_14 : decode cX5_quietIn 14 = .ok (.dup, 1) := by decide +kernel
theorem dX5_quietIn_15 : decode cX5_quietIn 15 = .ok (.ldc_w 263, 3) := by decide +kernel
theorem dX5_quietIn_18 : decode cX5_quietIn 18 = .ok (.invokespecial 61, 3) := by decide +kernel
theorem dX5_quietIn_21 : decode cX5_quietIn 21 = .ok (.athrow, 1) := by decide +kernel
theorem dX5_quietIn_22 : decode cX5_quietIn 22 = .ok (.aload_n 0, 1) := by decide +kernel
theorem dX5_quietIn_23 : decode cX5_quietIn 23 = .ok (.getfield 19, 3) := by decide +kernel
theorem dX5_quietIn_26 : decode cX5_quietIn 26 = .ok (.getfield 109, 3) := by decide +kernel
theorem dX5_quietIn_29 : decode cX5_quietIn 29 = .ok (.astore_n 2, 1) := by decide +kernel
theorem dX5_quietIn_30 : decode cX5_quietIn 30 = .ok (.iconst 0, 1) := by decide +kernel
theorem dX5_quietIn_31 : decode cX5_quietIn 31 = .ok (.istore_n 3, 1) := by decide +kernel
theorem dX5_quietIn_32 : decode cX5_quietIn 32 = .ok (.iload_n 3, 1) := by decide +kernel
theorem dX5_quietIn_33 : decode cX5_quietIn 33 = .ok (.bipush 117, 2) := by decide +kernel
theorem dX5_quietIn_35 : decode cX5_quietIn 35 = .ok (.if_icmp .ge 25, 3) := by decide +kernel
theorem dX5_quietIn_38 : decode cX5_quietIn 38 = .ok (.aload_n 2, 1) := by decide +kernel
theorem dX5_quietIn_39 : decode cX5_quietIn 39 = .ok (.aload_n 2, 1) := by decide +kernel
theorem dX5_quietIn_40 : decode cX5_quietIn 40 = .ok (.getfield 113, 3) := by decide +kernel
theorem dX5_quietIn_43 : decode cX5_quietIn 43 = .ok (.iload_n 3, 1) := by decide +kernel
theorem dX5_quietIn_44 : decode cX5_quietIn 44 = .ok (.iadd, 1) := by decide +kernel
theorem dX5_quietIn_45 : decode cX5_quietIn 45 = .ok (.invokevirtual 132, 3) := by decide +kernel
theorem dX5_quietIn_48 : decode cX5_quietIn 48 = .ok (.iload_n 1, 1) := by decide +kernel
theorem dX5_quietIn_49 : decode cX5_quietIn 49 = .ok (.if_icmp .gt 5, 3) := by decide +kernel
theorem dX5_quietIn_52 : decode cX5_quietIn 52 = .ok (.iload_n 3, 1) := by decide +kernel
theorem dX5_quietIn_53 : decode cX5_quietIn 53 = .ok (.ireturn, 1) := by decide +kernel
theorem dX5_quietIn_54 : decode cX5_quietIn 54 = .ok (.iinc 3 1, 3) := by decide +kernel
theorem dX5_quietIn_57 : decode cX5_quietIn 57 = .ok (.goto (-25), 3) := by decide +kernel
theorem dX5_quietIn_60 : decode cX5_quietIn 60 = .ok (.bipush 117, 2) := by decide +kernel
theorem dX5_quietIn_62 : decode cX5_quietIn 62 = .ok (.ireturn, 1) := by decide +kernel
theorem dX5_replay_0 : decode cX5_replay 0 = .ok (.iconst 1, 1) := by decide +kernel
theorem dX5_replay_1 : decode cX5_replay 1 = .ok (.iload_n 1, 1) := by decide +kernel
theorem dX5_replay_2 : decode cX5_replay 2 = .ok (.invokestatic 233, 3) := by decide +kernel
theorem dX5_replay_5 : decode cX5_replay 5 = .ok (.ifCond .eq 20, 3) := by decide +kernel
theorem dX5_replay_8 : decode cX5_replay 8 = .ok (.iconst 2, 1) := by decide +kernel
theorem dX5_replay_9 : decode cX5_replay 9 = .ok (.iload_n 2, 1) := by decide +kernel
theorem dX5_replay_10 : decode cX5_replay 10 = .ok (.invokestatic 233, 3) := by decide +kernel
theorem dX5_replay_13 : decode cX5_replay 13 = .ok (.ifCond .eq 12, 3) := by decide +kernel
theorem dX5_replay_16 : decode cX5_replay 16 = .ok (.iload_n 3, 1) := by decide +kernel
theorem dX5_replay_17 : decode cX5_replay 17 = .ok (.iconst 0, 1) := by decide +kernel
theorem dX5_replay_18 : decode cX5_replay 18 = .ok (.iconst 3, 1) := by decide +kernel
theorem dX5_replay_19 : decode cX5_replay 19 = .ok (.invokestatic 53, 3) := by decide +kernel
theorem dX5_replay_22 : decode cX5_replay 22 = .ok (.ifCond .eq 14, 3) := by decide +kernel
theorem dX5_replay_25 : decode cX5_replay 25 = .ok (.new 57, 3) := by decide +kernel
theorem dX5_replay_28 : decode cX5_replay 28 = .ok (.dup, 1) := by decide +kernel
theorem dX5_replay_29 : decode cX5_replay 29 = .ok (.ldc_w 265, 3) := by decide +kernel
theorem dX5_replay_32 : decode cX5_replay 32 = .ok (.invokespecial 61, 3) := by decide +kernel
theorem dX5_replay_35 : decode cX5_replay 35 = .ok (.athrow, 1) := by decide +kernel
theorem dX5_replay_36 : decode cX5_replay 36 = .ok (.aload_n 0, 1) := by decide +kernel
theorem dX5_replay_37 : decode cX5_replay 37 = .ok (.iload_n 1, 1) := by decide +kernel
theorem dX5_replay_38 : decode cX5_replay 38 = .ok (.iload_n 2, 1) := by decide +kernel
theorem dX5_replay_39 : decode cX5_replay 39 = .ok (.iload_n 3, 1) := by decide +kernel
theorem dX5_replay_40 : decode cX5_replay 40 = .ok (.invokevirtual 267, 3) := by decide +kernel
theorem dX5_replay_43 : decode cX5_replay 43 = .ok (.ireturn, 1) := by decide +kernel
theorem dX5_bestWindow_0 : decode cX5_bestWindow 0 = .ok (.iload_n 1, 1) := by decide +kernel
theorem dX5_bestWindow_1 : decode cX5_bestWindow 1 = .ok (.iconst 0, 1) := by decide +kernel
theorem dX5_bestWindow_2 : decode cX5_bestWindow 2 = .ok (.iconst 2, 1) := by decide +kernel
theorem dX5_bestWindow_3 : decode cX5_bestWindow 3 = .ok (.invokestatic 53, 3) := by decide +kernel
theorem dX5_bestWindow_6 : decode cX5_bestWindow 6 = .ok (.ifCond .eq 13, 3) := by decide +kernel
theorem dX5_bestWindow_9 : decode cX5_bestWindow 9 = .ok (.new 57, 3) := by decide +kernel
theorem dX5_bestWindow_12 : decode cX5_bestWindow 12 = .ok (.dup, 1) := by decide +kernel
theorem dX5_bestWindow_13 : decode cX5_bestWindow 13 = .ok (.ldc 207, 2) := by decide +kernel
theorem dX5_bestWindow_15 : decode cX5_bestWindow 15 = .ok (.invokespecial 61, 3) := by decide +kernel
theorem dX5_bestWindow_18 : decode cX5_bestWindow 18 = .ok (.athrow, 1) := by decide +kernel
theorem dX5_bestWindow_19 : decode cX5_bestWindow 19 = .ok (.aload_n 0, 1) := by decide +kernel
theorem dX5_bestWindow_20 : decode cX5_bestWindow 20 = .ok (.getfield 19, 3) := by decide +kernel
theorem dX5_bestWindow_23 : decode cX5_bestWindow 23 = .ok (.getfield 100, 3) := by decide +kernel
theorem dX5_bestWindow_26 : decode cX5_bestWindow 26 = .ok (.invokevirtual 271, 3) := by decide +kernel
theorem dX5_bestWindow_29 : decode cX5_bestWindow 29 = .ok (.lstore_n 2, 1) := by decide +kernel
theorem dX5_bestWindow_30 : decode cX5_bestWindow 30 = .ok (.getstatic 275, 3) := by decide +kernel
theorem dX5_bestWindow_33 : decode cX5_bestWindow 33 = .ok (.iconst 1, 1) := by decide +kernel
theorem dX5_bestWindow_34 : decode cX5_bestWindow 34 = .ok (.iaload, 1) := by decide +kernel
theorem dX5_bestWindow_35 : decode cX5_bestWindow 35 = .ok (.istore 4, 2) := by decide +kernel
theorem dX5_bestWindow_37 : decode cX5_bestWindow 37 = .ok (.lconst 0, 1) := by decide +kernel
theorem dX5_bestWindow_38 : decode cX5_bestWindow 38 = .ok (.lstore 5, 2) := by decide +kernel
theorem dX5_bestWindow_40 : decode cX5_bestWindow 40 = .ok (.getstatic 275, 3) := by decide +kernel
theorem dX5_bestWindow_43 : decode cX5_bestWindow 43 = .ok (.iconst 1, 1) := by decide +kernel
theorem dX5_bestWindow_44 : decode cX5_bestWindow 44 = .ok (.iaload, 1) := by decide +kernel
theorem dX5_bestWindow_45 : decode cX5_bestWindow 45 = .ok (.istore 7, 2) := by decide +kernel
theorem dX5_bestWindow_47 : decode cX5_bestWindow 47 = .ok (.iload 7, 2) := by decide +kernel
theorem dX5_bestWindow_49 : decode cX5_bestWindow 49 = .ok (.getstatic 278, 3) := by decide +kernel
theorem dX5_bestWindow_52 : decode cX5_bestWindow 52 = .ok (.iconst 1, 1) := by decide +kernel
theorem dX5_bestWindow_53 : decode cX5_bestWindow 53 = .ok (.iaload, 1) := by decide +kernel
theorem dX5_bestWindow_54 : decode cX5_bestWindow 54 = .ok (.if_icmp .gt 83, 3) := by decide +kernel
theorem dX5_bestWindow_57 : decode cX5_bestWindow 57 = .ok (.aload_n 0, 1) := by decide +kernel
theorem dX5_bestWindow_58 : decode cX5_bestWindow 58 = .ok (.iload 7, 2) := by decide +kernel
theorem dX5_bestWindow_60 : decode cX5_bestWindow 60 = .ok (.aload_n 0, 1) := by decide +kernel
theorem dX5_bestWindow_61 : decode cX5_bestWindow 61 = .ok (.getfield 19, 3) := by decide +kernel
theorem dX5_bestWindow_64 : decode cX5_bestWindow 64 = .ok (.getfield 109, 3) := by decide +kernel
theorem dX5_bestWindow_67 : decode cX5_bestWindow 67 = .ok (.getfield 152, 3) := by decide +kernel
theorem dX5_bestWindow_70 : decode cX5_bestWindow 70 = .ok (.iconst 2, 1) := by decide +kernel
theorem dX5_bestWindow_71 : decode cX5_bestWindow 71 = .ok (.iaload, 1) := by decide +kernel
theorem dX5_bestWindow_72 : decode cX5_bestWindow 72 = .ok (.iconst 0, 1) := by decide +kernel
theorem dX5_bestWindow_73 : decode cX5_bestWindow 73 = .ok (.invokevirtual 267, 3) := by decide +kernel
theorem dX5_bestWindow_76 : decode cX5_bestWindow 76 = .ok (.pop, 1) := by decide +kernel
theorem dX5_bestWindow_77 : decode cX5_bestWindow 77 = .ok (.aload_n 0, 1) := by decide +kernel
theorem dX5_bestWindow_78 : decode cX5_bestWindow 78 = .ok (.getfield 26, 3) := by decide +kernel
theorem dX5_bestWindow_81 : decode cX5_bestWindow 81 = .ok (.getfield 109, 3) := by decide +kernel
theorem dX5_bestWindow_84 : decode cX5_bestWindow 84 = .ok (.invokevirtual 281, 3) := by decide +kernel
theorem dX5_bestWindow_87 : decode cX5_bestWindow 87 = .ok (.aload_n 0, 1) := by decide +kernel
theorem dX5_bestWindow_88 : decode cX5_bestWindow 88 = .ok (.getfield 26, 3) := by decide +kernel
theorem dX5_bestWindow_91 : decode cX5_bestWindow 91 = .ok (.getfield 109, 3) := by decide +kernel
theorem dX5_bestWindow_94 : decode cX5_bestWindow 94 = .ok (.iload_n 1, 1) := by decide +kernel
theorem dX5_bestWindow_95 : decode cX5_bestWindow 95 = .ok (.invokevirtual 209, 3) := by decide +kernel
theorem dX5_bestWindow_98 : decode cX5_bestWindow 98 = .ok (.lload_n 2, 1) := by decide +kernel
theorem dX5_bestWindow_99 : decode cX5_bestWindow 99 = .ok (.lsub, 1) := by decide +kernel
theorem dX5_bestWindow_100 : decode cX5_bestWindow 100 = .ok (.invokestatic 284, 3) := by decide +kernel
theorem dX5_bestWindow_103 : decode cX5_bestWindow 103 = .ok (.lstore 8, 2) := by decide +kernel
theorem dX5_bestWindow_105 : decode cX5_bestWindow 105 = .ok (.iload 7, 2) := by decide +kernel
theorem dX5_bestWindow_107 : decode cX5_bestWindow 107 = .ok (.getstatic 275, 3) := by decide +kernel
theorem dX5_bestWindow_110 : decode cX5_bestWindow 110 = .ok (.iconst 1, 1) := by decide +kernel
theorem dX5_bestWindow_111 : decode cX5_bestWindow 111 = .ok (.iaload, 1) := by decide +kernel
theorem dX5_bestWindow_112 : decode cX5_bestWindow 112 = .ok (.if_icmp .eq 11, 3) := by decide +kernel
theorem dX5_bestWindow_115 : decode cX5_bestWindow 115 = .ok (.lload 8, 2) := by decide +kernel
theorem dX5_bestWindow_117 : decode cX5_bestWindow 117 = .ok (.lload 5, 2) := by decide +kernel
theorem dX5_bestWindow_119 : decode cX5_bestWindow 119 = .ok (.lcmp, 1) := by decide +kernel
theorem dX5_bestWindow_120 : decode cX5_bestWindow 120 = .ok (.ifCond .ge 11, 3) := by decide +kernel
theorem dX5_bestWindow_123 : decode cX5_bestWindow 123 = .ok (.lload 8, 2) := by decide +kernel
theorem dX5_bestWindow_125 : decode cX5_bestWindow 125 = .ok (.lstore 5, 2) := by decide +kernel
theorem dX5_bestWindow_127 : decode cX5_bestWindow 127 = .ok (.iload 7, 2) := by decide +kernel
theorem dX5_bestWindow_129 : decode cX5_bestWindow 129 = .ok (.istore 4, 2) := by decide +kernel
theorem dX5_bestWindow_131 : decode cX5_bestWindow 131 = .ok (.iinc 7 1, 3) := by decide +kernel
theorem dX5_bestWindow_134 : decode cX5_bestWindow 134 = .ok (.goto (-87), 3) := by decide +kernel
theorem dX5_bestWindow_137 : decode cX5_bestWindow 137 = .ok (.iload 4, 2) := by decide +kernel
theorem dX5_bestWindow_139 : decode cX5_bestWindow 139 = .ok (.ireturn, 1) := by decide +kernel
theorem dX5_runScript_0 : decode cX5_runScript 0 = .ok (.iload_n 1, 1) := by decide +kernel
theorem dX5_runScript_1 : decode cX5_runScript 1 = .ok (.iconst 1, 1) := by decide +kernel
theorem dX5_runScript_2 : decode cX5_runScript 2 = .ok (.iconst 3, 1) := by decide +kernel
theorem dX5_runScript_3 : decode cX5_runScript 3 = .ok (.invokestatic 53, 3) := by decide +kernel
theorem dX5_runScript_6 : decode cX5_runScript 6 = .ok (.ifCond .eq 14, 3) := by decide +kernel
theorem dX5_runScript_9 : decode cX5_runScript 9 = .ok (.new 57, 3) := by decide +kernel
theorem dX5_runScript_12 : decode cX5_runScript 12 = .ok (.dup, 1) := by decide +kernel
theorem dX5_runScript_13 : decode cX5_runScript 13 = .ok (.ldc_w 290, 3) := by decide +kernel
theorem dX5_runScript_16 : decode cX5_runScript 16 = .ok (.invokespecial 61, 3) := by decide +kernel
theorem dX5_runScript_19 : decode cX5_runScript 19 = .ok (.athrow, 1) := by decide +kernel
theorem dX5_runScript_20 : decode cX5_runScript 20 = .ok (.lload_n 2, 1) := by decide +kernel
theorem dX5_runScript_21 : decode cX5_runScript 21 = .ok (.lconst 0, 1) := by decide +kernel
theorem dX5_runScript_22 : decode cX5_runScript 22 = .ok (.lcmp, 1) := by decide +kernel
theorem dX5_runScript_23 : decode cX5_runScript 23 = .ok (.ifCond .lt 13, 3) := by decide +kernel
theorem dX5_runScript_26 : decode cX5_runScript 26 = .ok (.lload_n 2, 1) := by decide +kernel
theorem dX5_runScript_27 : decode cX5_runScript 27 = .ok (.iload_n 1, 1) := by decide +kernel
theorem dX5_runScript_28 : decode cX5_runScript 28 = .ok (.invokestatic 292, 3) := by decide +kernel
theorem dX5_runScript_31 : decode cX5_runScript 31 = .ok (.lconst 0, 1) := by decide +kernel
theorem dX5_runScript_32 : decode cX5_runScript 32 = .ok (.lcmp, 1) := by decide +kernel
theorem dX5_runScript_33 : decode cX5_runScript 33 = .ok (.ifCond .eq 14, 3) := by decide +kernel
theorem dX5_runScript_36 : decode cX5_runScript 36 = .ok (.new 57, 3) := by decide +kernel
theorem dX5_runScript_39 : decode cX5_runScript 39 = .ok (.dup, 1) := by decide +kernel
theorem dX5_runScript_40 : decode cX5_runScript 40 = .ok (.ldc_w 296, 3) := by decide +kernel
theorem dX5_runScript_43 : decode cX5_runScript 43 = .ok (.invokespecial 61, 3) := by decide +kernel
theorem dX5_runScript_46 : decode cX5_runScript 46 = .ok (.athrow, 1) := by decide +kernel
theorem dX5_runScript_47 : decode cX5_runScript 47 = .ok (.aload_n 0, 1) := by decide +kernel
theorem dX5_runScript_48 : decode cX5_runScript 48 = .ok (.getfield 26, 3) := by decide +kernel
theorem dX5_runScript_51 : decode cX5_runScript 51 = .ok (.aload_n 0, 1) := by decide +kernel
theorem dX5_runScript_52 : decode cX5_runScript 52 = .ok (.getfield 19, 3) := by decide +kernel
theorem dX5_runScript_55 : decode cX5_runScript 55 = .ok (.invokevirtual 86, 3) := by decide +kernel
theorem dX5_runScript_58 : decode cX5_runScript 58 = .ok (.iconst 0, 1) := by decide +kernel
theorem dX5_runScript_59 : decode cX5_runScript 59 = .ok (.istore 4, 2) := by decide +kernel
theorem dX5_runScript_61 : decode cX5_runScript 61 = .ok (.iload 4, 2) := by decide +kernel
theorem dX5_runScript_63 : decode cX5_runScript 63 = .ok (.iload_n 1, 1) := by decide +kernel
theorem dX5_runScript_64 : decode cX5_runScript 64 = .ok (.if_icmp .ge 38, 3) := by decide +kernel
theorem dX5_runScript_67 : decode cX5_runScript 67 = .ok (.lload_n 2, 1) := by decide +kernel
theorem dX5_runScript_68 : decode cX5_runScript 68 = .ok (.iload_n 1, 1) := by decide +kernel
theorem dX5_runScript_69 : decode cX5_runScript 69 = .ok (.iconst 1, 1) := by decide +kernel
theorem dX5_runScript_70 : decode cX5_runScript 70 = .ok (.isub, 1) := by decide +kernel
theorem dX5_runScript_71 : decode cX5_runScript 71 = .ok (.iload 4, 2) := by decide +kernel
theorem dX5_runScript_73 : decode cX5_runScript 73 = .ok (.isub, 1) := by decide +kernel
theorem dX5_runScript_74 : decode cX5_runScript 74 = .ok (.invokestatic 292, 3) := by decide +kernel
theorem dX5_runScript_77 : decode cX5_runScript 77 = .ok (.ldc2_w 298, 3) := by decide +kernel
theorem dX5_runScript_80 : decode cX5_runScript 80 = .ok (.lrem, 1) := by decide +kernel
theorem dX5_runScript_81 : decode cX5_runScript 81 = .ok (.l2i, 1) := by decide +kernel
theorem dX5_runScript_82 : decode cX5_runScript 82 = .ok (.istore 5, 2) := by decide +kernel
theorem dX5_runScript_84 : decode cX5_runScript 84 = .ok (.aload_n 0, 1) := by decide +kernel
theorem dX5_runScript_85 : decode cX5_runScript 85 = .ok (.iload 5, 2) := by decide +kernel
theorem dX5_runScript_87 : decode cX5_runScript 87 = .ok (.invokevirtual 300, 3) := by decide +kernel
theorem dX5_runScript_90 : decode cX5_runScript 90 = .ok (.ifCond .ne 6, 3) := by decide +kernel
theorem dX5_runScript_93 : decode cX5_runScript 93 = .ok (.iload 4, 2) := by decide +kernel
theorem dX5_runScript_95 : decode cX5_runScript 95 = .ok (.ireturn, 1) := by decide +kernel
theorem dX5_runScript_96 : decode cX5_runScript 96 = .ok (.iinc 4 1, 3) := by decide +kernel
theorem dX5_runScript_99 : decode cX5_runScript 99 = .ok (.goto (-38), 3) := by decide +kernel
theorem dX5_runScript_102 : decode cX5_runScript 102 = .ok (.bipush (-9), 2) := by decide +kernel
theorem dX5_runScript_104 : decode cX5_runScript 104 = .ok (.ireturn, 1) := by decide +kernel
theorem dX5_simulate_0 : decode cX5_simulate 0 = .ok (.iload_n 3, 1) := by decide +kernel
theorem dX5_simulate_1 : decode cX5_simulate 1 = .ok (.iconst 1, 1) := by decide +kernel
theorem dX5_simulate_2 : decode cX5_simulate 2 = .ok (.bipush 99, 2) := by decide +kernel
theorem dX5_simulate_4 : decode cX5_simulate 4 = .ok (.invokestatic 53, 3) := by decide +kernel
theorem dX5_simulate_7 : decode cX5_simulate 7 = .ok (.ifCond .eq 14, 3) := by decide +kernel
theorem dX5_simulate_10 : decode cX5_simulate 10 = .ok (.new 57, 3) := by decide +kernel
theorem dX5_simulate_13 : decode cX5_simulate 13 = .ok (.dup, 1) := by decide +kernel
theorem dX5_simulate_14 : decode cX5_simulate 14 = .ok (.ldc_w 304, 3) := by decide +kernel
theorem dX5_simulate_17 : decode cX5_simulate 17 = .ok (.invokespecial 61, 3) := by decide +kernel
theorem dX5_simulate_20 : decode cX5_simulate 20 = .ok (.athrow, 1) := by decide +kernel
theorem dX5_simulate_21 : decode cX5_simulate 21 = .ok (.aload_n 0, 1) := by decide +kernel
theorem dX5_simulate_22 : decode cX5_simulate 22 = .ok (.getfield 26, 3) := by decide +kernel
theorem dX5_simulate_25 : decode cX5_simulate 25 = .ok (.aload_n 0, 1) := by decide +kernel
theorem dX5_simulate_26 : decode cX5_simulate 26 = .ok (.getfield 19, 3) := by decide +kernel
theorem dX5_simulate_29 : decode cX5_simulate 29 = .ok (.invokevirtual 86, 3) := by decide +kernel
theorem dX5_simulate_32 : decode cX5_simulate 32 = .ok (.lload_n 1, 1) := by decide +kernel
theorem dX5_simulate_33 : decode cX5_simulate 33 = .ok (.lstore 4, 2) := by decide +kernel
theorem dX5_simulate_35 : decode cX5_simulate 35 = .ok (.iconst 0, 1) := by decide +kernel
theorem dX5_simulate_36 : decode cX5_simulate 36 = .ok (.istore 6, 2) := by decide +kernel
theorem dX5_simulate_38 : decode cX5_simulate 38 = .ok (.iconst 0, 1) := by decide +kernel
theorem dX5_simulate_39 : decode cX5_simulate 39 = .ok (.istore 7, 2) := by decide +kernel
theorem dX5_simulate_41 : decode cX5_simulate 41 = .ok (.iload 7, 2) := by decide +kernel
theorem dX5_simulate_43 : decode cX5_simulate 43 = .ok (.iload_n 3, 1) := by decide +kernel
theorem dX5_simulate_44 : decode cX5_simulate 44 = .ok (.if_icmp .ge 94, 3) := by decide +kernel
theorem dX5_simulate_47 : decode cX5_simulate 47 = .ok (.lload 4, 2) := by decide +kernel
theorem dX5_simulate_49 : decode cX5_simulate 49 = .ok (.ldc2_w 306, 3) := by decide +kernel
theorem dX5_simulate_52 : decode cX5_simulate 52 = .ok (.lmul, 1) := by decide +kernel
theorem dX5_simulate_53 : decode cX5_simulate 53 = .ok (.ldc2_w 308, 3) := by decide +kernel
theorem dX5_simulate_56 : decode cX5_simulate 56 = .ok (.ladd, 1) := by decide +kernel
theorem dX5_simulate_57 : decode cX5_simulate 57 = .ok (.lstore 4, 2) := by decide +kernel
theorem dX5_simulate_59 : decode cX5_simulate 59 = .ok (.lload 4, 2) := by decide +kernel
theorem dX5_simulate_61 : decode cX5_simulate 61 = .ok (.bipush 33, 2) := by decide +kernel
theorem dX5_simulate_63 : decode cX5_simulate 63 = .ok (.lushr, 1) := by decide +kernel
theorem dX5_simulate_64 : decode cX5_simulate 64 = .ok (.l2i, 1) := by decide +kernel
theorem dX5_simulate_65 : decode cX5_simulate 65 = .ok (.istore 8, 2) := by decide +kernel
theorem dX5_simulate_67 : decode cX5_simulate 67 = .ok (.iload 8, 2) := by decide +kernel
theorem dX5_simulate_69 : decode cX5_simulate 69 = .ok (.bipush 16, 2) := by decide +kernel
theorem dX5_simulate_71 : decode cX5_simulate 71 = .ok (.irem, 1) := by decide +kernel
theorem dX5_simulate_72 : decode cX5_simulate 72 = .ok (.ifCond .ne 26, 3) := by decide +kernel
theorem dX5_simulate_75 : decode cX5_simulate 75 = .ok (.aload_n 0, 1) := by decide +kernel
theorem dX5_simulate_76 : decode cX5_simulate 76 = .ok (.getfield 26, 3) := by decide +kernel
theorem dX5_simulate_79 : decode cX5_simulate 79 = .ok (.getfield 109, 3) := by decide +kernel
theorem dX5_simulate_82 : decode cX5_simulate 82 = .ok (.getfield 152, 3) := by decide +kernel
theorem dX5_simulate_85 : decode cX5_simulate 85 = .ok (.iconst 0, 1) := by decide +kernel
theorem dX5_simulate_86 : decode cX5_simulate 86 = .ok (.iload 8, 2) := by decide +kernel
theorem dX5_simulate_88 : decode cX5_simulate 88 = .ok (.bipush 16, 2) := by decide +kernel
theorem dX5_simulate_90 : decode cX5_simulate 90 = .ok (.idiv, 1) := by decide +kernel
theorem dX5_simulate_91 : decode cX5_simulate 91 = .ok (.bipush 41, 2) := by decide +kernel
theorem dX5_simulate_93 : decode cX5_simulate 93 = .ok (.irem, 1) := by decide +kernel
theorem dX5_simulate_94 : decode cX5_simulate 94 = .ok (.iastore, 1) := by decide +kernel
theorem dX5_simulate_95 : decode cX5_simulate 95 = .ok (.goto 37, 3) := by decide +kernel
theorem dX5_simulate_98 : decode cX5_simulate 98 = .ok (.iload 6, 2) := by decide +kernel
theorem dX5_simulate_100 : decode cX5_simulate 100 = .ok (.aload_n 0, 1) := by decide +kernel
theorem dX5_simulate_101 : decode cX5_simulate 101 = .ok (.getfield 26, 3) := by decide +kernel
theorem dX5_simulate_104 : decode cX5_simulate 104 = .ok (.iload 8, 2) := by decide +kernel
theorem dX5_simulate_106 : decode cX5_simulate 106 = .ok (.sipush 1024, 3) := by decide +kernel
theorem dX5_simulate_109 : decode cX5_simulate 109 = .ok (.idiv, 1) := by decide +kernel
theorem dX5_simulate_110 : decode cX5_simulate 110 = .ok (.bipush 12, 2) := by decide +kernel
theorem dX5_simulate_112 : decode cX5_simulate 112 = .ok (.irem, 1) := by decide +kernel
theorem dX5_simulate_113 : decode cX5_simulate 113 = .ok (.iconst 1, 1) := by decide +kernel
theorem dX5_simulate_114 : decode cX5_simulate 114 = .ok (.iload 8, 2) := by decide +kernel
theorem dX5_simulate_116 : decode cX5_simulate 116 = .ok (.bipush 16, 2) := by decide +kernel
theorem dX5_simulate_118 : decode cX5_simulate 118 = .ok (.idiv, 1) := by decide +kernel
theorem dX5_simulate_119 : decode cX5_simulate 119 = .ok (.bipush 60, 2) := by decide +kernel
theorem dX5_simulate_121 : decode cX5_simulate 121 = .ok (.irem, 1) := by decide +kernel
theorem dX5_simulate_122 : decode cX5_simulate 122 = .ok (.iadd, 1) := by decide +kernel
theorem dX5_simulate_123 : decode cX5_simulate 123 = .ok (.invokevirtual 225, 3) := by decide +kernel
theorem dX5_simulate_126 : decode cX5_simulate 126 = .ok (.invokestatic 310, 3) := by decide +kernel
theorem dX5_simulate_129 : decode cX5_simulate 129 = .ok (.iadd, 1) := by decide +kernel
theorem dX5_simulate_130 : decode cX5_simulate 130 = .ok (.istore 6, 2) := by decide +kernel
theorem dX5_simulate_132 : decode cX5_simulate 132 = .ok (.iinc 7 1, 3) := by decide +kernel
theorem dX5_simulate_135 : decode cX5_simulate 135 = .ok (.goto (-94), 3) := by decide +kernel
theorem dX5_simulate_138 : decode cX5_simulate 138 = .ok (.iload 6, 2) := by decide +kernel
theorem dX5_simulate_140 : decode cX5_simulate 140 = .ok (.ireturn, 1) := by decide +kernel
theorem dX5_save_0 : decode cX5_save 0 = .ok (.iload_n 1, 1) := by decide +kernel
theorem dX5_save_1 : decode cX5_save 1 = .ok (.iconst 0, 1) := by decide +kernel
theorem dX5_save_2 : decode cX5_save 2 = .ok (.iconst 1, 1) := by decide +kernel
theorem dX5_save_3 : decode cX5_save 3 = .ok (.invokestatic 53, 3) := by decide +kernel
theorem dX5_save_6 : decode cX5_save 6 = .ok (.ifCond .eq 14, 3) := by decide +kernel
theorem dX5_save_9 : decode cX5_save 9 = .ok (.new 155, 3) := by decide +kernel
theorem dX5_save_12 : decode cX5_save 12 = .ok (.dup, 1) := by decide +kernel
theorem dX5_save_13 : decode cX5_save 13 = .ok (.ldc_w 313, 3) := by decide +kernel
theorem dX5_save_16 : decode cX5_save 16 = .ok (.invokespecial 159, 3) := by decide +kernel
theorem dX5_save_19 : decode cX5_save 19 = .ok (.athrow, 1) := by decide +kernel
theorem dX5_save_20 : decode cX5_save 20 = .ok (.iload_n 1, 1) := by decide +kernel
theorem dX5_save_21 : decode cX5_save 21 = .ok (.ifCond .ne 22, 3) := by decide +kernel
theorem dX5_save_24 : decode cX5_save 24 = .ok (.aload_n 0, 1) := by decide +kernel
theorem dX5_save_25 : decode cX5_save 25 = .ok (.getfield 40, 3) := by decide +kernel
theorem dX5_save_28 : decode cX5_save 28 = .ok (.aload_n 0, 1) := by decide +kernel
theorem dX5_save_29 : decode cX5_save 29 = .ok (.getfield 19, 3) := by decide +kernel
theorem dX5_save_32 : decode cX5_save 32 = .ok (.invokevirtual 86, 3) := by decide +kernel
theorem dX5_save_35 : decode cX5_save 35 = .ok (.aload_n 0, 1) := by decide +kernel
theorem dX5_save_36 : decode cX5_save 36 = .ok (.iconst 1, 1) := by decide +kernel
theorem dX5_save_37 : decode cX5_save 37 = .ok (.putfield 46, 3) := by decide +kernel
theorem dX5_save_40 : decode cX5_save 40 = .ok (.goto 19, 3) := by decide +kernel
theorem dX5_save_43 : decode cX5_save 43 = .ok (.aload_n 0, 1) := by decide +kernel
theorem dX5_save_44 : decode cX5_save 44 = .ok (.getfield 43, 3) := by decide +kernel
theorem dX5_save_47 : decode cX5_save 47 = .ok (.aload_n 0, 1) := by decide +kernel
theorem dX5_save_48 : decode cX5_save 48 = .ok (.getfield 19, 3) := by decide +kernel
theorem dX5_save_51 : decode cX5_save 51 = .ok (.invokevirtual 86, 3) := by decide +kernel
theorem dX5_save_54 : decode cX5_save 54 = .ok (.aload_n 0, 1) := by decide +kernel
theorem dX5_save_55 : decode cX5_save 55 = .ok (.iconst 1, 1) := by decide +kernel
theorem dX5_save_56 : decode cX5_save 56 = .ok (.putfield 50, 3) := by decide +kernel
theorem dX5_save_59 : decode cX5_save 59 = .ok (.aload_n 0, 1) := by decide +kernel
theorem dX5_save_60 : decode cX5_save 60 = .ok (.getfield 19, 3) := by decide +kernel
theorem dX5_save_63 : decode cX5_save 63 = .ok (.getfield 109, 3) := by decide +kernel
theorem dX5_save_66 : decode cX5_save 66 = .ok (.getfield 113, 3) := by decide +kernel
theorem dX5_save_69 : decode cX5_save 69 = .ok (.ireturn, 1) := by decide +kernel
theorem dX5_restore_0 : decode cX5_restore 0 = .ok (.iload_n 1, 1) := by decide +kernel
theorem dX5_restore_1 : decode cX5_restore 1 = .ok (.iconst 0, 1) := by decide +kernel
theorem dX5_restore_2 : decode cX5_restore 2 = .ok (.iconst 1, 1) := by decide +kernel
theorem dX5_restore_3 : decode cX5_restore 3 = .ok (.invokestatic 53, 3) := by decide +kernel
theorem dX5_restore_6 : decode cX5_restore 6 = .ok (.ifCond .eq 14, 3) := by decide +kernel
theorem dX5_restore_9 : decode cX5_restore 9 = .ok (.new 155, 3) := by decide +kernel
theorem dX5_restore_12 : decode cX5_restore 12 = .ok (.dup, 1) := by decide +kernel
theorem dX5_restore_13 : decode cX5_restore 13 = .ok (.ldc_w 313, 3) := by decide +kernel
theorem dX5_restore_16 : decode cX5_restore 16 = .ok (.invokespecial 159, 3) := by decide +kernel
theorem dX5_restore_19 : decode cX5_restore 19 = .ok (.athrow, 1) := by decide +kernel
theorem dX5_restore_20 : decode cX5_restore 20 = .ok (.iload_n 1, 1) := by decide +kernel
theorem dX5_restore_21 : decode cX5_restore 21 = .ok (.ifCond .ne 10, 3) := by decide +kernel
theorem dX5_restore_24 : decode cX5_restore 24 = .ok (.aload_n 0, 1) := by decide +kernel
theorem dX5_restore_25 : decode cX5_restore 25 = .ok (.getfield 46, 3) := by decide +kernel
theorem dX5_restore_28 : decode cX5_restore 28 = .ok (.goto 7, 3) := by decide +kernel
theorem dX5_restore_31 : decode cX5_restore 31 = .ok (.aload_n 0, 1) := by decide +kernel
theorem dX5_restore_32 : decode cX5_restore 32 = .ok (.getfield 50, 3) := by decide +kernel
theorem dX5_restore_35 : decode cX5_restore 35 = .ok (.istore_n 2, 1) := by decide +kernel
theorem dX5_restore_36 : decode cX5_restore 36 = .ok (.iload_n 2, 1) := by decide +kernel
theorem dX5_restore_37 : decode cX5_restore 37 = .ok (.ifCond .ne 14, 3) := by decide +kernel
theorem dX5_restore_40 : decode cX5_restore 40 = .ok (.new 68, 3) := by decide +kernel
theorem dX5_restore_43 : decode cX5_restore 43 = .ok (.dup, 1) := by decide +kernel
theorem dX5_restore_44 : decode cX5_restore 44 = .ok (.ldc_w 315, 3) := by decide +kernel
theorem dX5_restore_47 : decode cX5_restore 47 = .ok (.invokespecial 72, 3) := by decide +kernel
theorem dX5_restore_50 : decode cX5_restore 50 = .ok (.athrow, 1) := by decide +kernel
theorem dX5_restore_51 : decode cX5_restore 51 = .ok (.aload_n 0, 1) := by decide +kernel
theorem dX5_restore_52 : decode cX5_restore 52 = .ok (.getfield 19, 3) := by decide +kernel
theorem dX5_restore_55 : decode cX5_restore 55 = .ok (.iload_n 1, 1) := by decide +kernel
theorem dX5_restore_56 : decode cX5_restore 56 = .ok (.ifCond .ne 10, 3) := by decide +kernel
theorem dX5_restore_59 : decode cX5_restore 59 = .ok (.aload_n 0, 1) := by decide +kernel
theorem dX5_restore_60 : decode cX5_restore 60 = .ok (.getfield 40, 3) := by decide +kernel
theorem dX5_restore_63 : decode cX5_restore 63 = .ok (.goto 7, 3) := by decide +kernel
theorem dX5_restore_66 : decode cX5_restore 66 = .ok (.aload_n 0, 1) := by decide +kernel
theorem dX5_restore_67 : decode cX5_restore 67 = .ok (.getfield 43, 3) := by decide +kernel
theorem dX5_restore_70 : decode cX5_restore 70 = .ok (.invokevirtual 86, 3) := by decide +kernel
theorem dX5_restore_73 : decode cX5_restore 73 = .ok (.aload_n 0, 1) := by decide +kernel
theorem dX5_restore_74 : decode cX5_restore 74 = .ok (.iconst 0, 1) := by decide +kernel
theorem dX5_restore_75 : decode cX5_restore 75 = .ok (.putfield 37, 3) := by decide +kernel
theorem dX5_restore_78 : decode cX5_restore 78 = .ok (.aload_n 0, 1) := by decide +kernel
theorem dX5_restore_79 : decode cX5_restore 79 = .ok (.getfield 19, 3) := by decide +kernel
theorem dX5_restore_82 : decode cX5_restore 82 = .ok (.getfield 109, 3) := by decide +kernel
theorem dX5_restore_85 : decode cX5_restore 85 = .ok (.getfield 113, 3) := by decide +kernel
theorem dX5_restore_88 : decode cX5_restore 88 = .ok (.ireturn, 1) := by decide +kernel
theorem dX5_remember_0 : decode cX5_remember 0 = .ok (.aload_n 0, 1) := by decide +kernel
theorem dX5_remember_1 : decode cX5_remember 1 = .ok (.getfield 29, 3) := by decide +kernel
theorem dX5_remember_4 : decode cX5_remember 4 = .ok (.aload_n 0, 1) := by decide +kernel
theorem dX5_remember_5 : decode cX5_remember 5 = .ok (.getfield 33, 3) := by decide +kernel
theorem dX5_remember_8 : decode cX5_remember 8 = .ok (.aaload, 1) := by decide +kernel
theorem dX5_remember_9 : decode cX5_remember 9 = .ok (.aload_n 0, 1) := by decide +kernel
theorem dX5_remember_10 : decode cX5_remember 10 = .ok (.getfield 19, 3) := by decide +kernel
theorem dX5_remember_13 : decode cX5_remember 13 = .ok (.invokevirtual 86, 3) := by decide +kernel
theorem dX5_remember_16 : decode cX5_remember 16 = .ok (.aload_n 0, 1) := by decide +kernel
theorem dX5_remember_17 : decode cX5_remember 17 = .ok (.aload_n 0, 1) := by decide +kernel
theorem dX5_remember_18 : decode cX5_remember 18 = .ok (.getfield 33, 3) := by decide +kernel
theorem dX5_remember_21 : decode cX5_remember 21 = .ok (.bipush 13, 2) := by decide +kernel
theorem dX5_remember_23 : decode cX5_remember 23 = .ok (.if_icmp .ge 12, 3) := by decide +kernel
theorem dX5_remember_26 : decode cX5_remember 26 = .ok (.aload_n 0, 1) := by decide +kernel
theorem dX5_remember_27 : decode cX5_remember 27 = .ok (.getfield 33, 3) := by decide +kernel
theorem dX5_remember_30 : decode cX5_remember 30 = .ok (.iconst 1, 1) := by decide +kernel
theorem dX5_remember_31 : decode cX5_remember 31 = .ok (.iadd, 1) := by decide +kernel
theorem dX5_remember_32 : decode cX5_remember 32 = .ok (.goto 4, 3) := by decide +kernel
theorem dX5_remember_35 : decode cX5_remember 35 = .ok (.iconst 0, 1) := by decide +kernel
theorem dX5_remember_36 : decode cX5_remember 36 = .ok (.putfield 33, 3) := by decide +kernel
theorem dX5_remember_39 : decode cX5_remember 39 = .ok (.aload_n 0, 1) := by decide +kernel
theorem dX5_remember_40 : decode cX5_remember 40 = .ok (.aload_n 0, 1) := by decide +kernel
theorem dX5_remember_41 : decode cX5_remember 41 = .ok (.getfield 37, 3) := by decide +kernel
theorem dX5_remember_44 : decode cX5_remember 44 = .ok (.iconst 1, 1) := by decide +kernel
theorem dX5_remember_45 : decode cX5_remember 45 = .ok (.iadd, 1) := by decide +kernel
theorem dX5_remember_46 : decode cX5_remember 46 = .ok (.bipush 14, 2) := by decide +kernel
theorem dX5_remember_48 : decode cX5_remember 48 = .ok (.invokestatic 317, 3) := by decide +kernel
theorem dX5_remember_51 : decode cX5_remember 51 = .ok (.putfield 37, 3) := by decide +kernel
theorem dX5_remember_54 : decode cX5_remember 54 = .ok (.return_, 1) := by decide +kernel
theorem dX5_runPart_0 : decode cX5_runPart 0 = .ok (.aload_n 0, 1) := by decide +kernel
theorem dX5_runPart_1 : decode cX5_runPart 1 = .ok (.getfield 10, 3) := by decide +kernel
theorem dX5_runPart_4 : decode cX5_runPart 4 = .ok (.iload_n 1, 1) := by decide +kernel
theorem dX5_runPart_5 : decode cX5_runPart 5 = .ok (.iconst 1, 1) := by decide +kernel
theorem dX5_runPart_6 : decode cX5_runPart 6 = .ok (.iadd, 1) := by decide +kernel
theorem dX5_runPart_7 : decode cX5_runPart 7 = .ok (.invokevirtual 320, 3) := by decide +kernel
theorem dX5_runPart_10 : decode cX5_runPart 10 = .ok (.istore_n 2, 1) := by decide +kernel
theorem dX5_runPart_11 : decode cX5_runPart 11 = .ok (.aload_n 0, 1) := by decide +kernel
theorem dX5_runPart_12 : decode cX5_runPart 12 = .ok (.getfield 10, 3) := by decide +kernel
theorem dX5_runPart_15 : decode cX5_runPart 15 = .ok (.iload_n 1, 1) := by decide +kernel
theorem dX5_runPart_16 : decode cX5_runPart 16 = .ok (.invokevirtual 323, 3) := by decide +kernel
theorem dX5_runPart_19 : decode cX5_runPart 19 = .ok (.lookupswitch 142 #[(100, 49), (103, 117), (112, 71), (116, 85), (119, 101)], 49) := by decide +kernel
theorem dX5_runPart_68 : decode cX5_runPart 68 = .ok (.aload_n 0, 1) := by decide +kernel
theorem dX5_runPart_69 : decode cX5_runPart 69 = .ok (.getfield 19, 3) := by decide +kernel
theorem dX5_runPart_72 : decode cX5_runPart 72 = .ok (.iload_n 2, 1) := by decide +kernel
theorem dX5_runPart_73 : decode cX5_runPart 73 = .ok (.aload_n 0, 1) := by decide +kernel
theorem dX5_runPart_74 : decode cX5_runPart 74 = .ok (.getfield 10, 3) := by decide +kernel
theorem dX5_runPart_77 : decode cX5_runPart 77 = .ok (.iload_n 1, 1) := by decide +kernel
theorem dX5_runPart_78 : decode cX5_runPart 78 = .ok (.iconst 3, 1) := by decide +kernel
theorem dX5_runPart_79 : decode cX5_runPart 79 = .ok (.iadd, 1) := by decide +kernel
theorem dX5_runPart_80 : decode cX5_runPart 80 = .ok (.invokevirtual 320, 3) := by decide +kernel
theorem dX5_runPart_83 : decode cX5_runPart 83 = .ok (.invokevirtual 225, 3) := by decide +kernel
theorem dX5_runPart_86 : decode cX5_runPart 86 = .ok (.pop, 1) := by decide +kernel
theorem dX5_runPart_87 : decode cX5_runPart 87 = .ok (.goto 74, 3) := by decide +kernel
theorem dX5_runPart_90 : decode cX5_runPart 90 = .ok (.aload_n 0, 1) := by decide +kernel
theorem dX5_runPart_91 : decode cX5_runPart 91 = .ok (.getfield 19, 3) := by decide +kernel
theorem dX5_runPart_94 : decode cX5_runPart 94 = .ok (.getfield 109, 3) := by decide +kernel
theorem dX5_runPart_97 : decode cX5_runPart 97 = .ok (.iload_n 2, 1) := by decide +kernel
theorem dX5_runPart_98 : decode cX5_runPart 98 = .ok (.invokevirtual 230, 3) := by decide +kernel
theorem dX5_runPart_101 : decode cX5_runPart 101 = .ok (.goto 60, 3) := by decide +kernel
theorem dX5_runPart_104 : decode cX5_runPart 104 = .ok (.aload_n 0, 1) := by decide +kernel
theorem dX5_runPart_105 : decode cX5_runPart 105 = .ok (.getfield 19, 3) := by decide +kernel
theorem dX5_runPart_108 : decode cX5_runPart 108 = .ok (.getfield 109, 3) := by decide +kernel
theorem dX5_runPart_111 : decode cX5_runPart 111 = .ok (.getfield 152, 3) := by decide +kernel
theorem dX5_runPart_114 : decode cX5_runPart 114 = .ok (.iconst 0, 1) := by decide +kernel
theorem dX5_runPart_115 : decode cX5_runPart 115 = .ok (.iload_n 2, 1) := by decide +kernel
theorem dX5_runPart_116 : decode cX5_runPart 116 = .ok (.iastore, 1) := by decide +kernel
theorem dX5_runPart_117 : decode cX5_runPart 117 = .ok (.goto 44, 3) := by decide +kernel
theorem dX5_runPart_120 : decode cX5_runPart 120 = .ok (.aload_n 0, 1) := by decide +kernel
theorem dX5_runPart_121 : decode cX5_runPart 121 = .ok (.getfield 19, 3) := by decide +kernel
theorem dX5_runPart_124 : decode cX5_runPart 124 = .ok (.getfield 109, 3) := by decide +kernel
theorem dX5_runPart_127 : decode cX5_runPart 127 = .ok (.getfield 152, 3) := by decide +kernel
theorem dX5_runPart_130 : decode cX5_runPart 130 = .ok (.iconst 1, 1) := by decide +kernel
theorem dX5_runPart_131 : decode cX5_runPart 131 = .ok (.iload_n 2, 1) := by decide +kernel
theorem dX5_runPart_132 : decode cX5_runPart 132 = .ok (.iastore, 1) := by decide +kernel
theorem dX5_runPart_133 : decode cX5_runPart 133 = .ok (.goto 28, 3) := by decide +kernel
theorem dX5_runPart_136 : decode cX5_runPart 136 = .ok (.aload_n 0, 1) := by decide +kernel
theorem dX5_runPart_137 : decode cX5_runPart 137 = .ok (.getfield 19, 3) := by decide +kernel
theorem dX5_runPart_140 : decode cX5_runPart 140 = .ok (.getfield 109, 3) := by decide +kernel
theorem dX5_runPart_143 : decode cX5_runPart 143 = .ok (.getfield 152, 3) := by decide +kernel
theorem dX5_runPart_146 : decode cX5_runPart 146 = .ok (.iconst 2, 1) := by decide +kernel
theorem dX5_runPart_147 : decode cX5_runPart 147 = .ok (.aload_n 0, 1) := by decide +kernel
theorem dX5_runPart_148 : decode cX5_runPart 148 = .ok (.getfield 10, 3) := by decide +kernel
theorem dX5_runPart_151 : decode cX5_runPart 151 = .ok (.iload_n 1, 1) := by decide +kernel
theorem dX5_runPart_152 : decode cX5_runPart 152 = .ok (.iconst 1, 1) := by decide +kernel
theorem dX5_runPart_153 : decode cX5_runPart 153 = .ok (.iadd, 1) := by decide +kernel
theorem dX5_runPart_154 : decode cX5_runPart 154 = .ok (.invokevirtual 326, 3) := by decide +kernel
theorem dX5_runPart_157 : decode cX5_runPart 157 = .ok (.iastore, 1) := by decide +kernel
theorem dX5_runPart_158 : decode cX5_runPart 158 = .ok (.goto 3, 3) := by decide +kernel
theorem dX5_runPart_161 : decode cX5_runPart 161 = .ok (.return_, 1) := by decide +kernel
theorem dX5_replayRecord_0 : decode cX5_replayRecord 0 = .ok (.aload_n 0, 1) := by decide +kernel
theorem dX5_replayRecord_1 : decode cX5_replayRecord 1 = .ok (.getfield 26, 3) := by decide +kernel
theorem dX5_replayRecord_4 : decode cX5_replayRecord 4 = .ok (.getfield 109, 3) := by decide +kernel
theorem dX5_replayRecord_7 : decode cX5_replayRecord 7 = .ok (.astore 4, 2) := by decide +kernel
theorem dX5_replayRecord_9 : decode cX5_replayRecord 9 = .ok (.aload 4, 2) := by decide +kernel
theorem dX5_replayRecord_11 : decode cX5_replayRecord 11 = .ok (.aload_n 0, 1) := by decide +kernel
theorem dX5_replayRecord_12 : decode cX5_replayRecord 12 = .ok (.getfield 23, 3) := by decide +kernel
theorem dX5_replayRecord_15 : decode cX5_replayRecord 15 = .ok (.getfield 109, 3) := by decide +kernel
theorem dX5_replayRecord_18 : decode cX5_replayRecord 18 = .ok (.invokevirtual 329, 3) := by decide +kernel
theorem dX5_replayRecord_21 : decode cX5_replayRecord 21 = .ok (.aload 4, 2) := by decide +kernel
theorem dX5_replayRecord_23 : decode cX5_replayRecord 23 = .ok (.aload_n 0, 1) := by decide +kernel
theorem dX5_replayRecord_24 : decode cX5_replayRecord 24 = .ok (.getfield 19, 3) := by decide +kernel
theorem dX5_replayRecord_27 : decode cX5_replayRecord 27 = .ok (.getfield 109, 3) := by decide +kernel
theorem dX5_replayRecord_30 : decode cX5_replayRecord 30 = .ok (.invokevirtual 332, 3) := by decide +kernel
theorem dX5_replayRecord_33 : decode cX5_replayRecord 33 = .ok (.aload 4, 2) := by decide +kernel
theorem dX5_replayRecord_35 : decode cX5_replayRecord 35 = .ok (.getfield 152, 3) := by decide +kernel
theorem dX5_replayRecord_38 : decode cX5_replayRecord 38 = .ok (.iconst 1, 1) := by decide +kernel
theorem dX5_replayRecord_39 : decode cX5_replayRecord 39 = .ok (.iload_n 1, 1) := by decide +kernel
theorem dX5_replayRecord_40 : decode cX5_replayRecord 40 = .ok (.iastore, 1) := by decide +kernel
theorem dX5_replayRecord_41 : decode cX5_replayRecord 41 = .ok (.aload 4, 2) := by decide +kernel
theorem dX5_replayRecord_43 : decode cX5_replayRecord 43 = .ok (.getfield 152, 3) := by decide +kernel
theorem dX5_replayRecord_46 : decode cX5_replayRecord 46 = .ok (.iconst 2, 1) := by decide +kernel
theorem dX5_replayRecord_47 : decode cX5_replayRecord 47 = .ok (.iload_n 2, 1) := by decide +kernel
theorem dX5_replayRecord_48 : decode cX5_replayRecord 48 = .ok (.iastore, 1) := by decide +kernel
theorem dX5_replayRecord_49 : decode cX5_replayRecord 49 = .ok (.aload_n 0, 1) := by decide +kernel
theorem dX5_replayRecord_50 : decode cX5_replayRecord 50 = .ok (.getfield 19, 3) := by decide +kernel
theorem dX5_replayRecord_53 : decode cX5_replayRecord 53 = .ok (.getfield 100, 3) := by decide +kernel
theorem dX5_replayRecord_56 : decode cX5_replayRecord 56 = .ok (.astore 5, 2) := by decide +kernel
theorem dX5_replayRecord_58 : decode cX5_replayRecord 58 = .ok (.iconst 0, 1) := by decide +kernel
theorem dX5_replayRecord_59 : decode cX5_replayRecord 59 = .ok (.istore 6, 2) := by decide +kernel
theorem dX5_replayRecord_61 : decode cX5_replayRecord 61 = .ok (.aload 5, 2) := by decide +kernel
theorem dX5_replayRecord_63 : decode cX5_replayRecord 63 = .ok (.getfield 135, 3) := by decide +kernel
theorem dX5_replayRecord_66 : decode cX5_replayRecord 66 = .ok (.getfield 139, 3) := by decide +kernel
theorem dX5_replayRecord_69 : decode cX5_replayRecord 69 = .ok (.iconst 1, 1) := by decide +kernel
theorem dX5_replayRecord_70 : decode cX5_replayRecord 70 = .ok (.isub, 1) := by decide +kernel
theorem dX5_replayRecord_71 : decode cX5_replayRecord 71 = .ok (.istore 7, 2) := by decide +kernel
theorem dX5_replayRecord_73 : decode cX5_replayRecord 73 = .ok (.iload 7, 2) := by decide +kernel
theorem dX5_replayRecord_75 : decode cX5_replayRecord 75 = .ok (.ifCond .lt 41, 3) := by decide +kernel
theorem dX5_replayRecord_78 : decode cX5_replayRecord 78 = .ok (.aload 4, 2) := by decide +kernel
theorem dX5_replayRecord_80 : decode cX5_replayRecord 80 = .ok (.aload 5, 2) := by decide +kernel
theorem dX5_replayRecord_82 : decode cX5_replayRecord 82 = .ok (.getfield 335, 3) := by decide +kernel
theorem dX5_replayRecord_85 : decode cX5_replayRecord 85 = .ok (.iload 7, 2) := by decide +kernel
theorem dX5_replayRecord_87 : decode cX5_replayRecord 87 = .ok (.invokevirtual 187, 3) := by decide +kernel
theorem dX5_replayRecord_90 : decode cX5_replayRecord 90 = .ok (.aload 5, 2) := by decide +kernel
theorem dX5_replayRecord_92 : decode cX5_replayRecord 92 = .ok (.getfield 135, 3) := by decide +kernel
theorem dX5_replayRecord_95 : decode cX5_replayRecord 95 = .ok (.iload 7, 2) := by decide +kernel
theorem dX5_replayRecord_97 : decode cX5_replayRecord 97 = .ok (.invokevirtual 187, 3) := by decide +kernel
theorem dX5_replayRecord_100 : decode cX5_replayRecord 100 = .ok (.invokevirtual 338, 3) := by decide +kernel
theorem dX5_replayRecord_103 : decode cX5_replayRecord 103 = .ok (.iload_n 3, 1) := by decide +kernel
theorem dX5_replayRecord_104 : decode cX5_replayRecord 104 = .ok (.if_icmp .ne 6, 3) := by decide +kernel
theorem dX5_replayRecord_107 : decode cX5_replayRecord 107 = .ok (.iinc 6 1, 3) := by decide +kernel
theorem dX5_replayRecord_110 : decode cX5_replayRecord 110 = .ok (.iinc 7 (-1), 3) := by decide +kernel
theorem dX5_replayRecord_113 : decode cX5_replayRecord 113 = .ok (.goto (-40), 3) := by decide +kernel
theorem dX5_replayRecord_116 : decode cX5_replayRecord 116 = .ok (.iload 6, 2) := by decide +kernel
theorem dX5_replayRecord_118 : decode cX5_replayRecord 118 = .ok (.ireturn, 1) := by decide +kernel
theorem dX5_runCommand_0 : decode cX5_runCommand 0 = .ok (.iload_n 1, 1) := by decide +kernel
theorem dX5_runCommand_1 : decode cX5_runCommand 1 = .ok (.sipush 1000, 3) := by decide +kernel
theorem dX5_runCommand_4 : decode cX5_runCommand 4 = .ok (.idiv, 1) := by decide +kernel
theorem dX5_runCommand_5 : decode cX5_runCommand 5 = .ok (.bipush 10, 2) := by decide +kernel
theorem dX5_runCommand_7 : decode cX5_runCommand 7 = .ok (.irem, 1) := by decide +kernel
theorem dX5_runCommand_8 : decode cX5_runCommand 8 = .ok (.istore_n 2, 1) := by decide +kernel
theorem dX5_runCommand_9 : decode cX5_runCommand 9 = .ok (.iload_n 1, 1) := by decide +kernel
theorem dX5_runCommand_10 : decode cX5_runCommand 10 = .ok (.bipush 100, 2) := by decide +kernel
theorem dX5_runCommand_12 : decode cX5_runCommand 12 = .ok (.idiv, 1) := by decide +kernel
theorem dX5_runCommand_13 : decode cX5_runCommand 13 = .ok (.bipush 10, 2) := by decide +kernel
theorem dX5_runCommand_15 : decode cX5_runCommand 15 = .ok (.irem, 1) := by decide +kernel
theorem dX5_runCommand_16 : decode cX5_runCommand 16 = .ok (.istore_n 3, 1) := by decide +kernel
theorem dX5_runCommand_17 : decode cX5_runCommand 17 = .ok (.iload_n 1, 1) := by decide +kernel
theorem dX5_runCommand_18 : decode cX5_runCommand 18 = .ok (.bipush 100, 2) := by decide +kernel
theorem dX5_runCommand_20 : decode cX5_runCommand 20 = .ok (.irem, 1) := by decide +kernel
theorem dX5_runCommand_21 : decode cX5_runCommand 21 = .ok (.istore 4, 2) := by decide +kernel
theorem dX5_runCommand_23 : decode cX5_runCommand 23 = .ok (.iload_n 1, 1) := by decide +kernel
theorem dX5_runCommand_24 : decode cX5_runCommand 24 = .ok (.sipush 1000, 3) := by decide +kernel
theorem dX5_runCommand_27 : decode cX5_runCommand 27 = .ok (.irem, 1) := by decide +kernel
theorem dX5_runCommand_28 : decode cX5_runCommand 28 = .ok (.istore 5, 2) := by decide +kernel
theorem dX5_runCommand_30 : decode cX5_runCommand 30 = .ok (.iload_n 1, 1) := by decide +kernel
theorem dX5_runCommand_31 : decode cX5_runCommand 31 = .ok (.sipush 10000, 3) := by decide +kernel
theorem dX5_runCommand_34 : decode cX5_runCommand 34 = .ok (.irem, 1) := by decide +kernel
theorem dX5_runCommand_35 : decode cX5_runCommand 35 = .ok (.istore 6, 2) := by decide +kernel
theorem dX5_runCommand_37 : decode cX5_runCommand 37 = .ok (.aload_n 0, 1) := by decide +kernel
theorem dX5_runCommand_38 : decode cX5_runCommand 38 = .ok (.getfield 26, 3) := by decide +kernel
theorem dX5_runCommand_41 : decode cX5_runCommand 41 = .ok (.getfield 109, 3) := by decide +kernel
theorem dX5_runCommand_44 : decode cX5_runCommand 44 = .ok (.astore 7, 2) := by decide +kernel
theorem dX5_runCommand_46 : decode cX5_runCommand 46 = .ok (.iload_n 1, 1) := by decide +kernel
theorem dX5_runCommand_47 : decode cX5_runCommand 47 = .ok (.sipush 10000, 3) := by decide +kernel
theorem dX5_runCommand_50 : decode cX5_runCommand 50 = .ok (.idiv, 1) := by decide +kernel
theorem dX5_runCommand_51 : decode cX5_runCommand 51 = .ok (.tableswitch 219 1 8 #[45, 57, 80, 88, 119, 143, 164, 195], 45) := by decide +kernel
theorem dX5_runCommand_96 : decode cX5_runCommand 96 = .ok (.aload_n 0, 1) := by decide +kernel
theorem dX5_runCommand_97 : decode cX5_runCommand 97 = .ok (.iload 6, 2) := by decide +kernel
theorem dX5_runCommand_99 : decode cX5_runCommand 99 = .ok (.bipush 100, 2) := by decide +kernel
theorem dX5_runCommand_101 : decode cX5_runCommand 101 = .ok (.idiv, 1) := by decide +kernel
theorem dX5_runCommand_102 : decode cX5_runCommand 102 = .ok (.iload 4, 2) := by decide +kernel
theorem dX5_runCommand_104 : decode cX5_runCommand 104 = .ok (.invokevirtual 341, 3) := by decide +kernel
theorem dX5_runCommand_107 : decode cX5_runCommand 107 = .ok (.ireturn, 1) := by decide +kernel
theorem dX5_runCommand_108 : decode cX5_runCommand 108 = .ok (.iload_n 2, 1) := by decide +kernel
theorem dX5_runCommand_109 : decode cX5_runCommand 109 = .ok (.ifCond .ne 20, 3) := by decide +kernel
theorem dX5_runCommand_112 : decode cX5_runCommand 112 = .ok (.iload_n 3, 1) := by decide +kernel
theorem dX5_runCommand_113 : decode cX5_runCommand 113 = .ok (.ifCond .ne 16, 3) := by decide +kernel
theorem dX5_runCommand_116 : decode cX5_runCommand 116 = .ok (.aload_n 0, 1) := by decide +kernel
theorem dX5_runCommand_117 : decode cX5_runCommand 117 = .ok (.iload 4, 2) := by decide +kernel
theorem dX5_runCommand_119 : decode cX5_runCommand 119 = .ok (.invokevirtual 344, 3) := by decide +kernel
theorem dX5_runCommand_122 : decode cX5_runCommand 122 = .ok (.ifCond .eq 7, 3) := by decide +kernel
theorem dX5_runCommand_125 : decode cX5_runCommand 125 = .ok (.iconst 1, 1) := by decide +kernel
theorem dX5_runCommand_126 : decode cX5_runCommand 126 = .ok (.goto 4, 3) := by decide +kernel
theorem dX5_runCommand_129 : decode cX5_runCommand 129 = .ok (.iconst 0, 1) := by decide +kernel
theorem dX5_runCommand_130 : decode cX5_runCommand 130 = .ok (.ireturn, 1) := by decide +kernel
theorem dX5_runCommand_131 : decode cX5_runCommand 131 = .ok (.aload_n 0, 1) := by decide +kernel
theorem dX5_runCommand_132 : decode cX5_runCommand 132 = .ok (.iload_n 2, 1) := by decide +kernel
theorem dX5_runCommand_133 : decode cX5_runCommand 133 = .ok (.iload 5, 2) := by decide +kernel
theorem dX5_runCommand_135 : decode cX5_runCommand 135 = .ok (.invokevirtual 347, 3) := by decide +kernel
theorem dX5_runCommand_138 : decode cX5_runCommand 138 = .ok (.ireturn, 1) := by decide +kernel
theorem dX5_runCommand_139 : decode cX5_runCommand 139 = .ok (.iload_n 3, 1) := by decide +kernel
theorem dX5_runCommand_140 : decode cX5_runCommand 140 = .ok (.ifCond .ne 28, 3) := by decide +kernel
theorem dX5_runCommand_143 : decode cX5_runCommand 143 = .ok (.iload_n 2, 1) := by decide +kernel
theorem dX5_runCommand_144 : decode cX5_runCommand 144 = .ok (.iconst 3, 1) := by decide +kernel
theorem dX5_runCommand_145 : decode cX5_runCommand 145 = .ok (.if_icmp .gt 23, 3) := by decide +kernel
theorem dX5_runCommand_148 : decode cX5_runCommand 148 = .ok (.aload_n 0, 1) := by decide +kernel
theorem dX5_runCommand_149 : decode cX5_runCommand 149 = .ok (.getfield 26, 3) := by decide +kernel
theorem dX5_runCommand_152 : decode cX5_runCommand 152 = .ok (.getfield 100, 3) := by decide +kernel
theorem dX5_runCommand_155 : decode cX5_runCommand 155 = .ok (.iload_n 2, 1) := by decide +kernel
theorem dX5_runCommand_156 : decode cX5_runCommand 156 = .ok (.invokevirtual 118, 3) := by decide +kernel
theorem dX5_runCommand_159 : decode cX5_runCommand 159 = .ok (.iload 4, 2) := by decide +kernel
theorem dX5_runCommand_161 : decode cX5_runCommand 161 = .ok (.if_icmp .lt 7, 3) := by decide +kernel
theorem dX5_runCommand_164 : decode cX5_runCommand 164 = .ok (.iconst 1, 1) := by decide +kernel
theorem dX5_runCommand_165 : decode cX5_runCommand 165 = .ok (.goto 4, 3) := by decide +kernel
theorem dX5_runCommand_168 : decode cX5_runCommand 168 = .ok (.iconst 0, 1) := by decide +kernel
theorem dX5_runCommand_169 : decode cX5_runCommand 169 = .ok (.ireturn, 1) := by decide +kernel
theorem dX5_runCommand_170 : decode cX5_runCommand 170 = .ok (.iload_n 2, 1) := by decide +kernel
theorem dX5_runCommand_171 : decode cX5_runCommand 171 = .ok (.bipush 7, 2) := by decide +kernel
theorem dX5_runCommand_173 : decode cX5_runCommand 173 = .ok (.if_icmp .gt 19, 3) := by decide +kernel
theorem dX5_runCommand_176 : decode cX5_runCommand 176 = .ok (.aload 7, 2) := by decide +kernel
theorem dX5_runCommand_178 : decode cX5_runCommand 178 = .ok (.getfield 121, 3) := by decide +kernel
theorem dX5_runCommand_181 : decode cX5_runCommand 181 = .ok (.iload_n 2, 1) := by decide +kernel
theorem dX5_runCommand_182 : decode cX5_runCommand 182 = .ok (.iaload, 1) := by decide +kernel
theorem dX5_runCommand_183 : decode cX5_runCommand 183 = .ok (.iload 5, 2) := by decide +kernel
theorem dX5_runCommand_185 : decode cX5_runCommand 185 = .ok (.if_icmp .lt 7, 3) := by decide +kernel
theorem dX5_runCommand_188 : decode cX5_runCommand 188 = .ok (.iconst 1, 1) := by decide +kernel
theorem dX5_runCommand_189 : decode cX5_runCommand 189 = .ok (.goto 4, 3) := by decide +kernel
theorem dX5_runCommand_192 : decode cX5_runCommand 192 = .ok (.iconst 0, 1) := by decide +kernel
theorem dX5_runCommand_193 : decode cX5_runCommand 193 = .ok (.ireturn, 1) := by decide +kernel
theorem dX5_runCommand_194 : decode cX5_runCommand 194 = .ok (.aload 7, 2) := by decide +kernel
theorem dX5_runCommand_196 : decode cX5_runCommand 196 = .ok (.aload 7, 2) := by decide +kernel
theorem dX5_runCommand_198 : decode cX5_runCommand 198 = .ok (.getfield 113, 3) := by decide +kernel
theorem dX5_runCommand_201 : decode cX5_runCommand 201 = .ok (.invokevirtual 132, 3) := by decide +kernel
theorem dX5_runCommand_204 : decode cX5_runCommand 204 = .ok (.iload 6, 2) := by decide +kernel
theorem dX5_runCommand_206 : decode cX5_runCommand 206 = .ok (.if_icmp .lt 7, 3) := by decide +kernel
theorem dX5_runCommand_209 : decode cX5_runCommand 209 = .ok (.iconst 1, 1) := by decide +kernel
theorem dX5_runCommand_210 : decode cX5_runCommand 210 = .ok (.goto 4, 3) := by decide +kernel
theorem dX5_runCommand_213 : decode cX5_runCommand 213 = .ok (.iconst 0, 1) := by decide +kernel
theorem dX5_runCommand_214 : decode cX5_runCommand 214 = .ok (.ireturn, 1) := by decide +kernel
theorem dX5_runCommand_215 : decode cX5_runCommand 215 = .ok (.iload 6, 2) := by decide +kernel
theorem dX5_runCommand_217 : decode cX5_runCommand 217 = .ok (.iconst 3, 1) := by decide +kernel
theorem dX5_runCommand_218 : decode cX5_runCommand 218 = .ok (.if_icmp .gt 26, 3) := by decide +kernel
theorem dX5_runCommand_221 : decode cX5_runCommand 221 = .ok (.aload_n 0, 1) := by decide +kernel
theorem dX5_runCommand_222 : decode cX5_runCommand 222 = .ok (.getfield 26, 3) := by decide +kernel
theorem dX5_runCommand_225 : decode cX5_runCommand 225 = .ok (.getfield 100, 3) := by decide +kernel
theorem dX5_runCommand_228 : decode cX5_runCommand 228 = .ok (.getfield 142, 3) := by decide +kernel
theorem dX5_runCommand_231 : decode cX5_runCommand 231 = .ok (.iconst 0, 1) := by decide +kernel
theorem dX5_runCommand_232 : decode cX5_runCommand 232 = .ok (.invokevirtual 187, 3) := by decide +kernel
theorem dX5_runCommand_235 : decode cX5_runCommand 235 = .ok (.iload 6, 2) := by decide +kernel
theorem dX5_runCommand_237 : decode cX5_runCommand 237 = .ok (.if_icmp .ne 7, 3) := by decide +kernel
theorem dX5_runCommand_240 : decode cX5_runCommand 240 = .ok (.iconst 1, 1) := by decide +kernel
theorem dX5_runCommand_241 : decode cX5_runCommand 241 = .ok (.goto 4, 3) := by decide +kernel
theorem dX5_runCommand_244 : decode cX5_runCommand 244 = .ok (.iconst 0, 1) := by decide +kernel
theorem dX5_runCommand_245 : decode cX5_runCommand 245 = .ok (.ireturn, 1) := by decide +kernel
theorem dX5_runCommand_246 : decode cX5_runCommand 246 = .ok (.iload 6, 2) := by decide +kernel
theorem dX5_runCommand_248 : decode cX5_runCommand 248 = .ok (.aload 7, 2) := by decide +kernel
theorem dX5_runCommand_250 : decode cX5_runCommand 250 = .ok (.getfield 145, 3) := by decide +kernel
theorem dX5_runCommand_253 : decode cX5_runCommand 253 = .ok (.ifCond .eq 7, 3) := by decide +kernel
theorem dX5_runCommand_256 : decode cX5_runCommand 256 = .ok (.iconst 1, 1) := by decide +kernel
theorem dX5_runCommand_257 : decode cX5_runCommand 257 = .ok (.goto 4, 3) := by decide +kernel
theorem dX5_runCommand_260 : decode cX5_runCommand 260 = .ok (.iconst 0, 1) := by decide +kernel
theorem dX5_runCommand_261 : decode cX5_runCommand 261 = .ok (.if_icmp .ne 7, 3) := by decide +kernel
theorem dX5_runCommand_264 : decode cX5_runCommand 264 = .ok (.iconst 1, 1) := by decide +kernel
theorem dX5_runCommand_265 : decode cX5_runCommand 265 = .ok (.goto 4, 3) := by decide +kernel
theorem dX5_runCommand_268 : decode cX5_runCommand 268 = .ok (.iconst 0, 1) := by decide +kernel
theorem dX5_runCommand_269 : decode cX5_runCommand 269 = .ok (.ireturn, 1) := by decide +kernel
theorem dX5_runCommand_270 : decode cX5_runCommand 270 = .ok (.iconst 0, 1) := by decide +kernel
theorem dX5_runCommand_271 : decode cX5_runCommand 271 = .ok (.ireturn, 1) := by decide +kernel
theorem dX5_scriptedFall_0 : decode cX5_scriptedFall 0 = .ok (.iload_n 1, 1) := by decide +kernel
theorem dX5_scriptedFall_1 : decode cX5_scriptedFall 1 = .ok (.iload_n 2, 1) := by decide +kernel
theorem dX5_scriptedFall_2 : decode cX5_scriptedFall 2 = .ok (.invokestatic 217, 3) := by decide +kernel
theorem dX5_scriptedFall_5 : decode cX5_scriptedFall 5 = .ok (.ifCond .ne 5, 3) := by decide +kernel
theorem dX5_scriptedFall_8 : decode cX5_scriptedFall 8 = .ok (.iconst 0, 1) := by decide +kernel
theorem dX5_scriptedFall_9 : decode cX5_scriptedFall 9 = .ok (.ireturn, 1) := by decide +kernel
theorem dX5_scriptedFall_10 : decode cX5_scriptedFall 10 = .ok (.aload_n 0, 1) := by decide +kernel
theorem dX5_scriptedFall_11 : decode cX5_scriptedFall 11 = .ok (.getfield 26, 3) := by decide +kernel
theorem dX5_scriptedFall_14 : decode cX5_scriptedFall 14 = .ok (.iload_n 1, 1) := by decide +kernel
theorem dX5_scriptedFall_15 : decode cX5_scriptedFall 15 = .ok (.iload_n 2, 1) := by decide +kernel
theorem dX5_scriptedFall_16 : decode cX5_scriptedFall 16 = .ok (.invokevirtual 225, 3) := by decide +kernel
theorem dX5_scriptedFall_19 : decode cX5_scriptedFall 19 = .ok (.pop, 1) := by decide +kernel
theorem dX5_scriptedFall_20 : decode cX5_scriptedFall 20 = .ok (.iconst 1, 1) := by decide +kernel
theorem dX5_scriptedFall_21 : decode cX5_scriptedFall 21 = .ok (.ireturn, 1) := by decide +kernel
theorem dX5_scriptedPass_0 : decode cX5_scriptedPass 0 = .ok (.iload_n 1, 1) := by decide +kernel
theorem dX5_scriptedPass_1 : decode cX5_scriptedPass 1 = .ok (.iconst 1, 1) := by decide +kernel
theorem dX5_scriptedPass_2 : decode cX5_scriptedPass 2 = .ok (.bipush 99, 2) := by decide +kernel
theorem dX5_scriptedPass_4 : decode cX5_scriptedPass 4 = .ok (.invokestatic 53, 3) := by decide +kernel
theorem dX5_scriptedPass_7 : decode cX5_scriptedPass 7 = .ok (.ifCond .eq 5, 3) := by decide +kernel
theorem dX5_scriptedPass_10 : decode cX5_scriptedPass 10 = .ok (.iconst 0, 1) := by decide +kernel
theorem dX5_scriptedPass_11 : decode cX5_scriptedPass 11 = .ok (.ireturn, 1) := by decide +kernel
theorem dX5_scriptedPass_12 : decode cX5_scriptedPass 12 = .ok (.aload_n 0, 1) := by decide +kernel
theorem dX5_scriptedPass_13 : decode cX5_scriptedPass 13 = .ok (.getfield 26, 3) := by decide +kernel
theorem dX5_scriptedPass_16 : decode cX5_scriptedPass 16 = .ok (.getfield 109, 3) := by decide +kernel
theorem dX5_scriptedPass_19 : decode cX5_scriptedPass 19 = .ok (.iload_n 1, 1) := by decide +kernel
theorem dX5_scriptedPass_20 : decode cX5_scriptedPass 20 = .ok (.invokevirtual 230, 3) := by decide +kernel
theorem dX5_scriptedPass_23 : decode cX5_scriptedPass 23 = .ok (.iconst 1, 1) := by decide +kernel
theorem dX5_scriptedPass_24 : decode cX5_scriptedPass 24 = .ok (.ireturn, 1) := by decide +kernel
theorem dX5_scriptedSetting_0 : decode cX5_scriptedSetting 0 = .ok (.iload_n 1, 1) := by decide +kernel
theorem dX5_scriptedSetting_1 : decode cX5_scriptedSetting 1 = .ok (.iload_n 2, 1) := by decide +kernel
theorem dX5_scriptedSetting_2 : decode cX5_scriptedSetting 2 = .ok (.invokestatic 233, 3) := by decide +kernel
theorem dX5_scriptedSetting_5 : decode cX5_scriptedSetting 5 = .ok (.ifCond .ne 5, 3) := by decide +kernel
theorem dX5_scriptedSetting_8 : decode cX5_scriptedSetting 8 = .ok (.iconst 0, 1) := by decide +kernel
theorem dX5_scriptedSetting_9 : decode cX5_scriptedSetting 9 = .ok (.ireturn, 1) := by decide +kernel
theorem dX5_scriptedSetting_10 : decode cX5_scriptedSetting 10 = .ok (.aload_n 0, 1) := by decide +kernel
theorem dX5_scriptedSetting_11 : decode cX5_scriptedSetting 11 = .ok (.getfield 26, 3) := by decide +kernel
theorem dX5_scriptedSetting_14 : decode cX5_scriptedSetting 14 = .ok (.getfield 109, 3) := by decide +kernel
theorem dX5_scriptedSetting_17 : decode cX5_scriptedSetting 17 = .ok (.getfield 152, 3) := by decide +kernel
theorem dX5_scriptedSetting_20 : decode cX5_scriptedSetting 20 = .ok (.iload_n 1, 1) := by decide +kernel
theorem dX5_scriptedSetting_21 : decode cX5_scriptedSetting 21 = .ok (.iload_n 2, 1) := by decide +kernel
theorem dX5_scriptedSetting_22 : decode cX5_scriptedSetting 22 = .ok (.iastore, 1) := by decide +kernel
theorem dX5_scriptedSetting_23 : decode cX5_scriptedSetting 23 = .ok (.iconst 1, 1) := by decide +kernel
theorem dX5_scriptedSetting_24 : decode cX5_scriptedSetting 24 = .ok (.ireturn, 1) := by decide +kernel
theorem dX5_isOutside_0 : decode cX5_isOutside 0 = .ok (.iload_n 0, 1) := by decide +kernel
theorem dX5_isOutside_1 : decode cX5_isOutside 1 = .ok (.iload_n 1, 1) := by decide +kernel
theorem dX5_isOutside_2 : decode cX5_isOutside 2 = .ok (.if_icmp .lt 8, 3) := by decide +kernel
theorem dX5_isOutside_5 : decode cX5_isOutside 5 = .ok (.iload_n 0, 1) := by decide +kernel
theorem dX5_isOutside_6 : decode cX5_isOutside 6 = .ok (.iload_n 2, 1) := by decide +kernel
theorem dX5_isOutside_7 : decode cX5_isOutside 7 = .ok (.if_icmp .le 7, 3) := by decide +kernel
theorem dX5_isOutside_10 : decode cX5_isOutside 10 = .ok (.iconst 1, 1) := by decide +kernel
theorem dX5_isOutside_11 : decode cX5_isOutside 11 = .ok (.goto 4, 3) := by decide +kernel
theorem dX5_isOutside_14 : decode cX5_isOutside 14 = .ok (.iconst 0, 1) := by decide +kernel
theorem dX5_isOutside_15 : decode cX5_isOutside 15 = .ok (.ireturn, 1) := by decide +kernel
theorem dX5_isFall_0 : decode cX5_isFall 0 = .ok (.iload_n 0, 1) := by decide +kernel
theorem dX5_isFall_1 : decode cX5_isFall 1 = .ok (.iconst 0, 1) := by decide +kernel
theorem dX5_isFall_2 : decode cX5_isFall 2 = .ok (.bipush 99, 2) := by decide +kernel
theorem dX5_isFall_4 : decode cX5_isFall 4 = .ok (.invokestatic 53, 3) := by decide +kernel
theorem dX5_isFall_7 : decode cX5_isFall 7 = .ok (.ifCond .ne 17, 3) := by decide +kernel
theorem dX5_isFall_10 : decode cX5_isFall 10 = .ok (.iload_n 1, 1) := by decide +kernel
theorem dX5_isFall_11 : decode cX5_isFall 11 = .ok (.iconst 1, 1) := by decide +kernel
theorem dX5_isFall_12 : decode cX5_isFall 12 = .ok (.bipush 60, 2) := by decide +kernel
theorem dX5_isFall_14 : decode cX5_isFall 14 = .ok (.invokestatic 53, 3) := by decide +kernel
theorem dX5_isFall_17 : decode cX5_isFall 17 = .ok (.ifCond .ne 7, 3) := by decide +kernel
theorem dX5_isFall_20 : decode cX5_isFall 20 = .ok (.iconst 1, 1) := by decide +kernel
theorem dX5_isFall_21 : decode cX5_isFall 21 = .ok (.goto 4, 3) := by decide +kernel
theorem dX5_isFall_24 : decode cX5_isFall 24 = .ok (.iconst 0, 1) := by decide +kernel
theorem dX5_isFall_25 : decode cX5_isFall 25 = .ok (.ireturn, 1) := by decide +kernel
theorem dX5_isSetting_0 : decode cX5_isSetting 0 = .ok (.iload_n 0, 1) := by decide +kernel
theorem dX5_isSetting_1 : decode cX5_isSetting 1 = .ok (.iconst 0, 1) := by decide +kernel
theorem dX5_isSetting_2 : decode cX5_isSetting 2 = .ok (.iconst 4, 1) := by decide +kernel
theorem dX5_isSetting_3 : decode cX5_isSetting 3 = .ok (.invokestatic 53, 3) := by decide +kernel
theorem dX5_isSetting_6 : decode cX5_isSetting 6 = .ok (.ifCond .ne 24, 3) := by decide +kernel
theorem dX5_isSetting_9 : decode cX5_isSetting 9 = .ok (.iload_n 1, 1) := by decide +kernel
theorem dX5_isSetting_10 : decode cX5_isSetting 10 = .ok (.getstatic 275, 3) := by decide +kernel
theorem dX5_isSetting_13 : decode cX5_isSetting 13 = .ok (.iload_n 0, 1) := by decide +kernel
theorem dX5_isSetting_14 : decode cX5_isSetting 14 = .ok (.iaload, 1) := by decide +kernel
theorem dX5_isSetting_15 : decode cX5_isSetting 15 = .ok (.getstatic 278, 3) := by decide +kernel
theorem dX5_isSetting_18 : decode cX5_isSetting 18 = .ok (.iload_n 0, 1) := by decide +kernel
theorem dX5_isSetting_19 : decode cX5_isSetting 19 = .ok (.iaload, 1) := by decide +kernel
theorem dX5_isSetting_20 : decode cX5_isSetting 20 = .ok (.invokestatic 53, 3) := by decide +kernel
theorem dX5_isSetting_23 : decode cX5_isSetting 23 = .ok (.ifCond .ne 7, 3) := by decide +kernel
theorem dX5_isSetting_26 : decode cX5_isSetting 26 = .ok (.iconst 1, 1) := by decide +kernel
theorem dX5_isSetting_27 : decode cX5_isSetting 27 = .ok (.goto 4, 3) := by decide +kernel
theorem dX5_isSetting_30 : decode cX5_isSetting 30 = .ok (.iconst 0, 1) := by decide +kernel
theorem dX5_isSetting_31 : decode cX5_isSetting 31 = .ok (.ireturn, 1) := by decide +kernel
theorem dX5_areFates_0 : decode cX5_areFates 0 = .ok (.iload_n 1, 1) := by decide +kernel
theorem dX5_areFates_1 : decode cX5_areFates 1 = .ok (.istore_n 2, 1) := by decide +kernel
theorem dX5_areFates_2 : decode cX5_areFates 2 = .ok (.iconst 0, 1) := by decide +kernel
theorem dX5_areFates_3 : decode cX5_areFates 3 = .ok (.istore_n 3, 1) := by decide +kernel
theorem dX5_areFates_4 : decode cX5_areFates 4 = .ok (.iload_n 3, 1) := by decide +kernel
theorem dX5_areFates_5 : decode cX5_areFates 5 = .ok (.iload_n 0, 1) := by decide +kernel
theorem dX5_areFates_6 : decode cX5_areFates 6 = .ok (.if_icmp .ge 28, 3) := by decide +kernel
theorem dX5_areFates_9 : decode cX5_areFates 9 = .ok (.iload_n 2, 1) := by decide +kernel
theorem dX5_areFates_10 : decode cX5_areFates 10 = .ok (.bipush 10, 2) := by decide +kernel
theorem dX5_areFates_12 : decode cX5_areFates 12 = .ok (.irem, 1) := by decide +kernel
theorem dX5_areFates_13 : decode cX5_areFates 13 = .ok (.iconst 0, 1) := by decide +kernel
theorem dX5_areFates_14 : decode cX5_areFates 14 = .ok (.iconst 3, 1) := by decide +kernel
theorem dX5_areFates_15 : decode cX5_areFates 15 = .ok (.invokestatic 53, 3) := by decide +kernel
theorem dX5_areFates_18 : decode cX5_areFates 18 = .ok (.ifCond .eq 5, 3) := by decide +kernel
theorem dX5_areFates_21 : decode cX5_areFates 21 = .ok (.iconst 0, 1) := by decide +kernel
theorem dX5_areFates_22 : decode cX5_areFates 22 = .ok (.ireturn, 1) := by decide +kernel
theorem dX5_areFates_23 : decode cX5_areFates 23 = .ok (.iload_n 2, 1) := by decide +kernel
theorem dX5_areFates_24 : decode cX5_areFates 24 = .ok (.bipush 10, 2) := by decide +kernel
theorem dX5_areFates_26 : decode cX5_areFates 26 = .ok (.idiv, 1) := by decide +kernel
theorem dX5_areFates_27 : decode cX5_areFates 27 = .ok (.istore_n 2, 1) := by decide +kernel
theorem dX5_areFates_28 : decode cX5_areFates 28 = .ok (.iinc 3 1, 3) := by decide +kernel
theorem dX5_areFates_31 : decode cX5_areFates 31 = .ok (.goto (-27), 3) := by decide +kernel
theorem dX5_areFates_34 : decode cX5_areFates 34 = .ok (.iload_n 1, 1) := by decide +kernel
theorem dX5_areFates_35 : decode cX5_areFates 35 = .ok (.ifCond .lt 11, 3) := by decide +kernel
theorem dX5_areFates_38 : decode cX5_areFates 38 = .ok (.iload_n 2, 1) := by decide +kernel
theorem dX5_areFates_39 : decode cX5_areFates 39 = .ok (.ifCond .ne 7, 3) := by decide +kernel
theorem dX5_areFates_42 : decode cX5_areFates 42 = .ok (.iconst 1, 1) := by decide +kernel
theorem dX5_areFates_43 : decode cX5_areFates 43 = .ok (.goto 4, 3) := by decide +kernel
theorem dX5_areFates_46 : decode cX5_areFates 46 = .ok (.iconst 0, 1) := by decide +kernel
theorem dX5_areFates_47 : decode cX5_areFates 47 = .ok (.ireturn, 1) := by decide +kernel
theorem dX5_withoutLastGroups_0 : decode cX5_withoutLastGroups 0 = .ok (.lload_n 0, 1) := by decide +kernel
theorem dX5_withoutLastGroups_1 : decode cX5_withoutLastGroups 1 = .ok (.lstore_n 3, 1) := by decide +kernel
theorem dX5_withoutLastGroups_2 : decode cX5_withoutLastGroups 2 = .ok (.iconst 0, 1) := by decide +kernel
theorem dX5_withoutLastGroups_3 : decode cX5_withoutLastGroups 3 = .ok (.istore 5, 2) := by decide +kernel
theorem dX5_withoutLastGroups_5 : decode cX5_withoutLastGroups 5 = .ok (.iload 5, 2) := by decide +kernel
theorem dX5_withoutLastGroups_7 : decode cX5_withoutLastGroups 7 = .ok (.iload_n 2, 1) := by decide +kernel
theorem dX5_withoutLastGroups_8 : decode cX5_withoutLastGroups 8 = .ok (.if_icmp .ge 15, 3) := by decide +kernel
theorem dX5_withoutLastGroups_11 : decode cX5_withoutLastGroups 11 = .ok (.lload_n 3, 1) := by decide +kernel
theorem dX5_withoutLastGroups_12 : decode cX5_withoutLastGroups 12 = .ok (.ldc2_w 298, 3) := by decide +kernel
theorem dX5_withoutLastGroups_15 : decode cX5_withoutLastGroups 15 = .ok (.ldiv, 1) := by decide +kernel
theorem dX5_withoutLastGroups_16 : decode cX5_withoutLastGroups 16 = .ok (.lstore_n 3, 1) := by decide +kernel
theorem dX5_withoutLastGroups_17 : decode cX5_withoutLastGroups 17 = .ok (.iinc 5 1, 3) := by decide +kernel
theorem dX5_withoutLastGroups_20 : decode cX5_withoutLastGroups 20 = .ok (.goto (-15), 3) := by decide +kernel
theorem dX5_withoutLastGroups_23 : decode cX5_withoutLastGroups 23 = .ok (.lload_n 3, 1) := by decide +kernel
theorem dX5_withoutLastGroups_24 : decode cX5_withoutLastGroups 24 = .ok (.lreturn, 1) := by decide +kernel
theorem dX5_weightOf_0 : decode cX5_weightOf 0 = .ok (.iload_n 0, 1) := by decide +kernel
theorem dX5_weightOf_1 : decode cX5_weightOf 1 = .ok (.tableswitch 38 0 2 #[27, 31, 35], 27) := by decide +kernel
theorem dX5_weightOf_28 : decode cX5_weightOf 28 = .ok (.ldc_w 350, 3) := by decide +kernel
theorem dX5_weightOf_31 : decode cX5_weightOf 31 = .ok (.ireturn, 1) := by decide +kernel
theorem dX5_weightOf_32 : decode cX5_weightOf 32 = .ok (.sipush 10000, 3) := by decide +kernel
theorem dX5_weightOf_35 : decode cX5_weightOf 35 = .ok (.ireturn, 1) := by decide +kernel
theorem dX5_weightOf_36 : decode cX5_weightOf 36 = .ok (.bipush 100, 2) := by decide +kernel
theorem dX5_weightOf_38 : decode cX5_weightOf 38 = .ok (.ireturn, 1) := by decide +kernel
theorem dX5_weightOf_39 : decode cX5_weightOf 39 = .ok (.iconst 1, 1) := by decide +kernel
theorem dX5_weightOf_40 : decode cX5_weightOf 40 = .ok (.ireturn, 1) := by decide +kernel
theorem dX5_sumOf_0 : decode cX5_sumOf 0 = .ok (.iconst 0, 1) := by decide +kernel
theorem dX5_sumOf_1 : decode cX5_sumOf 1 = .ok (.istore_n 1, 1) := by decide +kernel
theorem dX5_sumOf_2 : decode cX5_sumOf 2 = .ok (.aload_n 0, 1) := by decide +kernel
theorem dX5_sumOf_3 : decode cX5_sumOf 3 = .ok (.astore_n 2, 1) := by decide +kernel
theorem dX5_sumOf_4 : decode cX5_sumOf 4 = .ok (.aload_n 2, 1) := by decide +kernel
theorem dX5_sumOf_5 : decode cX5_sumOf 5 = .ok (.arraylength, 1) := by decide +kernel
theorem dX5_sumOf_6 : decode cX5_sumOf 6 = .ok (.istore_n 3, 1) := by decide +kernel
theorem dX5_sumOf_7 : decode cX5_sumOf 7 = .ok (.iconst 0, 1) := by decide +kernel
theorem dX5_sumOf_8 : decode cX5_sumOf 8 = .ok (.istore 4, 2) := by decide +kernel
theorem dX5_sumOf_10 : decode cX5_sumOf 10 = .ok (.iload 4, 2) := by decide +kernel
theorem dX5_sumOf_12 : decode cX5_sumOf 12 = .ok (.iload_n 3, 1) := by decide +kernel
theorem dX5_sumOf_13 : decode cX5_sumOf 13 = .ok (.if_icmp .ge 20, 3) := by decide +kernel
theorem dX5_sumOf_16 : decode cX5_sumOf 16 = .ok (.aload_n 2, 1) := by decide +kernel
theorem dX5_sumOf_17 : decode cX5_sumOf 17 = .ok (.iload 4, 2) := by decide +kernel
theorem dX5_sumOf_19 : decode cX5_sumOf 19 = .ok (.iaload, 1) := by decide +kernel
theorem dX5_sumOf_20 : decode cX5_sumOf 20 = .ok (.istore 5, 2) := by decide +kernel
theorem dX5_sumOf_22 : decode cX5_sumOf 22 = .ok (.iload_n 1, 1) := by decide +kernel
theorem dX5_sumOf_23 : decode cX5_sumOf 23 = .ok (.iload 5, 2) := by decide +kernel
theorem dX5_sumOf_25 : decode cX5_sumOf 25 = .ok (.iadd, 1) := by decide +kernel
theorem dX5_sumOf_26 : decode cX5_sumOf 26 = .ok (.istore_n 1, 1) := by decide +kernel
theorem dX5_sumOf_27 : decode cX5_sumOf 27 = .ok (.iinc 4 1, 3) := by decide +kernel
theorem dX5_sumOf_30 : decode cX5_sumOf 30 = .ok (.goto (-20), 3) := by decide +kernel
theorem dX5_sumOf_33 : decode cX5_sumOf 33 = .ok (.iload_n 1, 1) := by decide +kernel
theorem dX5_sumOf_34 : decode cX5_sumOf 34 = .ok (.ireturn, 1) := by decide +kernel
theorem dX5_copyRow_0 : decode cX5_copyRow 0 = .ok (.iconst 0, 1) := by decide +kernel
theorem dX5_copyRow_1 : decode cX5_copyRow 1 = .ok (.istore_n 2, 1) := by decide +kernel
theorem dX5_copyRow_2 : decode cX5_copyRow 2 = .ok (.iload_n 2, 1) := by decide +kernel
theorem dX5_copyRow_3 : decode cX5_copyRow 3 = .ok (.aload_n 0, 1) := by decide +kernel
theorem dX5_copyRow_4 : decode cX5_copyRow 4 = .ok (.arraylength, 1) := by decide +kernel
theorem dX5_copyRow_5 : decode cX5_copyRow 5 = .ok (.if_icmp .ge 21, 3) := by decide +kernel
theorem dX5_copyRow_8 : decode cX5_copyRow 8 = .ok (.iload_n 2, 1) := by decide +kernel
theorem dX5_copyRow_9 : decode cX5_copyRow 9 = .ok (.aload_n 1, 1) := by decide +kernel
theorem dX5_copyRow_10 : decode cX5_copyRow 10 = .ok (.arraylength, 1) := by decide +kernel
theorem dX5_copyRow_11 : decode cX5_copyRow 11 = .ok (.if_icmp .ge 15, 3) := by decide +kernel
theorem dX5_copyRow_14 : decode cX5_copyRow 14 = .ok (.aload_n 1, 1) := by decide +kernel
theorem dX5_copyRow_15 : decode cX5_copyRow 15 = .ok (.iload_n 2, 1) := by decide +kernel
theorem dX5_copyRow_16 : decode cX5_copyRow 16 = .ok (.aload_n 0, 1) := by decide +kernel
theorem dX5_copyRow_17 : decode cX5_copyRow 17 = .ok (.iload_n 2, 1) := by decide +kernel
theorem dX5_copyRow_18 : decode cX5_copyRow 18 = .ok (.iaload, 1) := by decide +kernel
theorem dX5_copyRow_19 : decode cX5_copyRow 19 = .ok (.iastore, 1) := by decide +kernel
theorem dX5_copyRow_20 : decode cX5_copyRow 20 = .ok (.iinc 2 1, 3) := by decide +kernel
theorem dX5_copyRow_23 : decode cX5_copyRow 23 = .ok (.goto (-21), 3) := by decide +kernel
theorem dX5_copyRow_26 : decode cX5_copyRow 26 = .ok (.return_, 1) := by decide +kernel
theorem dX5_clearRow_0 : decode cX5_clearRow 0 = .ok (.iconst 0, 1) := by decide +kernel
theorem dX5_clearRow_1 : decode cX5_clearRow 1 = .ok (.istore_n 1, 1) := by decide +kernel
theorem dX5_clearRow_2 : decode cX5_clearRow 2 = .ok (.iload_n 1, 1) := by decide +kernel
theorem dX5_clearRow_3 : decode cX5_clearRow 3 = .ok (.aload_n 0, 1) := by decide +kernel
theorem dX5_clearRow_4 : decode cX5_clearRow 4 = .ok (.arraylength, 1) := by decide +kernel
theorem dX5_clearRow_5 : decode cX5_clearRow 5 = .ok (.if_icmp .ge 13, 3) := by decide +kernel
theorem dX5_clearRow_8 : decode cX5_clearRow 8 = .ok (.aload_n 0, 1) := by decide +kernel
theorem dX5_clearRow_9 : decode cX5_clearRow 9 = .ok (.iload_n 1, 1) := by decide +kernel
theorem dX5_clearRow_10 : decode cX5_clearRow 10 = .ok (.iconst 0, 1) := by decide +kernel
theorem dX5_clearRow_11 : decode cX5_clearRow 11 = .ok (.iastore, 1) := by decide +kernel
theorem dX5_clearRow_12 : decode cX5_clearRow 12 = .ok (.iinc 1 1, 3) := by decide +kernel
theorem dX5_clearRow_15 : decode cX5_clearRow 15 = .ok (.goto (-13), 3) := by decide +kernel
theorem dX5_clearRow_18 : decode cX5_clearRow 18 = .ok (.return_, 1) := by decide +kernel
theorem dX5_wholeRoot_0 : decode cX5_wholeRoot 0 = .ok (.iconst 0, 1) := by decide +kernel
theorem dX5_wholeRoot_1 : decode cX5_wholeRoot 1 = .ok (.istore_n 1, 1) := by decide +kernel
theorem dX5_wholeRoot_2 : decode cX5_wholeRoot 2 = .ok (.bipush 64, 2) := by decide +kernel
theorem dX5_wholeRoot_4 : decode cX5_wholeRoot 4 = .ok (.istore_n 2, 1) := by decide +kernel
theorem dX5_wholeRoot_5 : decode cX5_wholeRoot 5 = .ok (.iload_n 2, 1) := by decide +kernel
theorem dX5_wholeRoot_6 : decode cX5_wholeRoot 6 = .ok (.ifCond .le 25, 3) := by decide +kernel
theorem dX5_wholeRoot_9 : decode cX5_wholeRoot 9 = .ok (.iload_n 1, 1) := by decide +kernel
theorem dX5_wholeRoot_10 : decode cX5_wholeRoot 10 = .ok (.iload_n 2, 1) := by decide +kernel
theorem dX5_wholeRoot_11 : decode cX5_wholeRoot 11 = .ok (.iadd, 1) := by decide +kernel
theorem dX5_wholeRoot_12 : decode cX5_wholeRoot 12 = .ok (.iload_n 1, 1) := by decide +kernel
theorem dX5_wholeRoot_13 : decode cX5_wholeRoot 13 = .ok (.iload_n 2, 1) := by decide +kernel
theorem dX5_wholeRoot_14 : decode cX5_wholeRoot 14 = .ok (.iadd, 1) := by decide +kernel
theorem dX5_wholeRoot_15 : decode cX5_wholeRoot 15 = .ok (.imul, 1) := by decide +kernel
theorem dX5_wholeRoot_16 : decode cX5_wholeRoot 16 = .ok (.iload_n 0, 1) := by decide +kernel
theorem dX5_wholeRoot_17 : decode cX5_wholeRoot 17 = .ok (.if_icmp .gt 7, 3) := by decide +kernel
theorem dX5_wholeRoot_20 : decode cX5_wholeRoot 20 = .ok (.iload_n 1, 1) := by decide +kernel
theorem dX5_wholeRoot_21 : decode cX5_wholeRoot 21 = .ok (.iload_n 2, 1) := by decide +kernel
theorem dX5_wholeRoot_22 : decode cX5_wholeRoot 22 = .ok (.iadd, 1) := by decide +kernel
theorem dX5_wholeRoot_23 : decode cX5_wholeRoot 23 = .ok (.istore_n 1, 1) := by decide +kernel
theorem dX5_wholeRoot_24 : decode cX5_wholeRoot 24 = .ok (.iload_n 2, 1) := by decide +kernel
theorem dX5_wholeRoot_25 : decode cX5_wholeRoot 25 = .ok (.iconst 2, 1) := by decide +kernel
theorem dX5_wholeRoot_26 : decode cX5_wholeRoot 26 = .ok (.idiv, 1) := by decide +kernel
theorem dX5_wholeRoot_27 : decode cX5_wholeRoot 27 = .ok (.istore_n 2, 1) := by decide +kernel
theorem dX5_wholeRoot_28 : decode cX5_wholeRoot 28 = .ok (.goto (-23), 3) := by decide +kernel
theorem dX5_wholeRoot_31 : decode cX5_wholeRoot 31 = .ok (.iload_n 1, 1) := by decide +kernel
theorem dX5_wholeRoot_32 : decode cX5_wholeRoot 32 = .ok (.ireturn, 1) := by decide +kernel
theorem dX5_cube_0 : decode cX5_cube 0 = .ok (.iload_n 0, 1) := by decide +kernel
theorem dX5_cube_1 : decode cX5_cube 1 = .ok (.i2l, 1) := by decide +kernel
theorem dX5_cube_2 : decode cX5_cube 2 = .ok (.iload_n 0, 1) := by decide +kernel
theorem dX5_cube_3 : decode cX5_cube 3 = .ok (.i2l, 1) := by decide +kernel
theorem dX5_cube_4 : decode cX5_cube 4 = .ok (.lmul, 1) := by decide +kernel
theorem dX5_cube_5 : decode cX5_cube 5 = .ok (.iload_n 0, 1) := by decide +kernel
theorem dX5_cube_6 : decode cX5_cube 6 = .ok (.i2l, 1) := by decide +kernel
theorem dX5_cube_7 : decode cX5_cube 7 = .ok (.lmul, 1) := by decide +kernel
theorem dX5_cube_8 : decode cX5_cube 8 = .ok (.lreturn, 1) := by decide +kernel
