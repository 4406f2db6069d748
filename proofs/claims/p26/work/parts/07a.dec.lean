theorem dX0_init_0 : decode cX0_init 0 = .ok (.aload_n 0, 1) := by decide +kernel
theorem dX0_init_1 : decode cX0_init 1 = .ok (.invokespecial 3, 3) := by decide +kernel
theorem dX0_init_4 : decode cX0_init 4 = .ok (.aload_n 0, 1) := by decide +kernel
theorem dX0_init_5 : decode cX0_init 5 = .ok (.bipush 9, 2) := by decide +kernel
theorem dX0_init_7 : decode cX0_init 7 = .ok (.sipush 601, 3) := by decide +kernel
theorem dX0_init_10 : decode cX0_init 10 = .ok (.multianewarray 9 2, 4) := by decide +kernel
theorem dX0_init_14 : decode cX0_init 14 = .ok (.putfield 11, 3) := by decide +kernel
theorem dX0_init_17 : decode cX0_init 17 = .ok (.aload_n 0, 1) := by decide +kernel
theorem dX0_init_18 : decode cX0_init 18 = .ok (.bipush 9, 2) := by decide +kernel
theorem dX0_init_20 : decode cX0_init 20 = .ok (.sipush 601, 3) := by decide +kernel
theorem dX0_init_23 : decode cX0_init 23 = .ok (.multianewarray 9 2, 4) := by decide +kernel
theorem dX0_init_27 : decode cX0_init 27 = .ok (.putfield 16, 3) := by decide +kernel
theorem dX0_init_30 : decode cX0_init 30 = .ok (.return_, 1) := by decide +kernel
theorem dX0_write_0 : decode cX0_write 0 = .ok (.iconst 0, 1) := by decide +kernel
theorem dX0_write_1 : decode cX0_write 1 = .ok (.istore 4, 2) := by decide +kernel
theorem dX0_write_3 : decode cX0_write 3 = .ok (.iload 4, 2) := by decide +kernel
theorem dX0_write_5 : decode cX0_write 5 = .ok (.iconst 3, 1) := by decide +kernel
theorem dX0_write_6 : decode cX0_write 6 = .ok (.if_icmp .ge 45, 3) := by decide +kernel
theorem dX0_write_9 : decode cX0_write 9 = .ok (.aload_n 0, 1) := by decide +kernel
theorem dX0_write_10 : decode cX0_write 10 = .ok (.iload_n 1, 1) := by decide +kernel
theorem dX0_write_11 : decode cX0_write 11 = .ok (.iload 4, 2) := by decide +kernel
theorem dX0_write_13 : decode cX0_write 13 = .ok (.iconst 0, 1) := by decide +kernel
theorem dX0_write_14 : decode cX0_write 14 = .ok (.invokevirtual 19, 3) := by decide +kernel
theorem dX0_write_17 : decode cX0_write 17 = .ok (.iload_n 2, 1) := by decide +kernel
theorem dX0_write_18 : decode cX0_write 18 = .ok (.aload_n 3, 1) := by decide +kernel
theorem dX0_write_19 : decode cX0_write 19 = .ok (.getfield 23, 3) := by decide +kernel
theorem dX0_write_22 : decode cX0_write 22 = .ok (.iload 4, 2) := by decide +kernel
theorem dX0_write_24 : decode cX0_write 24 = .ok (.aaload, 1) := by decide +kernel
theorem dX0_write_25 : decode cX0_write 25 = .ok (.getfield 29, 3) := by decide +kernel
theorem dX0_write_28 : decode cX0_write 28 = .ok (.iastore, 1) := by decide +kernel
theorem dX0_write_29 : decode cX0_write 29 = .ok (.aload_n 0, 1) := by decide +kernel
theorem dX0_write_30 : decode cX0_write 30 = .ok (.iload_n 1, 1) := by decide +kernel
theorem dX0_write_31 : decode cX0_write 31 = .ok (.iload 4, 2) := by decide +kernel
theorem dX0_write_33 : decode cX0_write 33 = .ok (.iconst 1, 1) := by decide +kernel
theorem dX0_write_34 : decode cX0_write 34 = .ok (.invokevirtual 19, 3) := by decide +kernel
theorem dX0_write_37 : decode cX0_write 37 = .ok (.iload_n 2, 1) := by decide +kernel
theorem dX0_write_38 : decode cX0_write 38 = .ok (.aload_n 3, 1) := by decide +kernel
theorem dX0_write_39 : decode cX0_write 39 = .ok (.iload 4, 2) := by decide +kernel
theorem dX0_write_41 : decode cX0_write 41 = .ok (.invokevirtual 35, 3) := by decide +kernel
theorem dX0_write_44 : decode cX0_write 44 = .ok (.iastore, 1) := by decide +kernel
theorem dX0_write_45 : decode cX0_write 45 = .ok (.iinc 4 1, 3) := by decide +kernel
theorem dX0_write_48 : decode cX0_write 48 = .ok (.goto (-45), 3) := by decide +kernel
theorem dX0_write_51 : decode cX0_write 51 = .ok (.return_, 1) := by decide +kernel
theorem dX0_row_0 : decode cX0_row 0 = .ok (.iload_n 1, 1) := by decide +kernel
theorem dX0_row_1 : decode cX0_row 1 = .ok (.iconst 3, 1) := by decide +kernel
theorem dX0_row_2 : decode cX0_row 2 = .ok (.imul, 1) := by decide +kernel
theorem dX0_row_3 : decode cX0_row 3 = .ok (.iload_n 2, 1) := by decide +kernel
theorem dX0_row_4 : decode cX0_row 4 = .ok (.iadd, 1) := by decide +kernel
theorem dX0_row_5 : decode cX0_row 5 = .ok (.istore 4, 2) := by decide +kernel
theorem dX0_row_7 : decode cX0_row 7 = .ok (.iload_n 3, 1) := by decide +kernel
theorem dX0_row_8 : decode cX0_row 8 = .ok (.ifCond .ne 13, 3) := by decide +kernel
theorem dX0_row_11 : decode cX0_row 11 = .ok (.aload_n 0, 1) := by decide +kernel
theorem dX0_row_12 : decode cX0_row 12 = .ok (.getfield 11, 3) := by decide +kernel
theorem dX0_row_15 : decode cX0_row 15 = .ok (.iload 4, 2) := by decide +kernel
theorem dX0_row_17 : decode cX0_row 17 = .ok (.aaload, 1) := by decide +kernel
theorem dX0_row_18 : decode cX0_row 18 = .ok (.goto 10, 3) := by decide +kernel
theorem dX0_row_21 : decode cX0_row 21 = .ok (.aload_n 0, 1) := by decide +kernel
theorem dX0_row_22 : decode cX0_row 22 = .ok (.getfield 16, 3) := by decide +kernel
theorem dX0_row_25 : decode cX0_row 25 = .ok (.iload 4, 2) := by decide +kernel
theorem dX0_row_27 : decode cX0_row 27 = .ok (.aaload, 1) := by decide +kernel
theorem dX0_row_28 : decode cX0_row 28 = .ok (.areturn, 1) := by decide +kernel
theorem dX1_init_0 : decode cX1_init 0 = .ok (.aload_n 0, 1) := by decide +kernel
theorem dX1_init_1 : decode cX1_init 1 = .ok (.invokespecial 3, 3) := by decide +kernel
theorem dX1_init_4 : decode cX1_init 4 = .ok (.return_, 1) := by decide +kernel
theorem dX1_copyFrom_0 : decode cX1_copyFrom 0 = .ok (.aload_n 0, 1) := by decide +kernel
theorem dX1_copyFrom_1 : decode cX1_copyFrom 1 = .ok (.aload_n 1, 1) := by decide +kernel
theorem dX1_copyFrom_2 : decode cX1_copyFrom 2 = .ok (.getfield 9, 3) := by decide +kernel
theorem dX1_copyFrom_5 : decode cX1_copyFrom 5 = .ok (.putfield 9, 3) := by decide +kernel
theorem dX1_copyFrom_8 : decode cX1_copyFrom 8 = .ok (.aload_n 0, 1) := by decide +kernel
theorem dX1_copyFrom_9 : decode cX1_copyFrom 9 = .ok (.aload_n 1, 1) := by decide +kernel
theorem dX1_copyFrom_10 : decode cX1_copyFrom 10 = .ok (.getfield 15, 3) := by decide +kernel
theorem dX1_copyFrom_13 : decode cX1_copyFrom 13 = .ok (.putfield 15, 3) := by decide +kernel
theorem dX1_copyFrom_16 : decode cX1_copyFrom 16 = .ok (.aload_n 0, 1) := by decide +kernel
theorem dX1_copyFrom_17 : decode cX1_copyFrom 17 = .ok (.aload_n 1, 1) := by decide +kernel
theorem dX1_copyFrom_18 : decode cX1_copyFrom 18 = .ok (.getfield 18, 3) := by decide +kernel
theorem dX1_copyFrom_21 : decode cX1_copyFrom 21 = .ok (.putfield 18, 3) := by decide +kernel
theorem dX1_copyFrom_24 : decode cX1_copyFrom 24 = .ok (.aload_n 0, 1) := by decide +kernel
theorem dX1_copyFrom_25 : decode cX1_copyFrom 25 = .ok (.aload_n 1, 1) := by decide +kernel
theorem dX1_copyFrom_26 : decode cX1_copyFrom 26 = .ok (.getfield 21, 3) := by decide +kernel
theorem dX1_copyFrom_29 : decode cX1_copyFrom 29 = .ok (.putfield 21, 3) := by decide +kernel
theorem dX1_copyFrom_32 : decode cX1_copyFrom 32 = .ok (.aload_n 0, 1) := by decide +kernel
theorem dX1_copyFrom_33 : decode cX1_copyFrom 33 = .ok (.aload_n 1, 1) := by decide +kernel
theorem dX1_copyFrom_34 : decode cX1_copyFrom 34 = .ok (.getfield 24, 3) := by decide +kernel
theorem dX1_copyFrom_37 : decode cX1_copyFrom 37 = .ok (.putfield 24, 3) := by decide +kernel
theorem dX1_copyFrom_40 : decode cX1_copyFrom 40 = .ok (.aload_n 0, 1) := by decide +kernel
theorem dX1_copyFrom_41 : decode cX1_copyFrom 41 = .ok (.aload_n 1, 1) := by decide +kernel
theorem dX1_copyFrom_42 : decode cX1_copyFrom 42 = .ok (.getfield 27, 3) := by decide +kernel
theorem dX1_copyFrom_45 : decode cX1_copyFrom 45 = .ok (.putfield 27, 3) := by decide +kernel
theorem dX1_copyFrom_48 : decode cX1_copyFrom 48 = .ok (.aload_n 0, 1) := by decide +kernel
theorem dX1_copyFrom_49 : decode cX1_copyFrom 49 = .ok (.aload_n 1, 1) := by decide +kernel
theorem dX1_copyFrom_50 : decode cX1_copyFrom 50 = .ok (.getfield 30, 3) := by decide +kernel
theorem dX1_copyFrom_53 : decode cX1_copyFrom 53 = .ok (.putfield 30, 3) := by decide +kernel
theorem dX1_copyFrom_56 : decode cX1_copyFrom 56 = .ok (.aload_n 0, 1) := by decide +kernel
theorem dX1_copyFrom_57 : decode cX1_copyFrom 57 = .ok (.aload_n 1, 1) := by decide +kernel
theorem dX1_copyFrom_58 : decode cX1_copyFrom 58 = .ok (.getfield 33, 3) := by decide +kernel
theorem dX1_copyFrom_61 : decode cX1_copyFrom 61 = .ok (.putfield 33, 3) := by decide +kernel
theorem dX1_copyFrom_64 : decode cX1_copyFrom 64 = .ok (.aload_n 0, 1) := by decide +kernel
theorem dX1_copyFrom_65 : decode cX1_copyFrom 65 = .ok (.aload_n 1, 1) := by decide +kernel
theorem dX1_copyFrom_66 : decode cX1_copyFrom 66 = .ok (.getfield 36, 3) := by decide +kernel
theorem dX1_copyFrom_69 : decode cX1_copyFrom 69 = .ok (.putfield 36, 3) := by decide +kernel
theorem dX1_copyFrom_72 : decode cX1_copyFrom 72 = .ok (.aload_n 0, 1) := by decide +kernel
theorem dX1_copyFrom_73 : decode cX1_copyFrom 73 = .ok (.aload_n 1, 1) := by decide +kernel
theorem dX1_copyFrom_74 : decode cX1_copyFrom 74 = .ok (.getfield 39, 3) := by decide +kernel
theorem dX1_copyFrom_77 : decode cX1_copyFrom 77 = .ok (.putfield 39, 3) := by decide +kernel
theorem dX1_copyFrom_80 : decode cX1_copyFrom 80 = .ok (.return_, 1) := by decide +kernel
theorem dX1_start_0 : decode cX1_start 0 = .ok (.aload_n 0, 1) := by decide +kernel
theorem dX1_start_1 : decode cX1_start 1 = .ok (.iload_n 1, 1) := by decide +kernel
theorem dX1_start_2 : decode cX1_start 2 = .ok (.putfield 9, 3) := by decide +kernel
theorem dX1_start_5 : decode cX1_start 5 = .ok (.aload_n 0, 1) := by decide +kernel
theorem dX1_start_6 : decode cX1_start 6 = .ok (.iload_n 2, 1) := by decide +kernel
theorem dX1_start_7 : decode cX1_start 7 = .ok (.putfield 15, 3) := by decide +kernel
theorem dX1_start_10 : decode cX1_start 10 = .ok (.aload_n 0, 1) := by decide +kernel
theorem dX1_start_11 : decode cX1_start 11 = .ok (.iload_n 3, 1) := by decide +kernel
theorem dX1_start_12 : decode cX1_start 12 = .ok (.putfield 18, 3) := by decide +kernel
theorem dX1_start_15 : decode cX1_start 15 = .ok (.aload_n 0, 1) := by decide +kernel
theorem dX1_start_16 : decode cX1_start 16 = .ok (.iload 4, 2) := by decide +kernel
theorem dX1_start_18 : decode cX1_start 18 = .ok (.putfield 21, 3) := by decide +kernel
theorem dX1_start_21 : decode cX1_start 21 = .ok (.aload_n 0, 1) := by decide +kernel
theorem dX1_start_22 : decode cX1_start 22 = .ok (.iload 5, 2) := by decide +kernel
theorem dX1_start_24 : decode cX1_start 24 = .ok (.putfield 24, 3) := by decide +kernel
theorem dX1_start_27 : decode cX1_start 27 = .ok (.aload_n 0, 1) := by decide +kernel
theorem dX1_start_28 : decode cX1_start 28 = .ok (.iconst 0, 1) := by decide +kernel
theorem dX1_start_29 : decode cX1_start 29 = .ok (.putfield 27, 3) := by decide +kernel
theorem dX1_start_32 : decode cX1_start 32 = .ok (.aload_n 0, 1) := by decide +kernel
theorem dX1_start_33 : decode cX1_start 33 = .ok (.iconst 0, 1) := by decide +kernel
theorem dX1_start_34 : decode cX1_start 34 = .ok (.putfield 30, 3) := by decide +kernel
theorem dX1_start_37 : decode cX1_start 37 = .ok (.aload_n 0, 1) := by decide +kernel
theorem dX1_start_38 : decode cX1_start 38 = .ok (.iconst 0, 1) := by decide +kernel
theorem dX1_start_39 : decode cX1_start 39 = .ok (.putfield 33, 3) := by decide +kernel
theorem dX1_start_42 : decode cX1_start 42 = .ok (.aload_n 0, 1) := by decide +kernel
theorem dX1_start_43 : decode cX1_start 43 = .ok (.iconst 0, 1) := by decide +kernel
theorem dX1_start_44 : decode cX1_start 44 = .ok (.putfield 36, 3) := by decide +kernel
theorem dX1_start_47 : decode cX1_start 47 = .ok (.aload_n 0, 1) := by decide +kernel
theorem dX1_start_48 : decode cX1_start 48 = .ok (.iconst 0, 1) := by decide +kernel
theorem dX1_start_49 : decode cX1_start 49 = .ok (.putfield 39, 3) := by decide +kernel
theorem dX1_start_52 : decode cX1_start 52 = .ok (.return_, 1) := by decide +kernel
theorem dX1_isIn_0 : decode cX1_isIn 0 = .ok (.aload_n 0, 1) := by decide +kernel
theorem dX1_isIn_1 : decode cX1_isIn 1 = .ok (.getfield 27, 3) := by decide +kernel
theorem dX1_isIn_4 : decode cX1_isIn 4 = .ok (.ifCond .ne 15, 3) := by decide +kernel
theorem dX1_isIn_7 : decode cX1_isIn 7 = .ok (.aload_n 0, 1) := by decide +kernel
theorem dX1_isIn_8 : decode cX1_isIn 8 = .ok (.getfield 9, 3) := by decide +kernel
theorem dX1_isIn_11 : decode cX1_isIn 11 = .ok (.iload_n 1, 1) := by decide +kernel
theorem dX1_isIn_12 : decode cX1_isIn 12 = .ok (.if_icmp .ne 7, 3) := by decide +kernel
theorem dX1_isIn_15 : decode cX1_isIn 15 = .ok (.iconst 1, 1) := by decide +kernel
theorem dX1_isIn_16 : decode cX1_isIn 16 = .ok (.goto 4, 3) := by decide +kernel
theorem dX1_isIn_19 : decode cX1_isIn 19 = .ok (.iconst 0, 1) := by decide +kernel
theorem dX1_isIn_20 : decode cX1_isIn 20 = .ok (.ireturn, 1) := by decide +kernel
theorem dX1_isOverdue_0 : decode cX1_isOverdue 0 = .ok (.aload_n 0, 1) := by decide +kernel
theorem dX1_isOverdue_1 : decode cX1_isOverdue 1 = .ok (.getfield 36, 3) := by decide +kernel
theorem dX1_isOverdue_4 : decode cX1_isOverdue 4 = .ok (.aload_n 0, 1) := by decide +kernel
theorem dX1_isOverdue_5 : decode cX1_isOverdue 5 = .ok (.getfield 21, 3) := by decide +kernel
theorem dX1_isOverdue_8 : decode cX1_isOverdue 8 = .ok (.if_icmp .le 7, 3) := by decide +kernel
theorem dX1_isOverdue_11 : decode cX1_isOverdue 11 = .ok (.iconst 1, 1) := by decide +kernel
theorem dX1_isOverdue_12 : decode cX1_isOverdue 12 = .ok (.goto 4, 3) := by decide +kernel
theorem dX1_isOverdue_15 : decode cX1_isOverdue 15 = .ok (.iconst 0, 1) := by decide +kernel
theorem dX1_isOverdue_16 : decode cX1_isOverdue 16 = .ok (.ireturn, 1) := by decide +kernel
theorem dX1_addMinute_0 : decode cX1_addMinute 0 = .ok (.aload_n 1, 1) := by decide +kernel
theorem dX1_addMinute_1 : decode cX1_addMinute 1 = .ok (.getfield 42, 3) := by decide +kernel
theorem dX1_addMinute_4 : decode cX1_addMinute 4 = .ok (.aload_n 0, 1) := by decide +kernel
theorem dX1_addMinute_5 : decode cX1_addMinute 5 = .ok (.getfield 15, 3) := by decide +kernel
theorem dX1_addMinute_8 : decode cX1_addMinute 8 = .ok (.aaload, 1) := by decide +kernel
theorem dX1_addMinute_9 : decode cX1_addMinute 9 = .ok (.getfield 48, 3) := by decide +kernel
theorem dX1_addMinute_12 : decode cX1_addMinute 12 = .ok (.aload_n 0, 1) := by decide +kernel
theorem dX1_addMinute_13 : decode cX1_addMinute 13 = .ok (.getfield 18, 3) := by decide +kernel
theorem dX1_addMinute_16 : decode cX1_addMinute 16 = .ok (.if_icmp .le 33, 3) := by decide +kernel
theorem dX1_addMinute_19 : decode cX1_addMinute 19 = .ok (.aload_n 1, 1) := by decide +kernel
theorem dX1_addMinute_20 : decode cX1_addMinute 20 = .ok (.getfield 53, 3) := by decide +kernel
theorem dX1_addMinute_23 : decode cX1_addMinute 23 = .ok (.ifCond .eq 16, 3) := by decide +kernel
theorem dX1_addMinute_26 : decode cX1_addMinute 26 = .ok (.aload_n 0, 1) := by decide +kernel
theorem dX1_addMinute_27 : decode cX1_addMinute 27 = .ok (.dup, 1) := by decide +kernel
theorem dX1_addMinute_28 : decode cX1_addMinute 28 = .ok (.getfield 30, 3) := by decide +kernel
theorem dX1_addMinute_31 : decode cX1_addMinute 31 = .ok (.iconst 1, 1) := by decide +kernel
theorem dX1_addMinute_32 : decode cX1_addMinute 32 = .ok (.iadd, 1) := by decide +kernel
theorem dX1_addMinute_33 : decode cX1_addMinute 33 = .ok (.putfield 30, 3) := by decide +kernel
theorem dX1_addMinute_36 : decode cX1_addMinute 36 = .ok (.goto 13, 3) := by decide +kernel
theorem dX1_addMinute_39 : decode cX1_addMinute 39 = .ok (.aload_n 0, 1) := by decide +kernel
theorem dX1_addMinute_40 : decode cX1_addMinute 40 = .ok (.dup, 1) := by decide +kernel
theorem dX1_addMinute_41 : decode cX1_addMinute 41 = .ok (.getfield 33, 3) := by decide +kernel
theorem dX1_addMinute_44 : decode cX1_addMinute 44 = .ok (.iconst 1, 1) := by decide +kernel
theorem dX1_addMinute_45 : decode cX1_addMinute 45 = .ok (.iadd, 1) := by decide +kernel
theorem dX1_addMinute_46 : decode cX1_addMinute 46 = .ok (.putfield 33, 3) := by decide +kernel
theorem dX1_addMinute_49 : decode cX1_addMinute 49 = .ok (.aload_n 1, 1) := by decide +kernel
theorem dX1_addMinute_50 : decode cX1_addMinute 50 = .ok (.aload_n 0, 1) := by decide +kernel
theorem dX1_addMinute_51 : decode cX1_addMinute 51 = .ok (.getfield 15, 3) := by decide +kernel
theorem dX1_addMinute_54 : decode cX1_addMinute 54 = .ok (.invokevirtual 57, 3) := by decide +kernel
theorem dX1_addMinute_57 : decode cX1_addMinute 57 = .ok (.aload_n 0, 1) := by decide +kernel
theorem dX1_addMinute_58 : decode cX1_addMinute 58 = .ok (.getfield 18, 3) := by decide +kernel
theorem dX1_addMinute_61 : decode cX1_addMinute 61 = .ok (.if_icmp .le 13, 3) := by decide +kernel
theorem dX1_addMinute_64 : decode cX1_addMinute 64 = .ok (.aload_n 0, 1) := by decide +kernel
theorem dX1_addMinute_65 : decode cX1_addMinute 65 = .ok (.dup, 1) := by decide +kernel
theorem dX1_addMinute_66 : decode cX1_addMinute 66 = .ok (.getfield 36, 3) := by decide +kernel
theorem dX1_addMinute_69 : decode cX1_addMinute 69 = .ok (.iconst 1, 1) := by decide +kernel
theorem dX1_addMinute_70 : decode cX1_addMinute 70 = .ok (.iadd, 1) := by decide +kernel
theorem dX1_addMinute_71 : decode cX1_addMinute 71 = .ok (.putfield 36, 3) := by decide +kernel
theorem dX1_addMinute_74 : decode cX1_addMinute 74 = .ok (.return_, 1) := by decide +kernel
theorem dX1_wasRejected_0 : decode cX1_wasRejected 0 = .ok (.aload_n 0, 1) := by decide +kernel
theorem dX1_wasRejected_1 : decode cX1_wasRejected 1 = .ok (.getfield 27, 3) := by decide +kernel
theorem dX1_wasRejected_4 : decode cX1_wasRejected 4 = .ok (.iconst 2, 1) := by decide +kernel
theorem dX1_wasRejected_5 : decode cX1_wasRejected 5 = .ok (.if_icmp .eq 11, 3) := by decide +kernel
theorem dX1_wasRejected_8 : decode cX1_wasRejected 8 = .ok (.aload_n 0, 1) := by decide +kernel
theorem dX1_wasRejected_9 : decode cX1_wasRejected 9 = .ok (.getfield 27, 3) := by decide +kernel
theorem dX1_wasRejected_12 : decode cX1_wasRejected 12 = .ok (.iconst 3, 1) := by decide +kernel
theorem dX1_wasRejected_13 : decode cX1_wasRejected 13 = .ok (.if_icmp .ne 7, 3) := by decide +kernel
theorem dX1_wasRejected_16 : decode cX1_wasRejected 16 = .ok (.iconst 1, 1) := by decide +kernel
theorem dX1_wasRejected_17 : decode cX1_wasRejected 17 = .ok (.goto 4, 3) := by decide +kernel
theorem dX1_wasRejected_20 : decode cX1_wasRejected 20 = .ok (.iconst 0, 1) := by decide +kernel
theorem dX1_wasRejected_21 : decode cX1_wasRejected 21 = .ok (.ireturn, 1) := by decide +kernel
theorem dX1_cause_0 : decode cX1_cause 0 = .ok (.aload_n 0, 1) := by decide +kernel
theorem dX1_cause_1 : decode cX1_cause 1 = .ok (.invokevirtual 61, 3) := by decide +kernel
theorem dX1_cause_4 : decode cX1_cause 4 = .ok (.ifCond .ne 5, 3) := by decide +kernel
theorem dX1_cause_7 : decode cX1_cause 7 = .ok (.iconst 0, 1) := by decide +kernel
theorem dX1_cause_8 : decode cX1_cause 8 = .ok (.ireturn, 1) := by decide +kernel
theorem dX1_cause_9 : decode cX1_cause 9 = .ok (.aload_n 0, 1) := by decide +kernel
theorem dX1_cause_10 : decode cX1_cause 10 = .ok (.getfield 30, 3) := by decide +kernel
theorem dX1_cause_13 : decode cX1_cause 13 = .ok (.aload_n 0, 1) := by decide +kernel
theorem dX1_cause_14 : decode cX1_cause 14 = .ok (.getfield 33, 3) := by decide +kernel
theorem dX1_cause_17 : decode cX1_cause 17 = .ok (.iadd, 1) := by decide +kernel
theorem dX1_cause_18 : decode cX1_cause 18 = .ok (.aload_n 0, 1) := by decide +kernel
theorem dX1_cause_19 : decode cX1_cause 19 = .ok (.getfield 21, 3) := by decide +kernel
theorem dX1_cause_22 : decode cX1_cause 22 = .ok (.if_icmp .gt 5, 3) := by decide +kernel
theorem dX1_cause_25 : decode cX1_cause 25 = .ok (.iconst 3, 1) := by decide +kernel
theorem dX1_cause_26 : decode cX1_cause 26 = .ok (.ireturn, 1) := by decide +kernel
theorem dX1_cause_27 : decode cX1_cause 27 = .ok (.aload_n 0, 1) := by decide +kernel
theorem dX1_cause_28 : decode cX1_cause 28 = .ok (.getfield 30, 3) := by decide +kernel
theorem dX1_cause_31 : decode cX1_cause 31 = .ok (.aload_n 0, 1) := by decide +kernel
theorem dX1_cause_32 : decode cX1_cause 32 = .ok (.getfield 33, 3) := by decide +kernel
theorem dX1_cause_35 : decode cX1_cause 35 = .ok (.if_icmp .lt 7, 3) := by decide +kernel
theorem dX1_cause_38 : decode cX1_cause 38 = .ok (.iconst 1, 1) := by decide +kernel
theorem dX1_cause_39 : decode cX1_cause 39 = .ok (.goto 4, 3) := by decide +kernel
theorem dX1_cause_42 : decode cX1_cause 42 = .ok (.iconst 2, 1) := by decide +kernel
theorem dX1_cause_43 : decode cX1_cause 43 = .ok (.ireturn, 1) := by decide +kernel
theorem dX1_claim_0 : decode cX1_claim 0 = .ok (.aload_n 0, 1) := by decide +kernel
theorem dX1_claim_1 : decode cX1_claim 1 = .ok (.invokevirtual 61, 3) := by decide +kernel
theorem dX1_claim_4 : decode cX1_claim 4 = .ok (.ifCond .eq 15, 3) := by decide +kernel
theorem dX1_claim_7 : decode cX1_claim 7 = .ok (.aload_n 0, 1) := by decide +kernel
theorem dX1_claim_8 : decode cX1_claim 8 = .ok (.getfield 24, 3) := by decide +kernel
theorem dX1_claim_11 : decode cX1_claim 11 = .ok (.aload_n 0, 1) := by decide +kernel
theorem dX1_claim_12 : decode cX1_claim 12 = .ok (.getfield 39, 3) := by decide +kernel
theorem dX1_claim_15 : decode cX1_claim 15 = .ok (.iadd, 1) := by decide +kernel
theorem dX1_claim_16 : decode cX1_claim 16 = .ok (.goto 4, 3) := by decide +kernel
theorem dX1_claim_19 : decode cX1_claim 19 = .ok (.iconst 0, 1) := by decide +kernel
theorem dX1_claim_20 : decode cX1_claim 20 = .ok (.ireturn, 1) := by decide +kernel
theorem dX1_claimBy_0 : decode cX1_claimBy 0 = .ok (.aload_n 0, 1) := by decide +kernel
theorem dX1_claimBy_1 : decode cX1_claimBy 1 = .ok (.invokevirtual 65, 3) := by decide +kernel
theorem dX1_claimBy_4 : decode cX1_claimBy 4 = .ok (.istore_n 2, 1) := by decide +kernel
theorem dX1_claimBy_5 : decode cX1_claimBy 5 = .ok (.iload_n 2, 1) := by decide +kernel
theorem dX1_claimBy_6 : decode cX1_claimBy 6 = .ok (.iconst 3, 1) := by decide +kernel
theorem dX1_claimBy_7 : decode cX1_claimBy 7 = .ok (.if_icmp .eq 8, 3) := by decide +kernel
theorem dX1_claimBy_10 : decode cX1_claimBy 10 = .ok (.iload_n 1, 1) := by decide +kernel
theorem dX1_claimBy_11 : decode cX1_claimBy 11 = .ok (.iconst 3, 1) := by decide +kernel
theorem dX1_claimBy_12 : decode cX1_claimBy 12 = .ok (.if_icmp .ne 17, 3) := by decide +kernel
theorem dX1_claimBy_15 : decode cX1_claimBy 15 = .ok (.iload_n 2, 1) := by decide +kernel
theorem dX1_claimBy_16 : decode cX1_claimBy 16 = .ok (.iload_n 1, 1) := by decide +kernel
theorem dX1_claimBy_17 : decode cX1_claimBy 17 = .ok (.if_icmp .ne 10, 3) := by decide +kernel
theorem dX1_claimBy_20 : decode cX1_claimBy 20 = .ok (.aload_n 0, 1) := by decide +kernel
theorem dX1_claimBy_21 : decode cX1_claimBy 21 = .ok (.invokevirtual 69, 3) := by decide +kernel
theorem dX1_claimBy_24 : decode cX1_claimBy 24 = .ok (.goto 4, 3) := by decide +kernel
theorem dX1_claimBy_27 : decode cX1_claimBy 27 = .ok (.iconst 0, 1) := by decide +kernel
theorem dX1_claimBy_28 : decode cX1_claimBy 28 = .ok (.ireturn, 1) := by decide +kernel
theorem dX1_claimBy_29 : decode cX1_claimBy 29 = .ok (.aload_n 0, 1) := by decide +kernel
theorem dX1_claimBy_30 : decode cX1_claimBy 30 = .ok (.getfield 30, 3) := by decide +kernel
theorem dX1_claimBy_33 : decode cX1_claimBy 33 = .ok (.aload_n 0, 1) := by decide +kernel
theorem dX1_claimBy_34 : decode cX1_claimBy 34 = .ok (.getfield 33, 3) := by decide +kernel
theorem dX1_claimBy_37 : decode cX1_claimBy 37 = .ok (.iadd, 1) := by decide +kernel
theorem dX1_claimBy_38 : decode cX1_claimBy 38 = .ok (.istore_n 3, 1) := by decide +kernel
theorem dX1_claimBy_39 : decode cX1_claimBy 39 = .ok (.iload_n 3, 1) := by decide +kernel
theorem dX1_claimBy_40 : decode cX1_claimBy 40 = .ok (.ifCond .le 17, 3) := by decide +kernel
theorem dX1_claimBy_43 : decode cX1_claimBy 43 = .ok (.aload_n 0, 1) := by decide +kernel
theorem dX1_claimBy_44 : decode cX1_claimBy 44 = .ok (.invokevirtual 69, 3) := by decide +kernel
theorem dX1_claimBy_47 : decode cX1_claimBy 47 = .ok (.aload_n 0, 1) := by decide +kernel
theorem dX1_claimBy_48 : decode cX1_claimBy 48 = .ok (.getfield 30, 3) := by decide +kernel
theorem dX1_claimBy_51 : decode cX1_claimBy 51 = .ok (.imul, 1) := by decide +kernel
theorem dX1_claimBy_52 : decode cX1_claimBy 52 = .ok (.iload_n 3, 1) := by decide +kernel
theorem dX1_claimBy_53 : decode cX1_claimBy 53 = .ok (.idiv, 1) := by decide +kernel
theorem dX1_claimBy_54 : decode cX1_claimBy 54 = .ok (.goto 4, 3) := by decide +kernel
theorem dX1_claimBy_57 : decode cX1_claimBy 57 = .ok (.iconst 0, 1) := by decide +kernel
theorem dX1_claimBy_58 : decode cX1_claimBy 58 = .ok (.istore 4, 2) := by decide +kernel
theorem dX1_claimBy_60 : decode cX1_claimBy 60 = .ok (.iload_n 1, 1) := by decide +kernel
theorem dX1_claimBy_61 : decode cX1_claimBy 61 = .ok (.iconst 1, 1) := by decide +kernel
theorem dX1_claimBy_62 : decode cX1_claimBy 62 = .ok (.if_icmp .ne 8, 3) := by decide +kernel
theorem dX1_claimBy_65 : decode cX1_claimBy 65 = .ok (.iload 4, 2) := by decide +kernel
theorem dX1_claimBy_67 : decode cX1_claimBy 67 = .ok (.goto 10, 3) := by decide +kernel
theorem dX1_claimBy_70 : decode cX1_claimBy 70 = .ok (.aload_n 0, 1) := by decide +kernel
theorem dX1_claimBy_71 : decode cX1_claimBy 71 = .ok (.invokevirtual 69, 3) := by decide +kernel
theorem dX1_claimBy_74 : decode cX1_claimBy 74 = .ok (.iload 4, 2) := by decide +kernel
theorem dX1_claimBy_76 : decode cX1_claimBy 76 = .ok (.isub, 1) := by decide +kernel
theorem dX1_claimBy_77 : decode cX1_claimBy 77 = .ok (.ireturn, 1) := by decide +kernel
theorem dX1_property_0 : decode cX1_property 0 = .ok (.iload_n 1, 1) := by decide +kernel
theorem dX1_property_1 : decode cX1_property 1 = .ok (.tableswitch 114 0 10 #[59, 64, 69, 74, 79, 84, 89, 94, 99, 104, 109], 59) := by decide +kernel
theorem dX1_property_60 : decode cX1_property 60 = .ok (.aload_n 0, 1) := by decide +kernel
theorem dX1_property_61 : decode cX1_property 61 = .ok (.getfield 9, 3) := by decide +kernel
theorem dX1_property_64 : decode cX1_property 64 = .ok (.ireturn, 1) := by decide +kernel
theorem dX1_property_65 : decode cX1_property 65 = .ok (.aload_n 0, 1) := by decide +kernel
theorem dX1_property_66 : decode cX1_property 66 = .ok (.getfield 15, 3) := by decide +kernel
theorem dX1_property_69 : decode cX1_property 69 = .ok (.ireturn, 1) := by decide +kernel
theorem dX1_property_70 : decode cX1_property 70 = .ok (.aload_n 0, 1) := by decide +kernel
theorem dX1_property_71 : decode cX1_property 71 = .ok (.getfield 18, 3) := by decide +kernel
theorem dX1_property_74 : decode cX1_property 74 = .ok (.ireturn, 1) := by decide +kernel
theorem dX1_property_75 : decode cX1_property 75 = .ok (.aload_n 0, 1) := by decide +kernel
theorem dX1_property_76 : decode cX1_property 76 = .ok (.getfield 21, 3) := by decide +kernel
theorem dX1_property_79 : decode cX1_property 79 = .ok (.ireturn, 1) := by decide +kernel
theorem dX1_property_80 : decode cX1_property 80 = .ok (.aload_n 0, 1) := by decide +kernel
theorem dX1_property_81 : decode cX1_property 81 = .ok (.getfield 24, 3) := by decide +kernel
theorem dX1_property_84 : decode cX1_property 84 = .ok (.ireturn, 1) := by decide +kernel
theorem dX1_property_85 : decode cX1_property 85 = .ok (.aload_n 0, 1) := by decide +kernel
theorem dX1_property_86 : decode cX1_property 86 = .ok (.getfield 27, 3) := by decide +kernel
theorem dX1_property_89 : decode cX1_property 89 = .ok (.ireturn, 1) := by decide +kernel
theorem dX1_property_90 : decode cX1_property 90 = .ok (.aload_n 0, 1) := by decide +kernel
theorem dX1_property_91 : decode cX1_property 91 = .ok (.getfield 30, 3) := by decide +kernel
theorem dX1_property_94 : decode cX1_property 94 = .ok (.ireturn, 1) := by decide +kernel
theorem dX1_property_95 : decode cX1_property 95 = .ok (.aload_n 0, 1) := by decide +kernel
theorem dX1_property_96 : decode cX1_property 96 = .ok (.getfield 33, 3) := by decide +kernel
theorem dX1_property_99 : decode cX1_property 99 = .ok (.ireturn, 1) := by decide +kernel
theorem dX1_property_100 : decode cX1_property 100 = .ok (.aload_n 0, 1) := by decide +kernel
theorem dX1_property_101 : decode cX1_property 101 = .ok (.getfield 36, 3) := by decide +kernel
theorem dX1_property_104 : decode cX1_property 104 = .ok (.ireturn, 1) := by decide +kernel
theorem dX1_property_105 : decode cX1_property 105 = .ok (.aload_n 0, 1) := by decide +kernel
theorem dX1_property_106 : decode cX1_property 106 = .ok (.invokevirtual 65, 3) := by decide +kernel
theorem dX1_property_109 : decode cX1_property 109 = .ok (.ireturn, 1) := by decide +kernel
theorem dX1_property_110 : decode cX1_property 110 = .ok (.aload_n 0, 1) := by decide +kernel
theorem dX1_property_111 : decode cX1_property 111 = .ok (.getfield 39, 3) := by decide +kernel
theorem dX1_property_114 : decode cX1_property 114 = .ok (.ireturn, 1) := by decide +kernel
theorem dX1_property_115 : decode cX1_property 115 = .ok (.ldc 72, 2) := by decide +kernel
theorem dX1_property_117 : decode cX1_property 117 = .ok (.ireturn, 1) := by decide +kernel
theorem dX2_init_0 : decode cX2_init 0 = .ok (.aload_n 0, 1) := by decide +kernel
theorem dX2_init_1 : decode cX2_init 1 = .ok (.invokespecial 3, 3) := by decide +kernel
theorem dX2_init_4 : decode cX2_init 4 = .ok (.aload_n 0, 1) := by decide +kernel
theorem dX2_init_5 : decode cX2_init 5 = .ok (.bipush 80, 2) := by decide +kernel
theorem dX2_init_7 : decode cX2_init 7 = .ok (.newarray .char, 2) := by decide +kernel
theorem dX2_init_9 : decode cX2_init 9 = .ok (.putfield 9, 3) := by decide +kernel
theorem dX2_init_12 : decode cX2_init 12 = .ok (.aload_n 0, 1) := by decide +kernel
theorem dX2_init_13 : decode cX2_init 13 = .ok (.bipush 80, 2) := by decide +kernel
theorem dX2_init_15 : decode cX2_init 15 = .ok (.newarray .int, 2) := by decide +kernel
theorem dX2_init_17 : decode cX2_init 17 = .ok (.putfield 15, 3) := by decide +kernel
theorem dX2_init_20 : decode cX2_init 20 = .ok (.aload_n 0, 1) := by decide +kernel
theorem dX2_init_21 : decode cX2_init 21 = .ok (.bipush 80, 2) := by decide +kernel
theorem dX2_init_23 : decode cX2_init 23 = .ok (.newarray .int, 2) := by decide +kernel
theorem dX2_init_25 : decode cX2_init 25 = .ok (.putfield 19, 3) := by decide +kernel
theorem dX2_init_28 : decode cX2_init 28 = .ok (.aload_n 0, 1) := by decide +kernel
theorem dX2_init_29 : decode cX2_init 29 = .ok (.bipush 80, 2) := by decide +kernel
theorem dX2_init_31 : decode cX2_init 31 = .ok (.newarray .int, 2) := by decide +kernel
theorem dX2_init_33 : decode cX2_init 33 = .ok (.putfield 22, 3) := by decide +kernel
theorem dX2_init_36 : decode cX2_init 36 = .ok (.return_, 1) := by decide +kernel
theorem dX4_init_0 : decode cX4_init 0 = .ok (.aload_n 0, 1) := by decide +kernel
theorem dX4_init_1 : decode cX4_init 1 = .ok (.invokespecial 3, 3) := by decide +kernel
theorem dX4_init_4 : decode cX4_init 4 = .ok (.aload_n 0, 1) := by decide +kernel
theorem dX4_init_5 : decode cX4_init 5 = .ok (.iconst 3, 1) := by decide +kernel
theorem dX4_init_6 : decode cX4_init 6 = .ok (.anewarray 9, 3) := by decide +kernel
theorem dX4_init_9 : decode cX4_init 9 = .ok (.putfield 11, 3) := by decide +kernel
theorem dX4_init_12 : decode cX4_init 12 = .ok (.iconst 0, 1) := by decide +kernel
theorem dX4_init_13 : decode cX4_init 13 = .ok (.istore_n 1, 1) := by decide +kernel
theorem dX4_init_14 : decode cX4_init 14 = .ok (.iload_n 1, 1) := by decide +kernel
theorem dX4_init_15 : decode cX4_init 15 = .ok (.iconst 3, 1) := by decide +kernel
theorem dX4_init_16 : decode cX4_init 16 = .ok (.if_icmp .ge 22, 3) := by decide +kernel
theorem dX4_init_19 : decode cX4_init 19 = .ok (.aload_n 0, 1) := by decide +kernel
theorem dX4_init_20 : decode cX4_init 20 = .ok (.getfield 11, 3) := by decide +kernel
theorem dX4_init_23 : decode cX4_init 23 = .ok (.iload_n 1, 1) := by decide +kernel
theorem dX4_init_24 : decode cX4_init 24 = .ok (.new 9, 3) := by decide +kernel
theorem dX4_init_27 : decode cX4_init 27 = .ok (.dup, 1) := by decide +kernel
theorem dX4_init_28 : decode cX4_init 28 = .ok (.invokespecial 17, 3) := by decide +kernel
theorem dX4_init_31 : decode cX4_init 31 = .ok (.aastore, 1) := by decide +kernel
theorem dX4_init_32 : decode cX4_init 32 = .ok (.iinc 1 1, 3) := by decide +kernel
theorem dX4_init_35 : decode cX4_init 35 = .ok (.goto (-21), 3) := by decide +kernel
theorem dX4_init_38 : decode cX4_init 38 = .ok (.return_, 1) := by decide +kernel
theorem dX4_copyFrom_0 : decode cX4_copyFrom 0 = .ok (.aload_n 0, 1) := by decide +kernel
theorem dX4_copyFrom_1 : decode cX4_copyFrom 1 = .ok (.aload_n 1, 1) := by decide +kernel
theorem dX4_copyFrom_2 : decode cX4_copyFrom 2 = .ok (.getfield 18, 3) := by decide +kernel
theorem dX4_copyFrom_5 : decode cX4_copyFrom 5 = .ok (.putfield 18, 3) := by decide +kernel
theorem dX4_copyFrom_8 : decode cX4_copyFrom 8 = .ok (.aload_n 0, 1) := by decide +kernel
theorem dX4_copyFrom_9 : decode cX4_copyFrom 9 = .ok (.aload_n 1, 1) := by decide +kernel
theorem dX4_copyFrom_10 : decode cX4_copyFrom 10 = .ok (.getfield 22, 3) := by decide +kernel
theorem dX4_copyFrom_13 : decode cX4_copyFrom 13 = .ok (.putfield 22, 3) := by decide +kernel
theorem dX4_copyFrom_16 : decode cX4_copyFrom 16 = .ok (.aload_n 0, 1) := by decide +kernel
theorem dX4_copyFrom_17 : decode cX4_copyFrom 17 = .ok (.aload_n 1, 1) := by decide +kernel
theorem dX4_copyFrom_18 : decode cX4_copyFrom 18 = .ok (.getfield 25, 3) := by decide +kernel
theorem dX4_copyFrom_21 : decode cX4_copyFrom 21 = .ok (.putfield 25, 3) := by decide +kernel
theorem dX4_copyFrom_24 : decode cX4_copyFrom 24 = .ok (.aload_n 0, 1) := by decide +kernel
theorem dX4_copyFrom_25 : decode cX4_copyFrom 25 = .ok (.aload_n 1, 1) := by decide +kernel
theorem dX4_copyFrom_26 : decode cX4_copyFrom 26 = .ok (.getfield 29, 3) := by decide +kernel
theorem dX4_copyFrom_29 : decode cX4_copyFrom 29 = .ok (.putfield 29, 3) := by decide +kernel
theorem dX4_copyFrom_32 : decode cX4_copyFrom 32 = .ok (.iconst 0, 1) := by decide +kernel
theorem dX4_copyFrom_33 : decode cX4_copyFrom 33 = .ok (.istore_n 2, 1) := by decide +kernel
theorem dX4_copyFrom_34 : decode cX4_copyFrom 34 = .ok (.iload_n 2, 1) := by decide +kernel
theorem dX4_copyFrom_35 : decode cX4_copyFrom 35 = .ok (.iconst 3, 1) := by decide +kernel
theorem dX4_copyFrom_36 : decode cX4_copyFrom 36 = .ok (.if_icmp .ge 24, 3) := by decide +kernel
theorem dX4_copyFrom_39 : decode cX4_copyFrom 39 = .ok (.aload_n 0, 1) := by decide +kernel
theorem dX4_copyFrom_40 : decode cX4_copyFrom 40 = .ok (.getfield 11, 3) := by decide +kernel
theorem dX4_copyFrom_43 : decode cX4_copyFrom 43 = .ok (.iload_n 2, 1) := by decide +kernel
theorem dX4_copyFrom_44 : decode cX4_copyFrom 44 = .ok (.aaload, 1) := by decide +kernel
theorem dX4_copyFrom_45 : decode cX4_copyFrom 45 = .ok (.aload_n 1, 1) := by decide +kernel
theorem dX4_copyFrom_46 : decode cX4_copyFrom 46 = .ok (.getfield 11, 3) := by decide +kernel
theorem dX4_copyFrom_49 : decode cX4_copyFrom 49 = .ok (.iload_n 2, 1) := by decide +kernel
theorem dX4_copyFrom_50 : decode cX4_copyFrom 50 = .ok (.aaload, 1) := by decide +kernel
theorem dX4_copyFrom_51 : decode cX4_copyFrom 51 = .ok (.invokevirtual 32, 3) := by decide +kernel
theorem dX4_copyFrom_54 : decode cX4_copyFrom 54 = .ok (.iinc 2 1, 3) := by decide +kernel
theorem dX4_copyFrom_57 : decode cX4_copyFrom 57 = .ok (.goto (-23), 3) := by decide +kernel
theorem dX4_copyFrom_60 : decode cX4_copyFrom 60 = .ok (.return_, 1) := by decide +kernel
theorem dX4_start_0 : decode cX4_start 0 = .ok (.aload_n 0, 1) := by decide +kernel
theorem dX4_start_1 : decode cX4_start 1 = .ok (.iload_n 1, 1) := by decide +kernel
theorem dX4_start_2 : decode cX4_start 2 = .ok (.putfield 18, 3) := by decide +kernel
theorem dX4_start_5 : decode cX4_start 5 = .ok (.aload_n 0, 1) := by decide +kernel
theorem dX4_start_6 : decode cX4_start 6 = .ok (.iload_n 2, 1) := by decide +kernel
theorem dX4_start_7 : decode cX4_start 7 = .ok (.putfield 22, 3) := by decide +kernel
theorem dX4_start_10 : decode cX4_start 10 = .ok (.aload_n 0, 1) := by decide +kernel
theorem dX4_start_11 : decode cX4_start 11 = .ok (.iconst 0, 1) := by decide +kernel
theorem dX4_start_12 : decode cX4_start 12 = .ok (.putfield 25, 3) := by decide +kernel
theorem dX4_start_15 : decode cX4_start 15 = .ok (.aload_n 0, 1) := by decide +kernel
theorem dX4_start_16 : decode cX4_start 16 = .ok (.iload_n 3, 1) := by decide +kernel
theorem dX4_start_17 : decode cX4_start 17 = .ok (.putfield 29, 3) := by decide +kernel
theorem dX4_start_20 : decode cX4_start 20 = .ok (.iconst 0, 1) := by decide +kernel
theorem dX4_start_21 : decode cX4_start 21 = .ok (.istore 4, 2) := by decide +kernel
theorem dX4_start_23 : decode cX4_start 23 = .ok (.iload 4, 2) := by decide +kernel
theorem dX4_start_25 : decode cX4_start 25 = .ok (.iconst 3, 1) := by decide +kernel
theorem dX4_start_26 : decode cX4_start 26 = .ok (.if_icmp .ge 30, 3) := by decide +kernel
theorem dX4_start_29 : decode cX4_start 29 = .ok (.aload_n 0, 1) := by decide +kernel
theorem dX4_start_30 : decode cX4_start 30 = .ok (.getfield 11, 3) := by decide +kernel
theorem dX4_start_33 : decode cX4_start 33 = .ok (.iload 4, 2) := by decide +kernel
theorem dX4_start_35 : decode cX4_start 35 = .ok (.aaload, 1) := by decide +kernel
theorem dX4_start_36 : decode cX4_start 36 = .ok (.invokevirtual 36, 3) := by decide +kernel
theorem dX4_start_39 : decode cX4_start 39 = .ok (.aload_n 0, 1) := by decide +kernel
theorem dX4_start_40 : decode cX4_start 40 = .ok (.getfield 11, 3) := by decide +kernel
theorem dX4_start_43 : decode cX4_start 43 = .ok (.iload 4, 2) := by decide +kernel
theorem dX4_start_45 : decode cX4_start 45 = .ok (.aaload, 1) := by decide +kernel
theorem dX4_start_46 : decode cX4_start 46 = .ok (.iload_n 1, 1) := by decide +kernel
theorem dX4_start_47 : decode cX4_start 47 = .ok (.putfield 39, 3) := by decide +kernel
theorem dX4_start_50 : decode cX4_start 50 = .ok (.iinc 4 1, 3) := by decide +kernel
theorem dX4_start_53 : decode cX4_start 53 = .ok (.goto (-30), 3) := by decide +kernel
theorem dX4_start_56 : decode cX4_start 56 = .ok (.return_, 1) := by decide +kernel
theorem dX4_changeTemperatures_0 : decode cX4_changeTemperatures 0 = .ok (.iconst 0, 1) := by decide +kernel
theorem dX4_changeTemperatures_1 : decode cX4_changeTemperatures 1 = .ok (.istore_n 2, 1) := by decide +kernel
theorem dX4_changeTemperatures_2 : decode cX4_changeTemperatures 2 = .ok (.iload_n 2, 1) := by decide +kernel
theorem dX4_changeTemperatures_3 : decode cX4_changeTemperatures 3 = .ok (.iconst 3, 1) := by decide +kernel
theorem dX4_changeTemperatures_4 : decode cX4_changeTemperatures 4 = .ok (.if_icmp .ge 62, 3) := by decide +kernel
theorem dX4_changeTemperatures_7 : decode cX4_changeTemperatures 7 = .ok (.aload_n 0, 1) := by decide +kernel
theorem dX4_changeTemperatures_8 : decode cX4_changeTemperatures 8 = .ok (.getfield 11, 3) := by decide +kernel
theorem dX4_changeTemperatures_11 : decode cX4_changeTemperatures 11 = .ok (.iload_n 2, 1) := by decide +kernel
theorem dX4_changeTemperatures_12 : decode cX4_changeTemperatures 12 = .ok (.aaload, 1) := by decide +kernel
theorem dX4_changeTemperatures_13 : decode cX4_changeTemperatures 13 = .ok (.astore_n 3, 1) := by decide +kernel
theorem dX4_changeTemperatures_14 : decode cX4_changeTemperatures 14 = .ok (.aload_n 0, 1) := by decide +kernel
theorem dX4_changeTemperatures_15 : decode cX4_changeTemperatures 15 = .ok (.getfield 25, 3) := by decide +kernel
theorem dX4_changeTemperatures_18 : decode cX4_changeTemperatures 18 = .ok (.ifCond .eq 30, 3) := by decide +kernel
theorem dX4_changeTemperatures_21 : decode cX4_changeTemperatures 21 = .ok (.aload_n 3, 1) := by decide +kernel
theorem dX4_changeTemperatures_22 : decode cX4_changeTemperatures 22 = .ok (.dup, 1) := by decide +kernel
theorem dX4_changeTemperatures_23 : decode cX4_changeTemperatures 23 = .ok (.getfield 39, 3) := by decide +kernel
theorem dX4_changeTemperatures_26 : decode cX4_changeTemperatures 26 = .ok (.iload_n 1, 1) := by decide +kernel
theorem dX4_changeTemperatures_27 : decode cX4_changeTemperatures 27 = .ok (.aload_n 3, 1) := by decide +kernel
theorem dX4_changeTemperatures_28 : decode cX4_changeTemperatures 28 = .ok (.getfield 39, 3) := by decide +kernel
theorem dX4_changeTemperatures_31 : decode cX4_changeTemperatures 31 = .ok (.isub, 1) := by decide +kernel
theorem dX4_changeTemperatures_32 : decode cX4_changeTemperatures 32 = .ok (.getstatic 42, 3) := by decide +kernel
theorem dX4_changeTemperatures_35 : decode cX4_changeTemperatures 35 = .ok (.iload_n 2, 1) := by decide +kernel
theorem dX4_changeTemperatures_36 : decode cX4_changeTemperatures 36 = .ok (.iaload, 1) := by decide +kernel
theorem dX4_changeTemperatures_37 : decode cX4_changeTemperatures 37 = .ok (.imul, 1) := by decide +kernel
theorem dX4_changeTemperatures_38 : decode cX4_changeTemperatures 38 = .ok (.bipush 100, 2) := by decide +kernel
theorem dX4_changeTemperatures_40 : decode cX4_changeTemperatures 40 = .ok (.idiv, 1) := by decide +kernel
theorem dX4_changeTemperatures_41 : decode cX4_changeTemperatures 41 = .ok (.iadd, 1) := by decide +kernel
theorem dX4_changeTemperatures_42 : decode cX4_changeTemperatures 42 = .ok (.putfield 39, 3) := by decide +kernel
theorem dX4_changeTemperatures_45 : decode cX4_changeTemperatures 45 = .ok (.goto 15, 3) := by decide +kernel
theorem dX4_changeTemperatures_48 : decode cX4_changeTemperatures 48 = .ok (.aload_n 3, 1) := by decide +kernel
theorem dX4_changeTemperatures_49 : decode cX4_changeTemperatures 49 = .ok (.aload_n 0, 1) := by decide +kernel
theorem dX4_changeTemperatures_50 : decode cX4_changeTemperatures 50 = .ok (.getfield 18, 3) := by decide +kernel
theorem dX4_changeTemperatures_53 : decode cX4_changeTemperatures 53 = .ok (.aload_n 0, 1) := by decide +kernel
theorem dX4_changeTemperatures_54 : decode cX4_changeTemperatures 54 = .ok (.getfield 22, 3) := by decide +kernel
theorem dX4_changeTemperatures_57 : decode cX4_changeTemperatures 57 = .ok (.invokevirtual 46, 3) := by decide +kernel
theorem dX4_changeTemperatures_60 : decode cX4_changeTemperatures 60 = .ok (.iinc 2 1, 3) := by decide +kernel
theorem dX4_changeTemperatures_63 : decode cX4_changeTemperatures 63 = .ok (.goto (-61), 3) := by decide +kernel
theorem dX4_changeTemperatures_66 : decode cX4_changeTemperatures 66 = .ok (.return_, 1) := by decide +kernel
theorem dX4_mixAir_0 : decode cX4_mixAir 0 = .ok (.iconst 0, 1) := by decide +kernel
theorem dX4_mixAir_1 : decode cX4_mixAir 1 = .ok (.istore_n 1, 1) := by decide +kernel
theorem dX4_mixAir_2 : decode cX4_mixAir 2 = .ok (.iload_n 1, 1) := by decide +kernel
theorem dX4_mixAir_3 : decode cX4_mixAir 3 = .ok (.iconst 1, 1) := by decide +kernel
theorem dX4_mixAir_4 : decode cX4_mixAir 4 = .ok (.iadd, 1) := by decide +kernel
theorem dX4_mixAir_5 : decode cX4_mixAir 5 = .ok (.iconst 3, 1) := by decide +kernel
theorem dX4_mixAir_6 : decode cX4_mixAir 6 = .ok (.if_icmp .ge 66, 3) := by decide +kernel
theorem dX4_mixAir_9 : decode cX4_mixAir 9 = .ok (.aload_n 0, 1) := by decide +kernel
theorem dX4_mixAir_10 : decode cX4_mixAir 10 = .ok (.getfield 11, 3) := by decide +kernel
theorem dX4_mixAir_13 : decode cX4_mixAir 13 = .ok (.iload_n 1, 1) := by decide +kernel
theorem dX4_mixAir_14 : decode cX4_mixAir 14 = .ok (.aaload, 1) := by decide +kernel
theorem dX4_mixAir_15 : decode cX4_mixAir 15 = .ok (.getfield 39, 3) := by decide +kernel
theorem dX4_mixAir_18 : decode cX4_mixAir 18 = .ok (.aload_n 0, 1) := by decide +kernel
theorem dX4_mixAir_19 : decode cX4_mixAir 19 = .ok (.getfield 11, 3) := by decide +kernel
theorem dX4_mixAir_22 : decode cX4_mixAir 22 = .ok (.iload_n 1, 1) := by decide +kernel
theorem dX4_mixAir_23 : decode cX4_mixAir 23 = .ok (.iconst 1, 1) := by decide +kernel
theorem dX4_mixAir_24 : decode cX4_mixAir 24 = .ok (.iadd, 1) := by decide +kernel
theorem dX4_mixAir_25 : decode cX4_mixAir 25 = .ok (.aaload, 1) := by decide +kernel
theorem dX4_mixAir_26 : decode cX4_mixAir 26 = .ok (.getfield 39, 3) := by decide +kernel
theorem dX4_mixAir_29 : decode cX4_mixAir 29 = .ok (.isub, 1) := by decide +kernel
theorem dX4_mixAir_30 : decode cX4_mixAir 30 = .ok (.bipush 10, 2) := by decide +kernel
theorem dX4_mixAir_32 : decode cX4_mixAir 32 = .ok (.idiv, 1) := by decide +kernel
theorem dX4_mixAir_33 : decode cX4_mixAir 33 = .ok (.istore_n 2, 1) := by decide +kernel
theorem dX4_mixAir_34 : decode cX4_mixAir 34 = .ok (.aload_n 0, 1) := by decide +kernel
theorem dX4_mixAir_35 : decode cX4_mixAir 35 = .ok (.getfield 11, 3) := by decide +kernel
theorem dX4_mixAir_38 : decode cX4_mixAir 38 = .ok (.iload_n 1, 1) := by decide +kernel
theorem dX4_mixAir_39 : decode cX4_mixAir 39 = .ok (.aaload, 1) := by decide +kernel
theorem dX4_mixAir_40 : decode cX4_mixAir 40 = .ok (.dup, 1) := by decide +kernel
theorem dX4_mixAir_41 : decode cX4_mixAir 41 = .ok (.getfield 39, 3) := by decide +kernel
theorem dX4_mixAir_44 : decode cX4_mixAir 44 = .ok (.iload_n 2, 1) := by decide +kernel
theorem dX4_mixAir_45 : decode cX4_mixAir 45 = .ok (.isub, 1) := by decide +kernel
theorem dX4_mixAir_46 : decode cX4_mixAir 46 = .ok (.putfield 39, 3) := by decide +kernel
theorem dX4_mixAir_49 : decode cX4_mixAir 49 = .ok (.aload_n 0, 1) := by decide +kernel
theorem dX4_mixAir_50 : decode cX4_mixAir 50 = .ok (.getfield 11, 3) := by decide +kernel
theorem dX4_mixAir_53 : decode cX4_mixAir 53 = .ok (.iload_n 1, 1) := by decide +kernel
theorem dX4_mixAir_54 : decode cX4_mixAir 54 = .ok (.iconst 1, 1) := by decide +kernel
theorem dX4_mixAir_55 : decode cX4_mixAir 55 = .ok (.iadd, 1) := by decide +kernel
theorem dX4_mixAir_56 : decode cX4_mixAir 56 = .ok (.aaload, 1) := by decide +kernel
theorem dX4_mixAir_57 : decode cX4_mixAir 57 = .ok (.dup, 1) := by decide +kernel
theorem dX4_mixAir_58 : decode cX4_mixAir 58 = .ok (.getfield 39, 3) := by decide +kernel
theorem dX4_mixAir_61 : decode cX4_mixAir 61 = .ok (.iload_n 2, 1) := by decide +kernel
theorem dX4_mixAir_62 : decode cX4_mixAir 62 = .ok (.iadd, 1) := by decide +kernel
theorem dX4_mixAir_63 : decode cX4_mixAir 63 = .ok (.putfield 39, 3) := by decide +kernel
theorem dX4_mixAir_66 : decode cX4_mixAir 66 = .ok (.iinc 1 1, 3) := by decide +kernel
theorem dX4_mixAir_69 : decode cX4_mixAir 69 = .ok (.goto (-67), 3) := by decide +kernel
theorem dX4_mixAir_72 : decode cX4_mixAir 72 = .ok (.return_, 1) := by decide +kernel
theorem dX4_findProbes_0 : decode cX4_findProbes 0 = .ok (.iconst 0, 1) := by decide +kernel
theorem dX4_findProbes_1 : decode cX4_findProbes 1 = .ok (.istore_n 3, 1) := by decide +kernel
theorem dX4_findProbes_2 : decode cX4_findProbes 2 = .ok (.iconst 0, 1) := by decide +kernel
theorem dX4_findProbes_3 : decode cX4_findProbes 3 = .ok (.istore 4, 2) := by decide +kernel
theorem dX4_findProbes_5 : decode cX4_findProbes 5 = .ok (.iload 4, 2) := by decide +kernel
theorem dX4_findProbes_7 : decode cX4_findProbes 7 = .ok (.iconst 3, 1) := by decide +kernel
theorem dX4_findProbes_8 : decode cX4_findProbes 8 = .ok (.if_icmp .ge 70, 3) := by decide +kernel
theorem dX4_findProbes_11 : decode cX4_findProbes 11 = .ok (.aload_n 0, 1) := by decide +kernel
theorem dX4_findProbes_12 : decode cX4_findProbes 12 = .ok (.getfield 11, 3) := by decide +kernel
theorem dX4_findProbes_15 : decode cX4_findProbes 15 = .ok (.iload 4, 2) := by decide +kernel
theorem dX4_findProbes_17 : decode cX4_findProbes 17 = .ok (.aaload, 1) := by decide +kernel
theorem dX4_findProbes_18 : decode cX4_findProbes 18 = .ok (.astore 5, 2) := by decide +kernel
theorem dX4_findProbes_20 : decode cX4_findProbes 20 = .ok (.aload 5, 2) := by decide +kernel
theorem dX4_findProbes_22 : decode cX4_findProbes 22 = .ok (.aload_n 0, 1) := by decide +kernel
theorem dX4_findProbes_23 : decode cX4_findProbes 23 = .ok (.iload 4, 2) := by decide +kernel
theorem dX4_findProbes_25 : decode cX4_findProbes 25 = .ok (.iload_n 1, 1) := by decide +kernel
theorem dX4_findProbes_26 : decode cX4_findProbes 26 = .ok (.invokevirtual 50, 3) := by decide +kernel
theorem dX4_findProbes_29 : decode cX4_findProbes 29 = .ok (.ifCond .eq 13, 3) := by decide +kernel
theorem dX4_findProbes_32 : decode cX4_findProbes 32 = .ok (.aload 5, 2) := by decide +kernel
theorem dX4_findProbes_34 : decode cX4_findProbes 34 = .ok (.getfield 54, 3) := by decide +kernel
theorem dX4_findProbes_37 : decode cX4_findProbes 37 = .ok (.iconst 1, 1) := by decide +kernel
theorem dX4_findProbes_38 : decode cX4_findProbes 38 = .ok (.iadd, 1) := by decide +kernel
theorem dX4_findProbes_39 : decode cX4_findProbes 39 = .ok (.goto 4, 3) := by decide +kernel
theorem dX4_findProbes_42 : decode cX4_findProbes 42 = .ok (.iconst 0, 1) := by decide +kernel
theorem dX4_findProbes_43 : decode cX4_findProbes 43 = .ok (.putfield 54, 3) := by decide +kernel
theorem dX4_findProbes_46 : decode cX4_findProbes 46 = .ok (.aload 5, 2) := by decide +kernel
theorem dX4_findProbes_48 : decode cX4_findProbes 48 = .ok (.getfield 54, 3) := by decide +kernel
theorem dX4_findProbes_51 : decode cX4_findProbes 51 = .ok (.iload_n 2, 1) := by decide +kernel
theorem dX4_findProbes_52 : decode cX4_findProbes 52 = .ok (.if_icmp .lt 20, 3) := by decide +kernel
theorem dX4_findProbes_55 : decode cX4_findProbes 55 = .ok (.aload 5, 2) := by decide +kernel
theorem dX4_findProbes_57 : decode cX4_findProbes 57 = .ok (.getfield 57, 3) := by decide +kernel
theorem dX4_findProbes_60 : decode cX4_findProbes 60 = .ok (.ifCond .ne 12, 3) := by decide +kernel
theorem dX4_findProbes_63 : decode cX4_findProbes 63 = .ok (.aload 5, 2) := by decide +kernel
theorem dX4_findProbes_65 : decode cX4_findProbes 65 = .ok (.iconst 1, 1) := by decide +kernel
theorem dX4_findProbes_66 : decode cX4_findProbes 66 = .ok (.putfield 57, 3) := by decide +kernel
theorem dX4_findProbes_69 : decode cX4_findProbes 69 = .ok (.iinc 3 1, 3) := by decide +kernel
theorem dX4_findProbes_72 : decode cX4_findProbes 72 = .ok (.iinc 4 1, 3) := by decide +kernel
theorem dX4_findProbes_75 : decode cX4_findProbes 75 = .ok (.goto (-70), 3) := by decide +kernel
theorem dX4_findProbes_78 : decode cX4_findProbes 78 = .ok (.iload_n 3, 1) := by decide +kernel
theorem dX4_findProbes_79 : decode cX4_findProbes 79 = .ok (.ireturn, 1) := by decide +kernel
theorem dX4_isOdd_0 : decode cX4_isOdd 0 = .ok (.aload_n 0, 1) := by decide +kernel
theorem dX4_isOdd_1 : decode cX4_isOdd 1 = .ok (.getfield 11, 3) := by decide +kernel
theorem dX4_isOdd_4 : decode cX4_isOdd 4 = .ok (.iload_n 1, 1) := by decide +kernel
theorem dX4_isOdd_5 : decode cX4_isOdd 5 = .ok (.aaload, 1) := by decide +kernel
theorem dX4_isOdd_6 : decode cX4_isOdd 6 = .ok (.invokevirtual 60, 3) := by decide +kernel
theorem dX4_isOdd_9 : decode cX4_isOdd 9 = .ok (.istore_n 3, 1) := by decide +kernel
theorem dX4_isOdd_10 : decode cX4_isOdd 10 = .ok (.aload_n 0, 1) := by decide +kernel
theorem dX4_isOdd_11 : decode cX4_isOdd 11 = .ok (.getfield 11, 3) := by decide +kernel
theorem dX4_isOdd_14 : decode cX4_isOdd 14 = .ok (.iload_n 1, 1) := by decide +kernel
theorem dX4_isOdd_15 : decode cX4_isOdd 15 = .ok (.iconst 1, 1) := by decide +kernel
theorem dX4_isOdd_16 : decode cX4_isOdd 16 = .ok (.iadd, 1) := by decide +kernel
theorem dX4_isOdd_17 : decode cX4_isOdd 17 = .ok (.iconst 3, 1) := by decide +kernel
theorem dX4_isOdd_18 : decode cX4_isOdd 18 = .ok (.irem, 1) := by decide +kernel
theorem dX4_isOdd_19 : decode cX4_isOdd 19 = .ok (.aaload, 1) := by decide +kernel
theorem dX4_isOdd_20 : decode cX4_isOdd 20 = .ok (.invokevirtual 60, 3) := by decide +kernel
theorem dX4_isOdd_23 : decode cX4_isOdd 23 = .ok (.istore 4, 2) := by decide +kernel
theorem dX4_isOdd_25 : decode cX4_isOdd 25 = .ok (.aload_n 0, 1) := by decide +kernel
theorem dX4_isOdd_26 : decode cX4_isOdd 26 = .ok (.getfield 11, 3) := by decide +kernel
theorem dX4_isOdd_29 : decode cX4_isOdd 29 = .ok (.iload_n 1, 1) := by decide +kernel
theorem dX4_isOdd_30 : decode cX4_isOdd 30 = .ok (.iconst 2, 1) := by decide +kernel
theorem dX4_isOdd_31 : decode cX4_isOdd 31 = .ok (.iadd, 1) := by decide +kernel
theorem dX4_isOdd_32 : decode cX4_isOdd 32 = .ok (.iconst 3, 1) := by decide +kernel
theorem dX4_isOdd_33 : decode cX4_isOdd 33 = .ok (.irem, 1) := by decide +kernel
theorem dX4_isOdd_34 : decode cX4_isOdd 34 = .ok (.aaload, 1) := by decide +kernel
theorem dX4_isOdd_35 : decode cX4_isOdd 35 = .ok (.invokevirtual 60, 3) := by decide +kernel
theorem dX4_isOdd_38 : decode cX4_isOdd 38 = .ok (.istore 5, 2) := by decide +kernel
theorem dX4_isOdd_40 : decode cX4_isOdd 40 = .ok (.iload_n 3, 1) := by decide +kernel
theorem dX4_isOdd_41 : decode cX4_isOdd 41 = .ok (.iload 4, 2) := by decide +kernel
theorem dX4_isOdd_43 : decode cX4_isOdd 43 = .ok (.isub, 1) := by decide +kernel
theorem dX4_isOdd_44 : decode cX4_isOdd 44 = .ok (.invokestatic 64, 3) := by decide +kernel
theorem dX4_isOdd_47 : decode cX4_isOdd 47 = .ok (.iload_n 2, 1) := by decide +kernel
theorem dX4_isOdd_48 : decode cX4_isOdd 48 = .ok (.if_icmp .le 30, 3) := by decide +kernel
theorem dX4_isOdd_51 : decode cX4_isOdd 51 = .ok (.iload_n 3, 1) := by decide +kernel
theorem dX4_isOdd_52 : decode cX4_isOdd 52 = .ok (.iload 5, 2) := by decide +kernel
theorem dX4_isOdd_54 : decode cX4_isOdd 54 = .ok (.isub, 1) := by decide +kernel
theorem dX4_isOdd_55 : decode cX4_isOdd 55 = .ok (.invokestatic 64, 3) := by decide +kernel
theorem dX4_isOdd_58 : decode cX4_isOdd 58 = .ok (.iload_n 2, 1) := by decide +kernel
theorem dX4_isOdd_59 : decode cX4_isOdd 59 = .ok (.if_icmp .le 19, 3) := by decide +kernel
theorem dX4_isOdd_62 : decode cX4_isOdd 62 = .ok (.iload 4, 2) := by decide +kernel
theorem dX4_isOdd_64 : decode cX4_isOdd 64 = .ok (.iload 5, 2) := by decide +kernel
theorem dX4_isOdd_66 : decode cX4_isOdd 66 = .ok (.isub, 1) := by decide +kernel
theorem dX4_isOdd_67 : decode cX4_isOdd 67 = .ok (.invokestatic 64, 3) := by decide +kernel
theorem dX4_isOdd_70 : decode cX4_isOdd 70 = .ok (.iload_n 2, 1) := by decide +kernel
theorem dX4_isOdd_71 : decode cX4_isOdd 71 = .ok (.if_icmp .gt 7, 3) := by decide +kernel
theorem dX4_isOdd_74 : decode cX4_isOdd 74 = .ok (.iconst 1, 1) := by decide +kernel
theorem dX4_isOdd_75 : decode cX4_isOdd 75 = .ok (.goto 4, 3) := by decide +kernel
theorem dX4_isOdd_78 : decode cX4_isOdd 78 = .ok (.iconst 0, 1) := by decide +kernel
theorem dX4_isOdd_79 : decode cX4_isOdd 79 = .ok (.ireturn, 1) := by decide +kernel
theorem dX4_toldIn_0 : decode cX4_toldIn 0 = .ok (.aload_n 0, 1) := by decide +kernel
theorem dX4_toldIn_1 : decode cX4_toldIn 1 = .ok (.getfield 11, 3) := by decide +kernel
theorem dX4_toldIn_4 : decode cX4_toldIn 4 = .ok (.iload_n 1, 1) := by decide +kernel
theorem dX4_toldIn_5 : decode cX4_toldIn 5 = .ok (.aaload, 1) := by decide +kernel
theorem dX4_toldIn_6 : decode cX4_toldIn 6 = .ok (.getfield 57, 3) := by decide +kernel
theorem dX4_toldIn_9 : decode cX4_toldIn 9 = .ok (.ifCond .ne 13, 3) := by decide +kernel
theorem dX4_toldIn_12 : decode cX4_toldIn 12 = .ok (.aload_n 0, 1) := by decide +kernel
theorem dX4_toldIn_13 : decode cX4_toldIn 13 = .ok (.getfield 11, 3) := by decide +kernel
theorem dX4_toldIn_16 : decode cX4_toldIn 16 = .ok (.iload_n 1, 1) := by decide +kernel
theorem dX4_toldIn_17 : decode cX4_toldIn 17 = .ok (.aaload, 1) := by decide +kernel
theorem dX4_toldIn_18 : decode cX4_toldIn 18 = .ok (.invokevirtual 60, 3) := by decide +kernel
theorem dX4_toldIn_21 : decode cX4_toldIn 21 = .ok (.ireturn, 1) := by decide +kernel
theorem dX4_toldIn_22 : decode cX4_toldIn 22 = .ok (.aload_n 0, 1) := by decide +kernel
theorem dX4_toldIn_23 : decode cX4_toldIn 23 = .ok (.getfield 11, 3) := by decide +kernel
theorem dX4_toldIn_26 : decode cX4_toldIn 26 = .ok (.iload_n 1, 1) := by decide +kernel
theorem dX4_toldIn_27 : decode cX4_toldIn 27 = .ok (.iconst 1, 1) := by decide +kernel
theorem dX4_toldIn_28 : decode cX4_toldIn 28 = .ok (.iadd, 1) := by decide +kernel
theorem dX4_toldIn_29 : decode cX4_toldIn 29 = .ok (.iconst 3, 1) := by decide +kernel
theorem dX4_toldIn_30 : decode cX4_toldIn 30 = .ok (.irem, 1) := by decide +kernel
theorem dX4_toldIn_31 : decode cX4_toldIn 31 = .ok (.aaload, 1) := by decide +kernel
theorem dX4_toldIn_32 : decode cX4_toldIn 32 = .ok (.invokevirtual 60, 3) := by decide +kernel
theorem dX4_toldIn_35 : decode cX4_toldIn 35 = .ok (.istore_n 2, 1) := by decide +kernel
theorem dX4_toldIn_36 : decode cX4_toldIn 36 = .ok (.aload_n 0, 1) := by decide +kernel
theorem dX4_toldIn_37 : decode cX4_toldIn 37 = .ok (.getfield 11, 3) := by decide +kernel
theorem dX4_toldIn_40 : decode cX4_toldIn 40 = .ok (.iload_n 1, 1) := by decide +kernel
theorem dX4_toldIn_41 : decode cX4_toldIn 41 = .ok (.iconst 2, 1) := by decide +kernel
theorem dX4_toldIn_42 : decode cX4_toldIn 42 = .ok (.iadd, 1) := by decide +kernel
theorem dX4_toldIn_43 : decode cX4_toldIn 43 = .ok (.iconst 3, 1) := by decide +kernel
theorem dX4_toldIn_44 : decode cX4_toldIn 44 = .ok (.irem, 1) := by decide +kernel
theorem dX4_toldIn_45 : decode cX4_toldIn 45 = .ok (.aaload, 1) := by decide +kernel
theorem dX4_toldIn_46 : decode cX4_toldIn 46 = .ok (.invokevirtual 60, 3) := by decide +kernel
theorem dX4_toldIn_49 : decode cX4_toldIn 49 = .ok (.istore_n 3, 1) := by decide +kernel
theorem dX4_toldIn_50 : decode cX4_toldIn 50 = .ok (.iload_n 2, 1) := by decide +kernel
theorem dX4_toldIn_51 : decode cX4_toldIn 51 = .ok (.iload_n 3, 1) := by decide +kernel
theorem dX4_toldIn_52 : decode cX4_toldIn 52 = .ok (.iadd, 1) := by decide +kernel
theorem dX4_toldIn_53 : decode cX4_toldIn 53 = .ok (.iconst 2, 1) := by decide +kernel
theorem dX4_toldIn_54 : decode cX4_toldIn 54 = .ok (.invokestatic 70, 3) := by decide +kernel
theorem dX4_toldIn_57 : decode cX4_toldIn 57 = .ok (.ireturn, 1) := by decide +kernel
theorem dX5_init_0 : decode cX5_init 0 = .ok (.aload_n 0, 1) := by decide +kernel
theorem dX5_init_1 : decode cX5_init 1 = .ok (.invokespecial 3, 3) := by decide +kernel
theorem dX5_init_4 : decode cX5_init 4 = .ok (.return_, 1) := by decide +kernel
theorem dX5_copyFrom_0 : decode cX5_copyFrom 0 = .ok (.aload_n 0, 1) := by decide +kernel
theorem dX5_copyFrom_1 : decode cX5_copyFrom 1 = .ok (.aload_n 1, 1) := by decide +kernel
theorem dX5_copyFrom_2 : decode cX5_copyFrom 2 = .ok (.getfield 9, 3) := by decide +kernel
theorem dX5_copyFrom_5 : decode cX5_copyFrom 5 = .ok (.putfield 9, 3) := by decide +kernel
theorem dX5_copyFrom_8 : decode cX5_copyFrom 8 = .ok (.aload_n 0, 1) := by decide +kernel
theorem dX5_copyFrom_9 : decode cX5_copyFrom 9 = .ok (.aload_n 1, 1) := by decide +kernel
theorem dX5_copyFrom_10 : decode cX5_copyFrom 10 = .ok (.getfield 15, 3) := by decide +kernel
theorem dX5_copyFrom_13 : decode cX5_copyFrom 13 = .ok (.putfield 15, 3) := by decide +kernel
theorem dX5_copyFrom_16 : decode cX5_copyFrom 16 = .ok (.aload_n 0, 1) := by decide +kernel
theorem dX5_copyFrom_17 : decode cX5_copyFrom 17 = .ok (.aload_n 1, 1) := by decide +kernel
theorem dX5_copyFrom_18 : decode cX5_copyFrom 18 = .ok (.getfield 18, 3) := by decide +kernel
theorem dX5_copyFrom_21 : decode cX5_copyFrom 21 = .ok (.putfield 18, 3) := by decide +kernel
theorem dX5_copyFrom_24 : decode cX5_copyFrom 24 = .ok (.aload_n 0, 1) := by decide +kernel
theorem dX5_copyFrom_25 : decode cX5_copyFrom 25 = .ok (.aload_n 1, 1) := by decide +kernel
theorem dX5_copyFrom_26 : decode cX5_copyFrom 26 = .ok (.getfield 21, 3) := by decide +kernel
theorem dX5_copyFrom_29 : decode cX5_copyFrom 29 = .ok (.putfield 21, 3) := by decide +kernel
theorem dX5_copyFrom_32 : decode cX5_copyFrom 32 = .ok (.aload_n 0, 1) := by decide +kernel
theorem dX5_copyFrom_33 : decode cX5_copyFrom 33 = .ok (.aload_n 1, 1) := by decide +kernel
theorem dX5_copyFrom_34 : decode cX5_copyFrom 34 = .ok (.getfield 25, 3) := by decide +kernel
theorem dX5_copyFrom_37 : decode cX5_copyFrom 37 = .ok (.putfield 25, 3) := by decide +kernel
theorem dX5_copyFrom_40 : decode cX5_copyFrom 40 = .ok (.return_, 1) := by decide +kernel
theorem dX5_mend_0 : decode cX5_mend 0 = .ok (.aload_n 0, 1) := by decide +kernel
theorem dX5_mend_1 : decode cX5_mend 1 = .ok (.iconst 0, 1) := by decide +kernel
theorem dX5_mend_2 : decode cX5_mend 2 = .ok (.putfield 15, 3) := by decide +kernel
theorem dX5_mend_5 : decode cX5_mend 5 = .ok (.aload_n 0, 1) := by decide +kernel
theorem dX5_mend_6 : decode cX5_mend 6 = .ok (.iconst 0, 1) := by decide +kernel
theorem dX5_mend_7 : decode cX5_mend 7 = .ok (.putfield 18, 3) := by decide +kernel
theorem dX5_mend_10 : decode cX5_mend 10 = .ok (.aload_n 0, 1) := by decide +kernel
theorem dX5_mend_11 : decode cX5_mend 11 = .ok (.iconst 0, 1) := by decide +kernel
theorem dX5_mend_12 : decode cX5_mend 12 = .ok (.putfield 21, 3) := by decide +kernel
theorem dX5_mend_15 : decode cX5_mend 15 = .ok (.aload_n 0, 1) := by decide +kernel
theorem dX5_mend_16 : decode cX5_mend 16 = .ok (.iconst 0, 1) := by decide +kernel
theorem dX5_mend_17 : decode cX5_mend 17 = .ok (.putfield 25, 3) := by decide +kernel
theorem dX5_mend_20 : decode cX5_mend 20 = .ok (.return_, 1) := by decide +kernel
theorem dX5_reading_0 : decode cX5_reading 0 = .ok (.aload_n 0, 1) := by decide +kernel
theorem dX5_reading_1 : decode cX5_reading 1 = .ok (.getfield 15, 3) := by decide +kernel
theorem dX5_reading_4 : decode cX5_reading 4 = .ok (.iconst 2, 1) := by decide +kernel
theorem dX5_reading_5 : decode cX5_reading 5 = .ok (.if_icmp .ne 8, 3) := by decide +kernel
theorem dX5_reading_8 : decode cX5_reading 8 = .ok (.aload_n 0, 1) := by decide +kernel
theorem dX5_reading_9 : decode cX5_reading 9 = .ok (.getfield 18, 3) := by decide +kernel
theorem dX5_reading_12 : decode cX5_reading 12 = .ok (.ireturn, 1) := by decide +kernel
theorem dX5_reading_13 : decode cX5_reading 13 = .ok (.aload_n 0, 1) := by decide +kernel
theorem dX5_reading_14 : decode cX5_reading 14 = .ok (.getfield 15, 3) := by decide +kernel
theorem dX5_reading_17 : decode cX5_reading 17 = .ok (.iconst 1, 1) := by decide +kernel
theorem dX5_reading_18 : decode cX5_reading 18 = .ok (.if_icmp .ne 15, 3) := by decide +kernel
theorem dX5_reading_21 : decode cX5_reading 21 = .ok (.aload_n 0, 1) := by decide +kernel
theorem dX5_reading_22 : decode cX5_reading 22 = .ok (.getfield 9, 3) := by decide +kernel
theorem dX5_reading_25 : decode cX5_reading 25 = .ok (.aload_n 0, 1) := by decide +kernel
theorem dX5_reading_26 : decode cX5_reading 26 = .ok (.getfield 18, 3) := by decide +kernel
theorem dX5_reading_29 : decode cX5_reading 29 = .ok (.iadd, 1) := by decide +kernel
theorem dX5_reading_30 : decode cX5_reading 30 = .ok (.goto 7, 3) := by decide +kernel
theorem dX5_reading_33 : decode cX5_reading 33 = .ok (.aload_n 0, 1) := by decide +kernel
theorem dX5_reading_34 : decode cX5_reading 34 = .ok (.getfield 9, 3) := by decide +kernel
theorem dX5_reading_37 : decode cX5_reading 37 = .ok (.ireturn, 1) := by decide +kernel
theorem dX5_coolTo_0 : decode cX5_coolTo 0 = .ok (.aload_n 0, 1) := by decide +kernel
theorem dX5_coolTo_1 : decode cX5_coolTo 1 = .ok (.getfield 9, 3) := by decide +kernel
theorem dX5_coolTo_4 : decode cX5_coolTo 4 = .ok (.iload_n 1, 1) := by decide +kernel
theorem dX5_coolTo_5 : decode cX5_coolTo 5 = .ok (.if_icmp .le 20, 3) := by decide +kernel
theorem dX5_coolTo_8 : decode cX5_coolTo 8 = .ok (.aload_n 0, 1) := by decide +kernel
theorem dX5_coolTo_9 : decode cX5_coolTo 9 = .ok (.aload_n 0, 1) := by decide +kernel
theorem dX5_coolTo_10 : decode cX5_coolTo 10 = .ok (.getfield 9, 3) := by decide +kernel
theorem dX5_coolTo_13 : decode cX5_coolTo 13 = .ok (.iload_n 2, 1) := by decide +kernel
theorem dX5_coolTo_14 : decode cX5_coolTo 14 = .ok (.isub, 1) := by decide +kernel
theorem dX5_coolTo_15 : decode cX5_coolTo 15 = .ok (.iload_n 1, 1) := by decide +kernel
theorem dX5_coolTo_16 : decode cX5_coolTo 16 = .ok (.invokestatic 28, 3) := by decide +kernel
theorem dX5_coolTo_19 : decode cX5_coolTo 19 = .ok (.putfield 9, 3) := by decide +kernel
theorem dX5_coolTo_22 : decode cX5_coolTo 22 = .ok (.goto 21, 3) := by decide +kernel
theorem dX5_coolTo_25 : decode cX5_coolTo 25 = .ok (.aload_n 0, 1) := by decide +kernel
theorem dX5_coolTo_26 : decode cX5_coolTo 26 = .ok (.getfield 9, 3) := by decide +kernel
theorem dX5_coolTo_29 : decode cX5_coolTo 29 = .ok (.iload_n 1, 1) := by decide +kernel
theorem dX5_coolTo_30 : decode cX5_coolTo 30 = .ok (.if_icmp .ge 13, 3) := by decide +kernel
theorem dX5_coolTo_33 : decode cX5_coolTo 33 = .ok (.aload_n 0, 1) := by decide +kernel
theorem dX5_coolTo_34 : decode cX5_coolTo 34 = .ok (.dup, 1) := by decide +kernel
theorem dX5_coolTo_35 : decode cX5_coolTo 35 = .ok (.getfield 9, 3) := by decide +kernel
theorem dX5_coolTo_38 : decode cX5_coolTo 38 = .ok (.iconst 1, 1) := by decide +kernel
theorem dX5_coolTo_39 : decode cX5_coolTo 39 = .ok (.iadd, 1) := by decide +kernel
theorem dX5_coolTo_40 : decode cX5_coolTo 40 = .ok (.putfield 9, 3) := by decide +kernel
theorem dX5_coolTo_43 : decode cX5_coolTo 43 = .ok (.return_, 1) := by decide +kernel
theorem dJ6_bitCount_0f7a4_0 : decode cJ6_bitCount_0f7a4 0 = .ok (.iload_n 0, 1) := by decide +kernel
theorem dJ6_bitCount_0f7a4_1 : decode cJ6_bitCount_0f7a4 1 = .ok (.iload_n 0, 1) := by decide +kernel
theorem dJ6_bitCount_0f7a4_2 : decode cJ6_bitCount_0f7a4 2 = .ok (.iconst 1, 1) := by decide +kernel
theorem dJ6_bitCount_0f7a4_3 : decode cJ6_bitCount_0f7a4 3 = .ok (.iushr, 1) := by decide +kernel
theorem dJ6_bitCount_0f7a4_4 : decode cJ6_bitCount_0f7a4 4 = .ok (.ldc_w 265, 3) := by decide +kernel
theorem dJ6_bitCount_0f7a4_7 : decode cJ6_bitCount_0f7a4 7 = .ok (.iand, 1) := by decide +kernel
theorem dJ6_bitCount_0f7a4_8 : decode cJ6_bitCount_0f7a4 8 = .ok (.isub, 1) := by decide +kernel
theorem dJ6_bitCount_0f7a4_9 : decode cJ6_bitCount_0f7a4 9 = .ok (.istore_n 0, 1) := by decide +kernel
theorem dJ6_bitCount_0f7a4_10 : decode cJ6_bitCount_0f7a4 10 = .ok (.iload_n 0, 1) := by decide +kernel
theorem dJ6_bitCount_0f7a4_11 : decode cJ6_bitCount_0f7a4 11 = .ok (.ldc_w 266, 3) := by decide +kernel
theorem dJ6_bitCount_0f7a4_14 : decode cJ6_bitCount_0f7a4 14 = .ok (.iand, 1) := by decide +kernel
theorem dJ6_bitCount_0f7a4_15 : decode cJ6_bitCount_0f7a4 15 = .ok (.iload_n 0, 1) := by decide +kernel
theorem dJ6_bitCount_0f7a4_16 : decode cJ6_bitCount_0f7a4 16 = .ok (.iconst 2, 1) := by decide +kernel
theorem dJ6_bitCount_0f7a4_17 : decode cJ6_bitCount_0f7a4 17 = .ok (.iushr, 1) := by decide +kernel
theorem dJ6_bitCount_0f7a4_18 : decode cJ6_bitCount_0f7a4 18 = .ok (.ldc_w 266, 3) := by decide +kernel
theorem dJ6_bitCount_0f7a4_21 : decode cJ6_bitCount_0f7a4 21 = .ok (.iand, 1) := by decide +kernel
theorem dJ6_bitCount_0f7a4_22 : decode cJ6_bitCount_0f7a4 22 = .ok (.iadd, 1) := by decide +kernel
theorem dJ6_bitCount_0f7a4_23 : decode cJ6_bitCount_0f7a4 23 = .ok (.istore_n 0, 1) := by decide +kernel
theorem dJ6_bitCount_0f7a4_24 : decode cJ6_bitCount_0f7a4 24 = .ok (.iload_n 0, 1) := by decide +kernel
theorem dJ6_bitCount_0f7a4_25 : decode cJ6_bitCount_0f7a4 25 = .ok (.iload_n 0, 1) := by decide +kernel
theorem dJ6_bitCount_0f7a4_26 : decode cJ6_bitCount_0f7a4 26 = .ok (.iconst 4, 1) := by decide +kernel
theorem dJ6_bitCount_0f7a4_27 : decode cJ6_bitCount_0f7a4 27 = .ok (.iushr, 1) := by decide +kernel
theorem dJ6_bitCount_0f7a4_28 : decode cJ6_bitCount_0f7a4 28 = .ok (.iadd, 1) := by decide +kernel
theorem dJ6_bitCount_0f7a4_29 : decode cJ6_bitCount_0f7a4 29 = .ok (.ldc_w 267, 3) := by decide +kernel
theorem dJ6_bitCount_0f7a4_32 : decode cJ6_bitCount_0f7a4 32 = .ok (.iand, 1) := by decide +kernel
theorem dJ6_bitCount_0f7a4_33 : decode cJ6_bitCount_0f7a4 33 = .ok (.istore_n 0, 1) := by decide +kernel
theorem dJ6_bitCount_0f7a4_34 : decode cJ6_bitCount_0f7a4 34 = .ok (.iload_n 0, 1) := by decide +kernel
theorem dJ6_bitCount_0f7a4_35 : decode cJ6_bitCount_0f7a4 35 = .ok (.iload_n 0, 1) := by decide +kernel
theorem dJ6_bitCount_0f7a4_36 : decode cJ6_bitCount_0f7a4 36 = .ok (.bipush 8, 2) := by decide +kernel
theorem dJ6_bitCount_0f7a4_38 : decode cJ6_bitCount_0f7a4 38 = .ok (.iushr, 1) := by decide +kernel
theorem dJ6_bitCount_0f7a4_39 : decode cJ6_bitCount_0f7a4 39 = .ok (.iadd, 1) := by decide +kernel
theorem dJ6_bitCount_0f7a4_40 : decode cJ6_bitCount_0f7a4 40 = .ok (.istore_n 0, 1) := by decide +kernel
theorem dJ6_bitCount_0f7a4_41 : decode cJ6_bitCount_0f7a4 41 = .ok (.iload_n 0, 1) := by decide +kernel
theorem dJ6_bitCount_0f7a4_42 : decode cJ6_bitCount_0f7a4 42 = .ok (.iload_n 0, 1) := by decide +kernel
theorem dJ6_bitCount_0f7a4_43 : decode cJ6_bitCount_0f7a4 43 = .ok (.bipush 16, 2) := by decide +kernel
theorem dJ6_bitCount_0f7a4_45 : decode cJ6_bitCount_0f7a4 45 = .ok (.iushr, 1) := by decide +kernel
theorem dJ6_bitCount_0f7a4_46 : decode cJ6_bitCount_0f7a4 46 = .ok (.iadd, 1) := by decide +kernel
theorem dJ6_bitCount_0f7a4_47 : decode cJ6_bitCount_0f7a4 47 = .ok (.istore_n 0, 1) := by decide +kernel
theorem dJ6_bitCount_0f7a4_48 : decode cJ6_bitCount_0f7a4 48 = .ok (.iload_n 0, 1) := by decide +kernel
theorem dJ6_bitCount_0f7a4_49 : decode cJ6_bitCount_0f7a4 49 = .ok (.bipush 63, 2) := by decide +kernel
theorem dJ6_bitCount_0f7a4_51 : decode cJ6_bitCount_0f7a4 51 = .ok (.iand, 1) := by decide +kernel
theorem dJ6_bitCount_0f7a4_52 : decode cJ6_bitCount_0f7a4 52 = .ok (.ireturn, 1) := by decide +kernel
theorem dJ9_floorDiv_7cf53_0 : decode cJ9_floorDiv_7cf53 0 = .ok (.iload_n 0, 1) := by decide +kernel
theorem dJ9_floorDiv_7cf53_1 : decode cJ9_floorDiv_7cf53 1 = .ok (.iload_n 1, 1) := by decide +kernel
theorem dJ9_floorDiv_7cf53_2 : decode cJ9_floorDiv_7cf53 2 = .ok (.idiv, 1) := by decide +kernel
theorem dJ9_floorDiv_7cf53_3 : decode cJ9_floorDiv_7cf53 3 = .ok (.istore_n 2, 1) := by decide +kernel
theorem dJ9_floorDiv_7cf53_4 : decode cJ9_floorDiv_7cf53 4 = .ok (.iload_n 0, 1) := by decide +kernel
theorem dJ9_floorDiv_7cf53_5 : decode cJ9_floorDiv_7cf53 5 = .ok (.iload_n 1, 1) := by decide +kernel
theorem dJ9_floorDiv_7cf53_6 : decode cJ9_floorDiv_7cf53 6 = .ok (.ixor, 1) := by decide +kernel
theorem dJ9_floorDiv_7cf53_7 : decode cJ9_floorDiv_7cf53 7 = .ok (.ifCond .ge 14, 3) := by decide +kernel
theorem dJ9_floorDiv_7cf53_10 : decode cJ9_floorDiv_7cf53 10 = .ok (.iload_n 2, 1) := by decide +kernel
theorem dJ9_floorDiv_7cf53_11 : decode cJ9_floorDiv_7cf53 11 = .ok (.iload_n 1, 1) := by decide +kernel
theorem dJ9_floorDiv_7cf53_12 : decode cJ9_floorDiv_7cf53 12 = .ok (.imul, 1) := by decide +kernel
theorem dJ9_floorDiv_7cf53_13 : decode cJ9_floorDiv_7cf53 13 = .ok (.iload_n 0, 1) := by decide +kernel
theorem dJ9_floorDiv_7cf53_14 : decode cJ9_floorDiv_7cf53 14 = .ok (.if_icmp .eq 7, 3) := by decide +kernel
theorem dJ9_floorDiv_7cf53_17 : decode cJ9_floorDiv_7cf53 17 = .ok (.iload_n 2, 1) := by decide +kernel
theorem dJ9_floorDiv_7cf53_18 : decode cJ9_floorDiv_7cf53 18 = .ok (.iconst 1, 1) := by decide +kernel
theorem dJ9_floorDiv_7cf53_19 : decode cJ9_floorDiv_7cf53 19 = .ok (.isub, 1) := by decide +kernel
theorem dJ9_floorDiv_7cf53_20 : decode cJ9_floorDiv_7cf53 20 = .ok (.ireturn, 1) := by decide +kernel
theorem dJ9_floorDiv_7cf53_21 : decode cJ9_floorDiv_7cf53 21 = .ok (.iload_n 2, 1) := by decide +kernel
theorem dJ9_floorDiv_7cf53_22 : decode cJ9_floorDiv_7cf53 22 = .ok (.ireturn, 1) := by decide +kernel
theorem dJ9_abs_0f7a4_0 : decode cJ9_abs_0f7a4 0 = .ok (.iload_n 0, 1) := by decide +kernel
theorem dJ9_abs_0f7a4_1 : decode cJ9_abs_0f7a4 1 = .ok (.ifCond .ge 8, 3) := by decide +kernel
theorem dJ9_abs_0f7a4_4 : decode cJ9_abs_0f7a4 4 = .ok (.iload_n 0, 1) := by decide +kernel
theorem dJ9_abs_0f7a4_5 : decode cJ9_abs_0f7a4 5 = .ok (.ineg, 1) := by decide +kernel
theorem dJ9_abs_0f7a4_6 : decode cJ9_abs_0f7a4 6 = .ok (.goto 4, 3) := by decide +kernel
theorem dJ9_abs_0f7a4_9 : decode cJ9_abs_0f7a4 9 = .ok (.iload_n 0, 1) := by decide +kernel
theorem dJ9_abs_0f7a4_10 : decode cJ9_abs_0f7a4 10 = .ok (.ireturn, 1) := by decide +kernel
theorem dJ9_max_7cf53_0 : decode cJ9_max_7cf53 0 = .ok (.iload_n 0, 1) := by decide +kernel
theorem dJ9_max_7cf53_1 : decode cJ9_max_7cf53 1 = .ok (.iload_n 1, 1) := by decide +kernel
theorem dJ9_max_7cf53_2 : decode cJ9_max_7cf53 2 = .ok (.if_icmp .lt 7, 3) := by decide +kernel
theorem dJ9_max_7cf53_5 : decode cJ9_max_7cf53 5 = .ok (.iload_n 0, 1) := by decide +kernel
theorem dJ9_max_7cf53_6 : decode cJ9_max_7cf53 6 = .ok (.goto 4, 3) := by decide +kernel
theorem dJ9_max_7cf53_9 : decode cJ9_max_7cf53 9 = .ok (.iload_n 1, 1) := by decide +kernel
theorem dJ9_max_7cf53_10 : decode cJ9_max_7cf53 10 = .ok (.ireturn, 1) := by decide +kernel
theorem dJ9_min_7cf53_0 : decode cJ9_min_7cf53 0 = .ok (.iload_n 0, 1) := by decide +kernel
theorem dJ9_min_7cf53_1 : decode cJ9_min_7cf53 1 = .ok (.iload_n 1, 1) := by decide +kernel
theorem dJ9_min_7cf53_2 : decode cJ9_min_7cf53 2 = .ok (.if_icmp .gt 7, 3) := by decide +kernel
theorem dJ9_min_7cf53_5 : decode cJ9_min_7cf53 5 = .ok (.iload_n 0, 1) := by decide +kernel
theorem dJ9_min_7cf53_6 : decode cJ9_min_7cf53 6 = .ok (.goto 4, 3) := by decide +kernel
theorem dJ9_min_7cf53_9 : decode cJ9_min_7cf53 9 = .ok (.iload_n 1, 1) := by decide +kernel
theorem dJ9_min_7cf53_10 : decode cJ9_min_7cf53 10 = .ok (.ireturn, 1) := by decide +kernel
