theorem dL_cell_0 : decode cL_cell 0 = .ok (.iload_n 1, 1) := by decide +kernel
theorem dL_cell_1 : decode cL_cell 1 = .ok (.aload_n 0, 1) := by decide +kernel
theorem dL_cell_2 : decode cL_cell 2 = .ok (.arraylength, 1) := by decide +kernel
theorem dL_cell_3 : decode cL_cell 3 = .ok (.if_icmp .ge 9, 3) := by decide +kernel
theorem dL_cell_6 : decode cL_cell 6 = .ok (.aload_n 0, 1) := by decide +kernel
theorem dL_cell_7 : decode cL_cell 7 = .ok (.iload_n 1, 1) := by decide +kernel
theorem dL_cell_8 : decode cL_cell 8 = .ok (.iaload, 1) := by decide +kernel
theorem dL_cell_9 : decode cL_cell 9 = .ok (.goto 9, 3) := by decide +kernel
theorem dL_cell_12 : decode cL_cell 12 = .ok (.ldc 7, 2) := by decide +kernel
theorem dL_cell_14 : decode cL_cell 14 = .ok (.iload_n 1, 1) := by decide +kernel
theorem dL_cell_15 : decode cL_cell 15 = .ok (.iconst 3, 1) := by decide +kernel
theorem dL_cell_16 : decode cL_cell 16 = .ok (.iadd, 1) := by decide +kernel
theorem dL_cell_17 : decode cL_cell 17 = .ok (.imul, 1) := by decide +kernel
theorem dL_cell_18 : decode cL_cell 18 = .ok (.ireturn, 1) := by decide +kernel
theorem dL_low_0 : decode cL_low 0 = .ok (.iload_n 0, 1) := by decide +kernel
theorem dL_low_1 : decode cL_low 1 = .ok (.ldc 8, 2) := by decide +kernel
theorem dL_low_3 : decode cL_low 3 = .ok (.iand, 1) := by decide +kernel
theorem dL_low_4 : decode cL_low 4 = .ok (.iload_n 1, 1) := by decide +kernel
theorem dL_low_5 : decode cL_low 5 = .ok (.irem, 1) := by decide +kernel
theorem dL_low_6 : decode cL_low 6 = .ok (.ireturn, 1) := by decide +kernel
theorem dL_spot_0 : decode cL_spot 0 = .ok (.bipush 19, 2) := by decide +kernel
theorem dL_spot_2 : decode cL_spot 2 = .ok (.iload_n 0, 1) := by decide +kernel
theorem dL_spot_3 : decode cL_spot 3 = .ok (.iconst 3, 1) := by decide +kernel
theorem dL_spot_4 : decode cL_spot 4 = .ok (.idiv, 1) := by decide +kernel
theorem dL_spot_5 : decode cL_spot 5 = .ok (.imul, 1) := by decide +kernel
theorem dL_spot_6 : decode cL_spot 6 = .ok (.iconst 4, 1) := by decide +kernel
theorem dL_spot_7 : decode cL_spot 7 = .ok (.iadd, 1) := by decide +kernel
theorem dL_spot_8 : decode cL_spot 8 = .ok (.iconst 5, 1) := by decide +kernel
theorem dL_spot_9 : decode cL_spot 9 = .ok (.iload_n 0, 1) := by decide +kernel
theorem dL_spot_10 : decode cL_spot 10 = .ok (.iconst 3, 1) := by decide +kernel
theorem dL_spot_11 : decode cL_spot 11 = .ok (.irem, 1) := by decide +kernel
theorem dL_spot_12 : decode cL_spot 12 = .ok (.imul, 1) := by decide +kernel
theorem dL_spot_13 : decode cL_spot 13 = .ok (.iadd, 1) := by decide +kernel
theorem dL_spot_14 : decode cL_spot 14 = .ok (.ireturn, 1) := by decide +kernel
theorem dL_read_0 : decode cL_read 0 = .ok (.iload_n 1, 1) := by decide +kernel
theorem dL_read_1 : decode cL_read 1 = .ok (.invokestatic 9, 3) := by decide +kernel
theorem dL_read_4 : decode cL_read 4 = .ok (.istore_n 2, 1) := by decide +kernel
theorem dL_read_5 : decode cL_read 5 = .ok (.aload_n 0, 1) := by decide +kernel
theorem dL_read_6 : decode cL_read 6 = .ok (.iload_n 2, 1) := by decide +kernel
theorem dL_read_7 : decode cL_read 7 = .ok (.iconst 1, 1) := by decide +kernel
theorem dL_read_8 : decode cL_read 8 = .ok (.iadd, 1) := by decide +kernel
theorem dL_read_9 : decode cL_read 9 = .ok (.iaload, 1) := by decide +kernel
theorem dL_read_10 : decode cL_read 10 = .ok (.iconst 2, 1) := by decide +kernel
theorem dL_read_11 : decode cL_read 11 = .ok (.if_icmp .ne 11, 3) := by decide +kernel
theorem dL_read_14 : decode cL_read 14 = .ok (.aload_n 0, 1) := by decide +kernel
theorem dL_read_15 : decode cL_read 15 = .ok (.iload_n 2, 1) := by decide +kernel
theorem dL_read_16 : decode cL_read 16 = .ok (.iconst 2, 1) := by decide +kernel
theorem dL_read_17 : decode cL_read 17 = .ok (.iadd, 1) := by decide +kernel
theorem dL_read_18 : decode cL_read 18 = .ok (.iaload, 1) := by decide +kernel
theorem dL_read_19 : decode cL_read 19 = .ok (.goto 27, 3) := by decide +kernel
theorem dL_read_22 : decode cL_read 22 = .ok (.aload_n 0, 1) := by decide +kernel
theorem dL_read_23 : decode cL_read 23 = .ok (.iload_n 2, 1) := by decide +kernel
theorem dL_read_24 : decode cL_read 24 = .ok (.iconst 1, 1) := by decide +kernel
theorem dL_read_25 : decode cL_read 25 = .ok (.iadd, 1) := by decide +kernel
theorem dL_read_26 : decode cL_read 26 = .ok (.iaload, 1) := by decide +kernel
theorem dL_read_27 : decode cL_read 27 = .ok (.iconst 1, 1) := by decide +kernel
theorem dL_read_28 : decode cL_read 28 = .ok (.if_icmp .ne 15, 3) := by decide +kernel
theorem dL_read_31 : decode cL_read 31 = .ok (.aload_n 0, 1) := by decide +kernel
theorem dL_read_32 : decode cL_read 32 = .ok (.iload_n 2, 1) := by decide +kernel
theorem dL_read_33 : decode cL_read 33 = .ok (.iaload, 1) := by decide +kernel
theorem dL_read_34 : decode cL_read 34 = .ok (.aload_n 0, 1) := by decide +kernel
theorem dL_read_35 : decode cL_read 35 = .ok (.iload_n 2, 1) := by decide +kernel
theorem dL_read_36 : decode cL_read 36 = .ok (.iconst 2, 1) := by decide +kernel
theorem dL_read_37 : decode cL_read 37 = .ok (.iadd, 1) := by decide +kernel
theorem dL_read_38 : decode cL_read 38 = .ok (.iaload, 1) := by decide +kernel
theorem dL_read_39 : decode cL_read 39 = .ok (.iadd, 1) := by decide +kernel
theorem dL_read_40 : decode cL_read 40 = .ok (.goto 6, 3) := by decide +kernel
theorem dL_read_43 : decode cL_read 43 = .ok (.aload_n 0, 1) := by decide +kernel
theorem dL_read_44 : decode cL_read 44 = .ok (.iload_n 2, 1) := by decide +kernel
theorem dL_read_45 : decode cL_read 45 = .ok (.iaload, 1) := by decide +kernel
theorem dL_read_46 : decode cL_read 46 = .ok (.ireturn, 1) := by decide +kernel
theorem dL_told_0 : decode cL_told 0 = .ok (.iload_n 1, 1) := by decide +kernel
theorem dL_told_1 : decode cL_told 1 = .ok (.iconst 3, 1) := by decide +kernel
theorem dL_told_2 : decode cL_told 2 = .ok (.idiv, 1) := by decide +kernel
theorem dL_told_3 : decode cL_told 3 = .ok (.iconst 3, 1) := by decide +kernel
theorem dL_told_4 : decode cL_told 4 = .ok (.imul, 1) := by decide +kernel
theorem dL_told_5 : decode cL_told 5 = .ok (.istore_n 2, 1) := by decide +kernel
theorem dL_told_6 : decode cL_told 6 = .ok (.aload_n 0, 1) := by decide +kernel
theorem dL_told_7 : decode cL_told 7 = .ok (.iload_n 2, 1) := by decide +kernel
theorem dL_told_8 : decode cL_told 8 = .ok (.invokestatic 15, 3) := by decide +kernel
theorem dL_told_11 : decode cL_told 11 = .ok (.aload_n 0, 1) := by decide +kernel
theorem dL_told_12 : decode cL_told 12 = .ok (.iload_n 2, 1) := by decide +kernel
theorem dL_told_13 : decode cL_told 13 = .ok (.iconst 1, 1) := by decide +kernel
theorem dL_told_14 : decode cL_told 14 = .ok (.iadd, 1) := by decide +kernel
theorem dL_told_15 : decode cL_told 15 = .ok (.invokestatic 15, 3) := by decide +kernel
theorem dL_told_18 : decode cL_told 18 = .ok (.iadd, 1) := by decide +kernel
theorem dL_told_19 : decode cL_told 19 = .ok (.aload_n 0, 1) := by decide +kernel
theorem dL_told_20 : decode cL_told 20 = .ok (.iload_n 2, 1) := by decide +kernel
theorem dL_told_21 : decode cL_told 21 = .ok (.iconst 2, 1) := by decide +kernel
theorem dL_told_22 : decode cL_told 22 = .ok (.iadd, 1) := by decide +kernel
theorem dL_told_23 : decode cL_told 23 = .ok (.invokestatic 15, 3) := by decide +kernel
theorem dL_told_26 : decode cL_told 26 = .ok (.iadd, 1) := by decide +kernel
theorem dL_told_27 : decode cL_told 27 = .ok (.aload_n 0, 1) := by decide +kernel
theorem dL_told_28 : decode cL_told 28 = .ok (.iload_n 1, 1) := by decide +kernel
theorem dL_told_29 : decode cL_told 29 = .ok (.invokestatic 15, 3) := by decide +kernel
theorem dL_told_32 : decode cL_told 32 = .ok (.isub, 1) := by decide +kernel
theorem dL_told_33 : decode cL_told 33 = .ok (.istore_n 3, 1) := by decide +kernel
theorem dL_told_34 : decode cL_told 34 = .ok (.aload_n 0, 1) := by decide +kernel
theorem dL_told_35 : decode cL_told 35 = .ok (.iload_n 1, 1) := by decide +kernel
theorem dL_told_36 : decode cL_told 36 = .ok (.invokestatic 9, 3) := by decide +kernel
theorem dL_told_39 : decode cL_told 39 = .ok (.iconst 3, 1) := by decide +kernel
theorem dL_told_40 : decode cL_told 40 = .ok (.iadd, 1) := by decide +kernel
theorem dL_told_41 : decode cL_told 41 = .ok (.iaload, 1) := by decide +kernel
theorem dL_told_42 : decode cL_told 42 = .ok (.iconst 1, 1) := by decide +kernel
theorem dL_told_43 : decode cL_told 43 = .ok (.if_icmp .ne 13, 3) := by decide +kernel
theorem dL_told_46 : decode cL_told 46 = .ok (.iload_n 3, 1) := by decide +kernel
theorem dL_told_47 : decode cL_told 47 = .ok (.iload_n 3, 1) := by decide +kernel
theorem dL_told_48 : decode cL_told 48 = .ok (.iconst 1, 1) := by decide +kernel
theorem dL_told_49 : decode cL_told 49 = .ok (.iand, 1) := by decide +kernel
theorem dL_told_50 : decode cL_told 50 = .ok (.isub, 1) := by decide +kernel
theorem dL_told_51 : decode cL_told 51 = .ok (.iconst 2, 1) := by decide +kernel
theorem dL_told_52 : decode cL_told 52 = .ok (.idiv, 1) := by decide +kernel
theorem dL_told_53 : decode cL_told 53 = .ok (.goto 8, 3) := by decide +kernel
theorem dL_told_56 : decode cL_told 56 = .ok (.aload_n 0, 1) := by decide +kernel
theorem dL_told_57 : decode cL_told 57 = .ok (.iload_n 1, 1) := by decide +kernel
theorem dL_told_58 : decode cL_told 58 = .ok (.invokestatic 15, 3) := by decide +kernel
theorem dL_told_61 : decode cL_told 61 = .ok (.ireturn, 1) := by decide +kernel
theorem dL_apart_0 : decode cL_apart 0 = .ok (.iload_n 0, 1) := by decide +kernel
theorem dL_apart_1 : decode cL_apart 1 = .ok (.iload_n 1, 1) := by decide +kernel
theorem dL_apart_2 : decode cL_apart 2 = .ok (.if_icmp .ge 9, 3) := by decide +kernel
theorem dL_apart_5 : decode cL_apart 5 = .ok (.iload_n 1, 1) := by decide +kernel
theorem dL_apart_6 : decode cL_apart 6 = .ok (.iload_n 0, 1) := by decide +kernel
theorem dL_apart_7 : decode cL_apart 7 = .ok (.isub, 1) := by decide +kernel
theorem dL_apart_8 : decode cL_apart 8 = .ok (.goto 6, 3) := by decide +kernel
theorem dL_apart_11 : decode cL_apart 11 = .ok (.iload_n 0, 1) := by decide +kernel
theorem dL_apart_12 : decode cL_apart 12 = .ok (.iload_n 1, 1) := by decide +kernel
theorem dL_apart_13 : decode cL_apart 13 = .ok (.isub, 1) := by decide +kernel
theorem dL_apart_14 : decode cL_apart 14 = .ok (.ireturn, 1) := by decide +kernel
theorem dL_isOdd_0 : decode cL_isOdd 0 = .ok (.iload_n 2, 1) := by decide +kernel
theorem dL_isOdd_1 : decode cL_isOdd 1 = .ok (.iconst 3, 1) := by decide +kernel
theorem dL_isOdd_2 : decode cL_isOdd 2 = .ok (.idiv, 1) := by decide +kernel
theorem dL_isOdd_3 : decode cL_isOdd 3 = .ok (.iconst 3, 1) := by decide +kernel
theorem dL_isOdd_4 : decode cL_isOdd 4 = .ok (.imul, 1) := by decide +kernel
theorem dL_isOdd_5 : decode cL_isOdd 5 = .ok (.istore_n 3, 1) := by decide +kernel
theorem dL_isOdd_6 : decode cL_isOdd 6 = .ok (.aload_n 1, 1) := by decide +kernel
theorem dL_isOdd_7 : decode cL_isOdd 7 = .ok (.iload_n 3, 1) := by decide +kernel
theorem dL_isOdd_8 : decode cL_isOdd 8 = .ok (.iload_n 2, 1) := by decide +kernel
theorem dL_isOdd_9 : decode cL_isOdd 9 = .ok (.iconst 1, 1) := by decide +kernel
theorem dL_isOdd_10 : decode cL_isOdd 10 = .ok (.iadd, 1) := by decide +kernel
theorem dL_isOdd_11 : decode cL_isOdd 11 = .ok (.iconst 3, 1) := by decide +kernel
theorem dL_isOdd_12 : decode cL_isOdd 12 = .ok (.irem, 1) := by decide +kernel
theorem dL_isOdd_13 : decode cL_isOdd 13 = .ok (.iadd, 1) := by decide +kernel
theorem dL_isOdd_14 : decode cL_isOdd 14 = .ok (.invokestatic 15, 3) := by decide +kernel
theorem dL_isOdd_17 : decode cL_isOdd 17 = .ok (.istore 4, 2) := by decide +kernel
theorem dL_isOdd_19 : decode cL_isOdd 19 = .ok (.aload_n 1, 1) := by decide +kernel
theorem dL_isOdd_20 : decode cL_isOdd 20 = .ok (.iload_n 3, 1) := by decide +kernel
theorem dL_isOdd_21 : decode cL_isOdd 21 = .ok (.iload_n 2, 1) := by decide +kernel
theorem dL_isOdd_22 : decode cL_isOdd 22 = .ok (.iconst 2, 1) := by decide +kernel
theorem dL_isOdd_23 : decode cL_isOdd 23 = .ok (.iadd, 1) := by decide +kernel
theorem dL_isOdd_24 : decode cL_isOdd 24 = .ok (.iconst 3, 1) := by decide +kernel
theorem dL_isOdd_25 : decode cL_isOdd 25 = .ok (.irem, 1) := by decide +kernel
theorem dL_isOdd_26 : decode cL_isOdd 26 = .ok (.iadd, 1) := by decide +kernel
theorem dL_isOdd_27 : decode cL_isOdd 27 = .ok (.invokestatic 15, 3) := by decide +kernel
theorem dL_isOdd_30 : decode cL_isOdd 30 = .ok (.istore 5, 2) := by decide +kernel
theorem dL_isOdd_32 : decode cL_isOdd 32 = .ok (.aload_n 1, 1) := by decide +kernel
theorem dL_isOdd_33 : decode cL_isOdd 33 = .ok (.iload_n 2, 1) := by decide +kernel
theorem dL_isOdd_34 : decode cL_isOdd 34 = .ok (.invokestatic 15, 3) := by decide +kernel
theorem dL_isOdd_37 : decode cL_isOdd 37 = .ok (.iload 4, 2) := by decide +kernel
theorem dL_isOdd_39 : decode cL_isOdd 39 = .ok (.invokestatic 19, 3) := by decide +kernel
theorem dL_isOdd_42 : decode cL_isOdd 42 = .ok (.aload_n 1, 1) := by decide +kernel
theorem dL_isOdd_43 : decode cL_isOdd 43 = .ok (.iload_n 2, 1) := by decide +kernel
theorem dL_isOdd_44 : decode cL_isOdd 44 = .ok (.invokestatic 15, 3) := by decide +kernel
theorem dL_isOdd_47 : decode cL_isOdd 47 = .ok (.iload 5, 2) := by decide +kernel
theorem dL_isOdd_49 : decode cL_isOdd 49 = .ok (.invokestatic 19, 3) := by decide +kernel
theorem dL_isOdd_52 : decode cL_isOdd 52 = .ok (.if_icmp .ge 16, 3) := by decide +kernel
theorem dL_isOdd_55 : decode cL_isOdd 55 = .ok (.aload_n 1, 1) := by decide +kernel
theorem dL_isOdd_56 : decode cL_isOdd 56 = .ok (.iload_n 2, 1) := by decide +kernel
theorem dL_isOdd_57 : decode cL_isOdd 57 = .ok (.invokestatic 15, 3) := by decide +kernel
theorem dL_isOdd_60 : decode cL_isOdd 60 = .ok (.iload 4, 2) := by decide +kernel
theorem dL_isOdd_62 : decode cL_isOdd 62 = .ok (.invokestatic 19, 3) := by decide +kernel
theorem dL_isOdd_65 : decode cL_isOdd 65 = .ok (.goto 13, 3) := by decide +kernel
theorem dL_isOdd_68 : decode cL_isOdd 68 = .ok (.aload_n 1, 1) := by decide +kernel
theorem dL_isOdd_69 : decode cL_isOdd 69 = .ok (.iload_n 2, 1) := by decide +kernel
theorem dL_isOdd_70 : decode cL_isOdd 70 = .ok (.invokestatic 15, 3) := by decide +kernel
theorem dL_isOdd_73 : decode cL_isOdd 73 = .ok (.iload 5, 2) := by decide +kernel
theorem dL_isOdd_75 : decode cL_isOdd 75 = .ok (.invokestatic 19, 3) := by decide +kernel
theorem dL_isOdd_78 : decode cL_isOdd 78 = .ok (.istore 6, 2) := by decide +kernel
theorem dL_isOdd_80 : decode cL_isOdd 80 = .ok (.iload 6, 2) := by decide +kernel
theorem dL_isOdd_82 : decode cL_isOdd 82 = .ok (.aload_n 0, 1) := by decide +kernel
theorem dL_isOdd_83 : decode cL_isOdd 83 = .ok (.iconst 4, 1) := by decide +kernel
theorem dL_isOdd_84 : decode cL_isOdd 84 = .ok (.iaload, 1) := by decide +kernel
theorem dL_isOdd_85 : decode cL_isOdd 85 = .ok (.if_icmp .le 20, 3) := by decide +kernel
theorem dL_isOdd_88 : decode cL_isOdd 88 = .ok (.iload 4, 2) := by decide +kernel
theorem dL_isOdd_90 : decode cL_isOdd 90 = .ok (.iload 5, 2) := by decide +kernel
theorem dL_isOdd_92 : decode cL_isOdd 92 = .ok (.invokestatic 19, 3) := by decide +kernel
theorem dL_isOdd_95 : decode cL_isOdd 95 = .ok (.aload_n 0, 1) := by decide +kernel
theorem dL_isOdd_96 : decode cL_isOdd 96 = .ok (.iconst 4, 1) := by decide +kernel
theorem dL_isOdd_97 : decode cL_isOdd 97 = .ok (.iaload, 1) := by decide +kernel
theorem dL_isOdd_98 : decode cL_isOdd 98 = .ok (.if_icmp .gt 7, 3) := by decide +kernel
theorem dL_isOdd_101 : decode cL_isOdd 101 = .ok (.iconst 1, 1) := by decide +kernel
theorem dL_isOdd_102 : decode cL_isOdd 102 = .ok (.goto 4, 3) := by decide +kernel
theorem dL_isOdd_105 : decode cL_isOdd 105 = .ok (.iconst 0, 1) := by decide +kernel
theorem dL_isOdd_106 : decode cL_isOdd 106 = .ok (.ireturn, 1) := by decide +kernel
theorem dL_vanMinute_0 : decode cL_vanMinute 0 = .ok (.bipush 19, 2) := by decide +kernel
theorem dL_vanMinute_2 : decode cL_vanMinute 2 = .ok (.iload_n 2, 1) := by decide +kernel
theorem dL_vanMinute_3 : decode cL_vanMinute 3 = .ok (.imul, 1) := by decide +kernel
theorem dL_vanMinute_4 : decode cL_vanMinute 4 = .ok (.istore_n 3, 1) := by decide +kernel
theorem dL_vanMinute_5 : decode cL_vanMinute 5 = .ok (.iconst 0, 1) := by decide +kernel
theorem dL_vanMinute_6 : decode cL_vanMinute 6 = .ok (.istore 4, 2) := by decide +kernel
theorem dL_vanMinute_8 : decode cL_vanMinute 8 = .ok (.iload 4, 2) := by decide +kernel
theorem dL_vanMinute_10 : decode cL_vanMinute 10 = .ok (.iconst 3, 1) := by decide +kernel
theorem dL_vanMinute_11 : decode cL_vanMinute 11 = .ok (.if_icmp .ge 145, 3) := by decide +kernel
theorem dL_vanMinute_14 : decode cL_vanMinute 14 = .ok (.iconst 3, 1) := by decide +kernel
theorem dL_vanMinute_15 : decode cL_vanMinute 15 = .ok (.iload_n 2, 1) := by decide +kernel
theorem dL_vanMinute_16 : decode cL_vanMinute 16 = .ok (.imul, 1) := by decide +kernel
theorem dL_vanMinute_17 : decode cL_vanMinute 17 = .ok (.iload 4, 2) := by decide +kernel
theorem dL_vanMinute_19 : decode cL_vanMinute 19 = .ok (.iadd, 1) := by decide +kernel
theorem dL_vanMinute_20 : decode cL_vanMinute 20 = .ok (.invokestatic 9, 3) := by decide +kernel
theorem dL_vanMinute_23 : decode cL_vanMinute 23 = .ok (.istore 5, 2) := by decide +kernel
theorem dL_vanMinute_25 : decode cL_vanMinute 25 = .ok (.aload_n 0, 1) := by decide +kernel
theorem dL_vanMinute_26 : decode cL_vanMinute 26 = .ok (.iconst 3, 1) := by decide +kernel
theorem dL_vanMinute_27 : decode cL_vanMinute 27 = .ok (.iaload, 1) := by decide +kernel
theorem dL_vanMinute_28 : decode cL_vanMinute 28 = .ok (.aload_n 1, 1) := by decide +kernel
theorem dL_vanMinute_29 : decode cL_vanMinute 29 = .ok (.iload 5, 2) := by decide +kernel
theorem dL_vanMinute_31 : decode cL_vanMinute 31 = .ok (.iaload, 1) := by decide +kernel
theorem dL_vanMinute_32 : decode cL_vanMinute 32 = .ok (.isub, 1) := by decide +kernel
theorem dL_vanMinute_33 : decode cL_vanMinute 33 = .ok (.iload 4, 2) := by decide +kernel
theorem dL_vanMinute_35 : decode cL_vanMinute 35 = .ok (.iconst 2, 1) := by decide +kernel
theorem dL_vanMinute_36 : decode cL_vanMinute 36 = .ok (.if_icmp .ne 8, 3) := by decide +kernel
theorem dL_vanMinute_39 : decode cL_vanMinute 39 = .ok (.bipush 12, 2) := by decide +kernel
theorem dL_vanMinute_41 : decode cL_vanMinute 41 = .ok (.goto 9, 3) := by decide +kernel
theorem dL_vanMinute_44 : decode cL_vanMinute 44 = .ok (.iconst 3, 1) := by decide +kernel
theorem dL_vanMinute_45 : decode cL_vanMinute 45 = .ok (.iconst 3, 1) := by decide +kernel
theorem dL_vanMinute_46 : decode cL_vanMinute 46 = .ok (.iload 4, 2) := by decide +kernel
theorem dL_vanMinute_48 : decode cL_vanMinute 48 = .ok (.imul, 1) := by decide +kernel
theorem dL_vanMinute_49 : decode cL_vanMinute 49 = .ok (.iadd, 1) := by decide +kernel
theorem dL_vanMinute_50 : decode cL_vanMinute 50 = .ok (.imul, 1) := by decide +kernel
theorem dL_vanMinute_51 : decode cL_vanMinute 51 = .ok (.bipush 100, 2) := by decide +kernel
theorem dL_vanMinute_53 : decode cL_vanMinute 53 = .ok (.idiv, 1) := by decide +kernel
theorem dL_vanMinute_54 : decode cL_vanMinute 54 = .ok (.istore 6, 2) := by decide +kernel
theorem dL_vanMinute_56 : decode cL_vanMinute 56 = .ok (.aload_n 1, 1) := by decide +kernel
theorem dL_vanMinute_57 : decode cL_vanMinute 57 = .ok (.iload 5, 2) := by decide +kernel
theorem dL_vanMinute_59 : decode cL_vanMinute 59 = .ok (.iaload, 1) := by decide +kernel
theorem dL_vanMinute_60 : decode cL_vanMinute 60 = .ok (.aload_n 1, 1) := by decide +kernel
theorem dL_vanMinute_61 : decode cL_vanMinute 61 = .ok (.iload_n 3, 1) := by decide +kernel
theorem dL_vanMinute_62 : decode cL_vanMinute 62 = .ok (.iaload, 1) := by decide +kernel
theorem dL_vanMinute_63 : decode cL_vanMinute 63 = .ok (.if_icmp .le 38, 3) := by decide +kernel
theorem dL_vanMinute_66 : decode cL_vanMinute 66 = .ok (.aload_n 1, 1) := by decide +kernel
theorem dL_vanMinute_67 : decode cL_vanMinute 67 = .ok (.iload 5, 2) := by decide +kernel
theorem dL_vanMinute_69 : decode cL_vanMinute 69 = .ok (.iaload, 1) := by decide +kernel
theorem dL_vanMinute_70 : decode cL_vanMinute 70 = .ok (.aload_n 1, 1) := by decide +kernel
theorem dL_vanMinute_71 : decode cL_vanMinute 71 = .ok (.iload_n 3, 1) := by decide +kernel
theorem dL_vanMinute_72 : decode cL_vanMinute 72 = .ok (.iaload, 1) := by decide +kernel
theorem dL_vanMinute_73 : decode cL_vanMinute 73 = .ok (.isub, 1) := by decide +kernel
theorem dL_vanMinute_74 : decode cL_vanMinute 74 = .ok (.aload_n 1, 1) := by decide +kernel
theorem dL_vanMinute_75 : decode cL_vanMinute 75 = .ok (.iload_n 3, 1) := by decide +kernel
theorem dL_vanMinute_76 : decode cL_vanMinute 76 = .ok (.iconst 1, 1) := by decide +kernel
theorem dL_vanMinute_77 : decode cL_vanMinute 77 = .ok (.iadd, 1) := by decide +kernel
theorem dL_vanMinute_78 : decode cL_vanMinute 78 = .ok (.iaload, 1) := by decide +kernel
theorem dL_vanMinute_79 : decode cL_vanMinute 79 = .ok (.if_icmp .ge 9, 3) := by decide +kernel
theorem dL_vanMinute_82 : decode cL_vanMinute 82 = .ok (.aload_n 1, 1) := by decide +kernel
theorem dL_vanMinute_83 : decode cL_vanMinute 83 = .ok (.iload_n 3, 1) := by decide +kernel
theorem dL_vanMinute_84 : decode cL_vanMinute 84 = .ok (.iaload, 1) := by decide +kernel
theorem dL_vanMinute_85 : decode cL_vanMinute 85 = .ok (.goto 38, 3) := by decide +kernel
theorem dL_vanMinute_88 : decode cL_vanMinute 88 = .ok (.aload_n 1, 1) := by decide +kernel
theorem dL_vanMinute_89 : decode cL_vanMinute 89 = .ok (.iload 5, 2) := by decide +kernel
theorem dL_vanMinute_91 : decode cL_vanMinute 91 = .ok (.iaload, 1) := by decide +kernel
theorem dL_vanMinute_92 : decode cL_vanMinute 92 = .ok (.aload_n 1, 1) := by decide +kernel
theorem dL_vanMinute_93 : decode cL_vanMinute 93 = .ok (.iload_n 3, 1) := by decide +kernel
theorem dL_vanMinute_94 : decode cL_vanMinute 94 = .ok (.iconst 1, 1) := by decide +kernel
theorem dL_vanMinute_95 : decode cL_vanMinute 95 = .ok (.iadd, 1) := by decide +kernel
theorem dL_vanMinute_96 : decode cL_vanMinute 96 = .ok (.iaload, 1) := by decide +kernel
theorem dL_vanMinute_97 : decode cL_vanMinute 97 = .ok (.isub, 1) := by decide +kernel
theorem dL_vanMinute_98 : decode cL_vanMinute 98 = .ok (.goto 25, 3) := by decide +kernel
theorem dL_vanMinute_101 : decode cL_vanMinute 101 = .ok (.aload_n 1, 1) := by decide +kernel
theorem dL_vanMinute_102 : decode cL_vanMinute 102 = .ok (.iload 5, 2) := by decide +kernel
theorem dL_vanMinute_104 : decode cL_vanMinute 104 = .ok (.iaload, 1) := by decide +kernel
theorem dL_vanMinute_105 : decode cL_vanMinute 105 = .ok (.aload_n 1, 1) := by decide +kernel
theorem dL_vanMinute_106 : decode cL_vanMinute 106 = .ok (.iload_n 3, 1) := by decide +kernel
theorem dL_vanMinute_107 : decode cL_vanMinute 107 = .ok (.iaload, 1) := by decide +kernel
theorem dL_vanMinute_108 : decode cL_vanMinute 108 = .ok (.if_icmp .ge 12, 3) := by decide +kernel
theorem dL_vanMinute_111 : decode cL_vanMinute 111 = .ok (.aload_n 1, 1) := by decide +kernel
theorem dL_vanMinute_112 : decode cL_vanMinute 112 = .ok (.iload 5, 2) := by decide +kernel
theorem dL_vanMinute_114 : decode cL_vanMinute 114 = .ok (.iaload, 1) := by decide +kernel
theorem dL_vanMinute_115 : decode cL_vanMinute 115 = .ok (.iconst 1, 1) := by decide +kernel
theorem dL_vanMinute_116 : decode cL_vanMinute 116 = .ok (.iadd, 1) := by decide +kernel
theorem dL_vanMinute_117 : decode cL_vanMinute 117 = .ok (.goto 6, 3) := by decide +kernel
theorem dL_vanMinute_120 : decode cL_vanMinute 120 = .ok (.aload_n 1, 1) := by decide +kernel
theorem dL_vanMinute_121 : decode cL_vanMinute 121 = .ok (.iload_n 3, 1) := by decide +kernel
theorem dL_vanMinute_122 : decode cL_vanMinute 122 = .ok (.iaload, 1) := by decide +kernel
theorem dL_vanMinute_123 : decode cL_vanMinute 123 = .ok (.istore 7, 2) := by decide +kernel
theorem dL_vanMinute_125 : decode cL_vanMinute 125 = .ok (.aload_n 1, 1) := by decide +kernel
theorem dL_vanMinute_126 : decode cL_vanMinute 126 = .ok (.iload 5, 2) := by decide +kernel
theorem dL_vanMinute_128 : decode cL_vanMinute 128 = .ok (.aload_n 1, 1) := by decide +kernel
theorem dL_vanMinute_129 : decode cL_vanMinute 129 = .ok (.iload_n 3, 1) := by decide +kernel
theorem dL_vanMinute_130 : decode cL_vanMinute 130 = .ok (.iconst 2, 1) := by decide +kernel
theorem dL_vanMinute_131 : decode cL_vanMinute 131 = .ok (.iadd, 1) := by decide +kernel
theorem dL_vanMinute_132 : decode cL_vanMinute 132 = .ok (.iaload, 1) := by decide +kernel
theorem dL_vanMinute_133 : decode cL_vanMinute 133 = .ok (.iconst 1, 1) := by decide +kernel
theorem dL_vanMinute_134 : decode cL_vanMinute 134 = .ok (.if_icmp .ne 13, 3) := by decide +kernel
theorem dL_vanMinute_137 : decode cL_vanMinute 137 = .ok (.aload_n 1, 1) := by decide +kernel
theorem dL_vanMinute_138 : decode cL_vanMinute 138 = .ok (.iload 5, 2) := by decide +kernel
theorem dL_vanMinute_140 : decode cL_vanMinute 140 = .ok (.iaload, 1) := by decide +kernel
theorem dL_vanMinute_141 : decode cL_vanMinute 141 = .ok (.iload 6, 2) := by decide +kernel
theorem dL_vanMinute_143 : decode cL_vanMinute 143 = .ok (.iadd, 1) := by decide +kernel
theorem dL_vanMinute_144 : decode cL_vanMinute 144 = .ok (.goto 5, 3) := by decide +kernel
theorem dL_vanMinute_147 : decode cL_vanMinute 147 = .ok (.iload 7, 2) := by decide +kernel
theorem dL_vanMinute_149 : decode cL_vanMinute 149 = .ok (.iastore, 1) := by decide +kernel
theorem dL_vanMinute_150 : decode cL_vanMinute 150 = .ok (.iinc 4 1, 3) := by decide +kernel
theorem dL_vanMinute_153 : decode cL_vanMinute 153 = .ok (.goto (-145), 3) := by decide +kernel
theorem dL_vanMinute_156 : decode cL_vanMinute 156 = .ok (.iconst 0, 1) := by decide +kernel
theorem dL_vanMinute_157 : decode cL_vanMinute 157 = .ok (.istore 4, 2) := by decide +kernel
theorem dL_vanMinute_159 : decode cL_vanMinute 159 = .ok (.iload 4, 2) := by decide +kernel
theorem dL_vanMinute_161 : decode cL_vanMinute 161 = .ok (.iconst 2, 1) := by decide +kernel
theorem dL_vanMinute_162 : decode cL_vanMinute 162 = .ok (.if_icmp .ge 56, 3) := by decide +kernel
theorem dL_vanMinute_165 : decode cL_vanMinute 165 = .ok (.iconst 3, 1) := by decide +kernel
theorem dL_vanMinute_166 : decode cL_vanMinute 166 = .ok (.iload_n 2, 1) := by decide +kernel
theorem dL_vanMinute_167 : decode cL_vanMinute 167 = .ok (.imul, 1) := by decide +kernel
theorem dL_vanMinute_168 : decode cL_vanMinute 168 = .ok (.iload 4, 2) := by decide +kernel
theorem dL_vanMinute_170 : decode cL_vanMinute 170 = .ok (.iadd, 1) := by decide +kernel
theorem dL_vanMinute_171 : decode cL_vanMinute 171 = .ok (.invokestatic 9, 3) := by decide +kernel
theorem dL_vanMinute_174 : decode cL_vanMinute 174 = .ok (.istore 5, 2) := by decide +kernel
theorem dL_vanMinute_176 : decode cL_vanMinute 176 = .ok (.aload_n 1, 1) := by decide +kernel
theorem dL_vanMinute_177 : decode cL_vanMinute 177 = .ok (.iload 5, 2) := by decide +kernel
theorem dL_vanMinute_179 : decode cL_vanMinute 179 = .ok (.iaload, 1) := by decide +kernel
theorem dL_vanMinute_180 : decode cL_vanMinute 180 = .ok (.aload_n 1, 1) := by decide +kernel
theorem dL_vanMinute_181 : decode cL_vanMinute 181 = .ok (.iload 5, 2) := by decide +kernel
theorem dL_vanMinute_183 : decode cL_vanMinute 183 = .ok (.iconst 5, 1) := by decide +kernel
theorem dL_vanMinute_184 : decode cL_vanMinute 184 = .ok (.iadd, 1) := by decide +kernel
theorem dL_vanMinute_185 : decode cL_vanMinute 185 = .ok (.iaload, 1) := by decide +kernel
theorem dL_vanMinute_186 : decode cL_vanMinute 186 = .ok (.isub, 1) := by decide +kernel
theorem dL_vanMinute_187 : decode cL_vanMinute 187 = .ok (.bipush 10, 2) := by decide +kernel
theorem dL_vanMinute_189 : decode cL_vanMinute 189 = .ok (.idiv, 1) := by decide +kernel
theorem dL_vanMinute_190 : decode cL_vanMinute 190 = .ok (.istore 6, 2) := by decide +kernel
theorem dL_vanMinute_192 : decode cL_vanMinute 192 = .ok (.aload_n 1, 1) := by decide +kernel
theorem dL_vanMinute_193 : decode cL_vanMinute 193 = .ok (.iload 5, 2) := by decide +kernel
theorem dL_vanMinute_195 : decode cL_vanMinute 195 = .ok (.dup2, 1) := by decide +kernel
theorem dL_vanMinute_196 : decode cL_vanMinute 196 = .ok (.iaload, 1) := by decide +kernel
theorem dL_vanMinute_197 : decode cL_vanMinute 197 = .ok (.iload 6, 2) := by decide +kernel
theorem dL_vanMinute_199 : decode cL_vanMinute 199 = .ok (.isub, 1) := by decide +kernel
theorem dL_vanMinute_200 : decode cL_vanMinute 200 = .ok (.iastore, 1) := by decide +kernel
theorem dL_vanMinute_201 : decode cL_vanMinute 201 = .ok (.aload_n 1, 1) := by decide +kernel
theorem dL_vanMinute_202 : decode cL_vanMinute 202 = .ok (.iload 5, 2) := by decide +kernel
theorem dL_vanMinute_204 : decode cL_vanMinute 204 = .ok (.iconst 5, 1) := by decide +kernel
theorem dL_vanMinute_205 : decode cL_vanMinute 205 = .ok (.iadd, 1) := by decide +kernel
theorem dL_vanMinute_206 : decode cL_vanMinute 206 = .ok (.dup2, 1) := by decide +kernel
theorem dL_vanMinute_207 : decode cL_vanMinute 207 = .ok (.iaload, 1) := by decide +kernel
theorem dL_vanMinute_208 : decode cL_vanMinute 208 = .ok (.iload 6, 2) := by decide +kernel
theorem dL_vanMinute_210 : decode cL_vanMinute 210 = .ok (.iadd, 1) := by decide +kernel
theorem dL_vanMinute_211 : decode cL_vanMinute 211 = .ok (.iastore, 1) := by decide +kernel
theorem dL_vanMinute_212 : decode cL_vanMinute 212 = .ok (.iinc 4 1, 3) := by decide +kernel
theorem dL_vanMinute_215 : decode cL_vanMinute 215 = .ok (.goto (-56), 3) := by decide +kernel
theorem dL_vanMinute_218 : decode cL_vanMinute 218 = .ok (.iconst 0, 1) := by decide +kernel
theorem dL_vanMinute_219 : decode cL_vanMinute 219 = .ok (.istore 4, 2) := by decide +kernel
theorem dL_vanMinute_221 : decode cL_vanMinute 221 = .ok (.iconst 3, 1) := by decide +kernel
theorem dL_vanMinute_222 : decode cL_vanMinute 222 = .ok (.iload_n 2, 1) := by decide +kernel
theorem dL_vanMinute_223 : decode cL_vanMinute 223 = .ok (.imul, 1) := by decide +kernel
theorem dL_vanMinute_224 : decode cL_vanMinute 224 = .ok (.istore 5, 2) := by decide +kernel
theorem dL_vanMinute_226 : decode cL_vanMinute 226 = .ok (.iload 5, 2) := by decide +kernel
theorem dL_vanMinute_228 : decode cL_vanMinute 228 = .ok (.iconst 3, 1) := by decide +kernel
theorem dL_vanMinute_229 : decode cL_vanMinute 229 = .ok (.iload_n 2, 1) := by decide +kernel
theorem dL_vanMinute_230 : decode cL_vanMinute 230 = .ok (.imul, 1) := by decide +kernel
theorem dL_vanMinute_231 : decode cL_vanMinute 231 = .ok (.iconst 3, 1) := by decide +kernel
theorem dL_vanMinute_232 : decode cL_vanMinute 232 = .ok (.iadd, 1) := by decide +kernel
theorem dL_vanMinute_233 : decode cL_vanMinute 233 = .ok (.if_icmp .ge 117, 3) := by decide +kernel
theorem dL_vanMinute_236 : decode cL_vanMinute 236 = .ok (.iload 5, 2) := by decide +kernel
theorem dL_vanMinute_238 : decode cL_vanMinute 238 = .ok (.invokestatic 9, 3) := by decide +kernel
theorem dL_vanMinute_241 : decode cL_vanMinute 241 = .ok (.istore 6, 2) := by decide +kernel
theorem dL_vanMinute_243 : decode cL_vanMinute 243 = .ok (.aload_n 1, 1) := by decide +kernel
theorem dL_vanMinute_244 : decode cL_vanMinute 244 = .ok (.iload 6, 2) := by decide +kernel
theorem dL_vanMinute_246 : decode cL_vanMinute 246 = .ok (.iconst 4, 1) := by decide +kernel
theorem dL_vanMinute_247 : decode cL_vanMinute 247 = .ok (.iadd, 1) := by decide +kernel
theorem dL_vanMinute_248 : decode cL_vanMinute 248 = .ok (.aload_n 0, 1) := by decide +kernel
theorem dL_vanMinute_249 : decode cL_vanMinute 249 = .ok (.aload_n 1, 1) := by decide +kernel
theorem dL_vanMinute_250 : decode cL_vanMinute 250 = .ok (.iload 5, 2) := by decide +kernel
theorem dL_vanMinute_252 : decode cL_vanMinute 252 = .ok (.invokestatic 23, 3) := by decide +kernel
theorem dL_vanMinute_255 : decode cL_vanMinute 255 = .ok (.ifCond .eq 14, 3) := by decide +kernel
theorem dL_vanMinute_258 : decode cL_vanMinute 258 = .ok (.aload_n 1, 1) := by decide +kernel
theorem dL_vanMinute_259 : decode cL_vanMinute 259 = .ok (.iload 6, 2) := by decide +kernel
theorem dL_vanMinute_261 : decode cL_vanMinute 261 = .ok (.iconst 4, 1) := by decide +kernel
theorem dL_vanMinute_262 : decode cL_vanMinute 262 = .ok (.iadd, 1) := by decide +kernel
theorem dL_vanMinute_263 : decode cL_vanMinute 263 = .ok (.iaload, 1) := by decide +kernel
theorem dL_vanMinute_264 : decode cL_vanMinute 264 = .ok (.iconst 1, 1) := by decide +kernel
theorem dL_vanMinute_265 : decode cL_vanMinute 265 = .ok (.iadd, 1) := by decide +kernel
theorem dL_vanMinute_266 : decode cL_vanMinute 266 = .ok (.goto 4, 3) := by decide +kernel
theorem dL_vanMinute_269 : decode cL_vanMinute 269 = .ok (.iconst 0, 1) := by decide +kernel
theorem dL_vanMinute_270 : decode cL_vanMinute 270 = .ok (.iastore, 1) := by decide +kernel
theorem dL_vanMinute_271 : decode cL_vanMinute 271 = .ok (.aload_n 1, 1) := by decide +kernel
theorem dL_vanMinute_272 : decode cL_vanMinute 272 = .ok (.iload 6, 2) := by decide +kernel
theorem dL_vanMinute_274 : decode cL_vanMinute 274 = .ok (.iconst 4, 1) := by decide +kernel
theorem dL_vanMinute_275 : decode cL_vanMinute 275 = .ok (.iadd, 1) := by decide +kernel
theorem dL_vanMinute_276 : decode cL_vanMinute 276 = .ok (.iaload, 1) := by decide +kernel
theorem dL_vanMinute_277 : decode cL_vanMinute 277 = .ok (.ifCond .le 28, 3) := by decide +kernel
theorem dL_vanMinute_280 : decode cL_vanMinute 280 = .ok (.aload_n 1, 1) := by decide +kernel
theorem dL_vanMinute_281 : decode cL_vanMinute 281 = .ok (.iload 6, 2) := by decide +kernel
theorem dL_vanMinute_283 : decode cL_vanMinute 283 = .ok (.iconst 4, 1) := by decide +kernel
theorem dL_vanMinute_284 : decode cL_vanMinute 284 = .ok (.iadd, 1) := by decide +kernel
theorem dL_vanMinute_285 : decode cL_vanMinute 285 = .ok (.iaload, 1) := by decide +kernel
theorem dL_vanMinute_286 : decode cL_vanMinute 286 = .ok (.aload_n 0, 1) := by decide +kernel
theorem dL_vanMinute_287 : decode cL_vanMinute 287 = .ok (.iconst 5, 1) := by decide +kernel
theorem dL_vanMinute_288 : decode cL_vanMinute 288 = .ok (.iaload, 1) := by decide +kernel
theorem dL_vanMinute_289 : decode cL_vanMinute 289 = .ok (.if_icmp .lt 16, 3) := by decide +kernel
theorem dL_vanMinute_292 : decode cL_vanMinute 292 = .ok (.aload_n 1, 1) := by decide +kernel
theorem dL_vanMinute_293 : decode cL_vanMinute 293 = .ok (.iload 6, 2) := by decide +kernel
theorem dL_vanMinute_295 : decode cL_vanMinute 295 = .ok (.iconst 3, 1) := by decide +kernel
theorem dL_vanMinute_296 : decode cL_vanMinute 296 = .ok (.iadd, 1) := by decide +kernel
theorem dL_vanMinute_297 : decode cL_vanMinute 297 = .ok (.iaload, 1) := by decide +kernel
theorem dL_vanMinute_298 : decode cL_vanMinute 298 = .ok (.ifCond .ne 7, 3) := by decide +kernel
theorem dL_vanMinute_301 : decode cL_vanMinute 301 = .ok (.iconst 1, 1) := by decide +kernel
theorem dL_vanMinute_302 : decode cL_vanMinute 302 = .ok (.goto 4, 3) := by decide +kernel
theorem dL_vanMinute_305 : decode cL_vanMinute 305 = .ok (.iconst 0, 1) := by decide +kernel
theorem dL_vanMinute_306 : decode cL_vanMinute 306 = .ok (.istore 7, 2) := by decide +kernel
theorem dL_vanMinute_308 : decode cL_vanMinute 308 = .ok (.aload_n 1, 1) := by decide +kernel
theorem dL_vanMinute_309 : decode cL_vanMinute 309 = .ok (.iload 6, 2) := by decide +kernel
theorem dL_vanMinute_311 : decode cL_vanMinute 311 = .ok (.iconst 3, 1) := by decide +kernel
theorem dL_vanMinute_312 : decode cL_vanMinute 312 = .ok (.iadd, 1) := by decide +kernel
theorem dL_vanMinute_313 : decode cL_vanMinute 313 = .ok (.iload 7, 2) := by decide +kernel
theorem dL_vanMinute_315 : decode cL_vanMinute 315 = .ok (.ifCond .eq 7, 3) := by decide +kernel
theorem dL_vanMinute_318 : decode cL_vanMinute 318 = .ok (.iconst 1, 1) := by decide +kernel
theorem dL_vanMinute_319 : decode cL_vanMinute 319 = .ok (.goto 9, 3) := by decide +kernel
theorem dL_vanMinute_322 : decode cL_vanMinute 322 = .ok (.aload_n 1, 1) := by decide +kernel
theorem dL_vanMinute_323 : decode cL_vanMinute 323 = .ok (.iload 6, 2) := by decide +kernel
theorem dL_vanMinute_325 : decode cL_vanMinute 325 = .ok (.iconst 3, 1) := by decide +kernel
theorem dL_vanMinute_326 : decode cL_vanMinute 326 = .ok (.iadd, 1) := by decide +kernel
theorem dL_vanMinute_327 : decode cL_vanMinute 327 = .ok (.iaload, 1) := by decide +kernel
theorem dL_vanMinute_328 : decode cL_vanMinute 328 = .ok (.iastore, 1) := by decide +kernel
theorem dL_vanMinute_329 : decode cL_vanMinute 329 = .ok (.iload 4, 2) := by decide +kernel
theorem dL_vanMinute_331 : decode cL_vanMinute 331 = .ok (.iload 7, 2) := by decide +kernel
theorem dL_vanMinute_333 : decode cL_vanMinute 333 = .ok (.ifCond .eq 7, 3) := by decide +kernel
theorem dL_vanMinute_336 : decode cL_vanMinute 336 = .ok (.iconst 1, 1) := by decide +kernel
theorem dL_vanMinute_337 : decode cL_vanMinute 337 = .ok (.goto 4, 3) := by decide +kernel
theorem dL_vanMinute_340 : decode cL_vanMinute 340 = .ok (.iconst 0, 1) := by decide +kernel
theorem dL_vanMinute_341 : decode cL_vanMinute 341 = .ok (.iadd, 1) := by decide +kernel
theorem dL_vanMinute_342 : decode cL_vanMinute 342 = .ok (.istore 4, 2) := by decide +kernel
theorem dL_vanMinute_344 : decode cL_vanMinute 344 = .ok (.iinc 5 1, 3) := by decide +kernel
theorem dL_vanMinute_347 : decode cL_vanMinute 347 = .ok (.goto (-121), 3) := by decide +kernel
theorem dL_vanMinute_350 : decode cL_vanMinute 350 = .ok (.iload 4, 2) := by decide +kernel
theorem dL_vanMinute_352 : decode cL_vanMinute 352 = .ok (.ireturn, 1) := by decide +kernel
theorem dL_passes_0 : decode cL_passes 0 = .ok (.iconst 0, 1) := by decide +kernel
theorem dL_passes_1 : decode cL_passes 1 = .ok (.istore 4, 2) := by decide +kernel
theorem dL_passes_3 : decode cL_passes 3 = .ok (.iconst 0, 1) := by decide +kernel
theorem dL_passes_4 : decode cL_passes 4 = .ok (.istore 5, 2) := by decide +kernel
theorem dL_passes_6 : decode cL_passes 6 = .ok (.iload 5, 2) := by decide +kernel
theorem dL_passes_8 : decode cL_passes 8 = .ok (.iload_n 3, 1) := by decide +kernel
theorem dL_passes_9 : decode cL_passes 9 = .ok (.if_icmp .ge 181, 3) := by decide +kernel
theorem dL_passes_12 : decode cL_passes 12 = .ok (.aload_n 0, 1) := by decide +kernel
theorem dL_passes_13 : decode cL_passes 13 = .ok (.iconst 2, 1) := by decide +kernel
theorem dL_passes_14 : decode cL_passes 14 = .ok (.dup2, 1) := by decide +kernel
theorem dL_passes_15 : decode cL_passes 15 = .ok (.iaload, 1) := by decide +kernel
theorem dL_passes_16 : decode cL_passes 16 = .ok (.iconst 1, 1) := by decide +kernel
theorem dL_passes_17 : decode cL_passes 17 = .ok (.iadd, 1) := by decide +kernel
theorem dL_passes_18 : decode cL_passes 18 = .ok (.iastore, 1) := by decide +kernel
theorem dL_passes_19 : decode cL_passes 19 = .ok (.iconst 0, 1) := by decide +kernel
theorem dL_passes_20 : decode cL_passes 20 = .ok (.istore 6, 2) := by decide +kernel
theorem dL_passes_22 : decode cL_passes 22 = .ok (.iload 6, 2) := by decide +kernel
theorem dL_passes_24 : decode cL_passes 24 = .ok (.aload_n 0, 1) := by decide +kernel
theorem dL_passes_25 : decode cL_passes 25 = .ok (.iconst 0, 1) := by decide +kernel
theorem dL_passes_26 : decode cL_passes 26 = .ok (.iaload, 1) := by decide +kernel
theorem dL_passes_27 : decode cL_passes 27 = .ok (.if_icmp .ge 21, 3) := by decide +kernel
theorem dL_passes_30 : decode cL_passes 30 = .ok (.iload 4, 2) := by decide +kernel
theorem dL_passes_32 : decode cL_passes 32 = .ok (.aload_n 0, 1) := by decide +kernel
theorem dL_passes_33 : decode cL_passes 33 = .ok (.aload_n 1, 1) := by decide +kernel
theorem dL_passes_34 : decode cL_passes 34 = .ok (.iload 6, 2) := by decide +kernel
theorem dL_passes_36 : decode cL_passes 36 = .ok (.invokestatic 27, 3) := by decide +kernel
theorem dL_passes_39 : decode cL_passes 39 = .ok (.iadd, 1) := by decide +kernel
theorem dL_passes_40 : decode cL_passes 40 = .ok (.istore 4, 2) := by decide +kernel
theorem dL_passes_42 : decode cL_passes 42 = .ok (.iinc 6 1, 3) := by decide +kernel
theorem dL_passes_45 : decode cL_passes 45 = .ok (.goto (-23), 3) := by decide +kernel
theorem dL_passes_48 : decode cL_passes 48 = .ok (.iconst 0, 1) := by decide +kernel
theorem dL_passes_49 : decode cL_passes 49 = .ok (.istore 6, 2) := by decide +kernel
theorem dL_passes_51 : decode cL_passes 51 = .ok (.iload 6, 2) := by decide +kernel
theorem dL_passes_53 : decode cL_passes 53 = .ok (.aload_n 0, 1) := by decide +kernel
theorem dL_passes_54 : decode cL_passes 54 = .ok (.iconst 1, 1) := by decide +kernel
theorem dL_passes_55 : decode cL_passes 55 = .ok (.iaload, 1) := by decide +kernel
theorem dL_passes_56 : decode cL_passes 56 = .ok (.if_icmp .ge 128, 3) := by decide +kernel
theorem dL_passes_59 : decode cL_passes 59 = .ok (.bipush 10, 2) := by decide +kernel
theorem dL_passes_61 : decode cL_passes 61 = .ok (.iload 6, 2) := by decide +kernel
theorem dL_passes_63 : decode cL_passes 63 = .ok (.imul, 1) := by decide +kernel
theorem dL_passes_64 : decode cL_passes 64 = .ok (.istore 7, 2) := by decide +kernel
theorem dL_passes_66 : decode cL_passes 66 = .ok (.aload_n 2, 1) := by decide +kernel
theorem dL_passes_67 : decode cL_passes 67 = .ok (.iload 7, 2) := by decide +kernel
theorem dL_passes_69 : decode cL_passes 69 = .ok (.iconst 4, 1) := by decide +kernel
theorem dL_passes_70 : decode cL_passes 70 = .ok (.iadd, 1) := by decide +kernel
theorem dL_passes_71 : decode cL_passes 71 = .ok (.iaload, 1) := by decide +kernel
theorem dL_passes_72 : decode cL_passes 72 = .ok (.ifCond .ne 106, 3) := by decide +kernel
theorem dL_passes_75 : decode cL_passes 75 = .ok (.aload_n 1, 1) := by decide +kernel
theorem dL_passes_76 : decode cL_passes 76 = .ok (.aload_n 2, 1) := by decide +kernel
theorem dL_passes_77 : decode cL_passes 77 = .ok (.iload 7, 2) := by decide +kernel
theorem dL_passes_79 : decode cL_passes 79 = .ok (.iaload, 1) := by decide +kernel
theorem dL_passes_80 : decode cL_passes 80 = .ok (.invokestatic 9, 3) := by decide +kernel
theorem dL_passes_83 : decode cL_passes 83 = .ok (.iaload, 1) := by decide +kernel
theorem dL_passes_84 : decode cL_passes 84 = .ok (.aload_n 2, 1) := by decide +kernel
theorem dL_passes_85 : decode cL_passes 85 = .ok (.iload 7, 2) := by decide +kernel
theorem dL_passes_87 : decode cL_passes 87 = .ok (.iconst 1, 1) := by decide +kernel
theorem dL_passes_88 : decode cL_passes 88 = .ok (.iadd, 1) := by decide +kernel
theorem dL_passes_89 : decode cL_passes 89 = .ok (.iaload, 1) := by decide +kernel
theorem dL_passes_90 : decode cL_passes 90 = .ok (.if_icmp .le 7, 3) := by decide +kernel
theorem dL_passes_93 : decode cL_passes 93 = .ok (.iconst 1, 1) := by decide +kernel
theorem dL_passes_94 : decode cL_passes 94 = .ok (.goto 4, 3) := by decide +kernel
theorem dL_passes_97 : decode cL_passes 97 = .ok (.iconst 0, 1) := by decide +kernel
theorem dL_passes_98 : decode cL_passes 98 = .ok (.istore 8, 2) := by decide +kernel
theorem dL_passes_100 : decode cL_passes 100 = .ok (.aload_n 1, 1) := by decide +kernel
theorem dL_passes_101 : decode cL_passes 101 = .ok (.bipush 19, 2) := by decide +kernel
theorem dL_passes_103 : decode cL_passes 103 = .ok (.aload_n 2, 1) := by decide +kernel
theorem dL_passes_104 : decode cL_passes 104 = .ok (.iload 7, 2) := by decide +kernel
theorem dL_passes_106 : decode cL_passes 106 = .ok (.iaload, 1) := by decide +kernel
theorem dL_passes_107 : decode cL_passes 107 = .ok (.iconst 3, 1) := by decide +kernel
theorem dL_passes_108 : decode cL_passes 108 = .ok (.idiv, 1) := by decide +kernel
theorem dL_passes_109 : decode cL_passes 109 = .ok (.imul, 1) := by decide +kernel
theorem dL_passes_110 : decode cL_passes 110 = .ok (.iconst 2, 1) := by decide +kernel
theorem dL_passes_111 : decode cL_passes 111 = .ok (.iadd, 1) := by decide +kernel
theorem dL_passes_112 : decode cL_passes 112 = .ok (.iaload, 1) := by decide +kernel
theorem dL_passes_113 : decode cL_passes 113 = .ok (.istore 9, 2) := by decide +kernel
theorem dL_passes_115 : decode cL_passes 115 = .ok (.aload_n 2, 1) := by decide +kernel
theorem dL_passes_116 : decode cL_passes 116 = .ok (.iload 7, 2) := by decide +kernel
theorem dL_passes_118 : decode cL_passes 118 = .ok (.iconst 5, 1) := by decide +kernel
theorem dL_passes_119 : decode cL_passes 119 = .ok (.iadd, 1) := by decide +kernel
theorem dL_passes_120 : decode cL_passes 120 = .ok (.dup2, 1) := by decide +kernel
theorem dL_passes_121 : decode cL_passes 121 = .ok (.iaload, 1) := by decide +kernel
theorem dL_passes_122 : decode cL_passes 122 = .ok (.iload 8, 2) := by decide +kernel
theorem dL_passes_124 : decode cL_passes 124 = .ok (.iload 9, 2) := by decide +kernel
theorem dL_passes_126 : decode cL_passes 126 = .ok (.imul, 1) := by decide +kernel
theorem dL_passes_127 : decode cL_passes 127 = .ok (.iadd, 1) := by decide +kernel
theorem dL_passes_128 : decode cL_passes 128 = .ok (.iastore, 1) := by decide +kernel
theorem dL_passes_129 : decode cL_passes 129 = .ok (.aload_n 2, 1) := by decide +kernel
theorem dL_passes_130 : decode cL_passes 130 = .ok (.iload 7, 2) := by decide +kernel
theorem dL_passes_132 : decode cL_passes 132 = .ok (.bipush 6, 2) := by decide +kernel
theorem dL_passes_134 : decode cL_passes 134 = .ok (.iadd, 1) := by decide +kernel
theorem dL_passes_135 : decode cL_passes 135 = .ok (.dup2, 1) := by decide +kernel
theorem dL_passes_136 : decode cL_passes 136 = .ok (.iaload, 1) := by decide +kernel
theorem dL_passes_137 : decode cL_passes 137 = .ok (.iload 8, 2) := by decide +kernel
theorem dL_passes_139 : decode cL_passes 139 = .ok (.iconst 1, 1) := by decide +kernel
theorem dL_passes_140 : decode cL_passes 140 = .ok (.iload 9, 2) := by decide +kernel
theorem dL_passes_142 : decode cL_passes 142 = .ok (.isub, 1) := by decide +kernel
theorem dL_passes_143 : decode cL_passes 143 = .ok (.imul, 1) := by decide +kernel
theorem dL_passes_144 : decode cL_passes 144 = .ok (.iadd, 1) := by decide +kernel
theorem dL_passes_145 : decode cL_passes 145 = .ok (.iastore, 1) := by decide +kernel
theorem dL_passes_146 : decode cL_passes 146 = .ok (.aload_n 2, 1) := by decide +kernel
theorem dL_passes_147 : decode cL_passes 147 = .ok (.iload 7, 2) := by decide +kernel
theorem dL_passes_149 : decode cL_passes 149 = .ok (.bipush 7, 2) := by decide +kernel
theorem dL_passes_151 : decode cL_passes 151 = .ok (.iadd, 1) := by decide +kernel
theorem dL_passes_152 : decode cL_passes 152 = .ok (.dup2, 1) := by decide +kernel
theorem dL_passes_153 : decode cL_passes 153 = .ok (.iaload, 1) := by decide +kernel
theorem dL_passes_154 : decode cL_passes 154 = .ok (.aload_n 1, 1) := by decide +kernel
theorem dL_passes_155 : decode cL_passes 155 = .ok (.aload_n 2, 1) := by decide +kernel
theorem dL_passes_156 : decode cL_passes 156 = .ok (.iload 7, 2) := by decide +kernel
theorem dL_passes_158 : decode cL_passes 158 = .ok (.iaload, 1) := by decide +kernel
theorem dL_passes_159 : decode cL_passes 159 = .ok (.invokestatic 31, 3) := by decide +kernel
theorem dL_passes_162 : decode cL_passes 162 = .ok (.aload_n 2, 1) := by decide +kernel
theorem dL_passes_163 : decode cL_passes 163 = .ok (.iload 7, 2) := by decide +kernel
theorem dL_passes_165 : decode cL_passes 165 = .ok (.iconst 1, 1) := by decide +kernel
theorem dL_passes_166 : decode cL_passes 166 = .ok (.iadd, 1) := by decide +kernel
theorem dL_passes_167 : decode cL_passes 167 = .ok (.iaload, 1) := by decide +kernel
theorem dL_passes_168 : decode cL_passes 168 = .ok (.if_icmp .le 7, 3) := by decide +kernel
theorem dL_passes_171 : decode cL_passes 171 = .ok (.iconst 1, 1) := by decide +kernel
theorem dL_passes_172 : decode cL_passes 172 = .ok (.goto 4, 3) := by decide +kernel
theorem dL_passes_175 : decode cL_passes 175 = .ok (.iconst 0, 1) := by decide +kernel
theorem dL_passes_176 : decode cL_passes 176 = .ok (.iadd, 1) := by decide +kernel
theorem dL_passes_177 : decode cL_passes 177 = .ok (.iastore, 1) := by decide +kernel
theorem dL_passes_178 : decode cL_passes 178 = .ok (.iinc 6 1, 3) := by decide +kernel
theorem dL_passes_181 : decode cL_passes 181 = .ok (.goto (-130), 3) := by decide +kernel
theorem dL_passes_184 : decode cL_passes 184 = .ok (.iinc 5 1, 3) := by decide +kernel
theorem dL_passes_187 : decode cL_passes 187 = .ok (.goto (-181), 3) := by decide +kernel
theorem dL_passes_190 : decode cL_passes 190 = .ok (.iload 4, 2) := by decide +kernel
theorem dL_passes_192 : decode cL_passes 192 = .ok (.ireturn, 1) := by decide +kernel
theorem dL_inside_0 : decode cL_inside 0 = .ok (.iconst 0, 1) := by decide +kernel
theorem dL_inside_1 : decode cL_inside 1 = .ok (.istore_n 3, 1) := by decide +kernel
theorem dL_inside_2 : decode cL_inside 2 = .ok (.iconst 0, 1) := by decide +kernel
theorem dL_inside_3 : decode cL_inside 3 = .ok (.istore 4, 2) := by decide +kernel
theorem dL_inside_5 : decode cL_inside 5 = .ok (.iload 4, 2) := by decide +kernel
theorem dL_inside_7 : decode cL_inside 7 = .ok (.aload_n 0, 1) := by decide +kernel
theorem dL_inside_8 : decode cL_inside 8 = .ok (.iconst 1, 1) := by decide +kernel
theorem dL_inside_9 : decode cL_inside 9 = .ok (.iaload, 1) := by decide +kernel
theorem dL_inside_10 : decode cL_inside 10 = .ok (.if_icmp .ge 45, 3) := by decide +kernel
theorem dL_inside_13 : decode cL_inside 13 = .ok (.iload_n 3, 1) := by decide +kernel
theorem dL_inside_14 : decode cL_inside 14 = .ok (.aload_n 1, 1) := by decide +kernel
theorem dL_inside_15 : decode cL_inside 15 = .ok (.bipush 10, 2) := by decide +kernel
theorem dL_inside_17 : decode cL_inside 17 = .ok (.iload 4, 2) := by decide +kernel
theorem dL_inside_19 : decode cL_inside 19 = .ok (.imul, 1) := by decide +kernel
theorem dL_inside_20 : decode cL_inside 20 = .ok (.iconst 4, 1) := by decide +kernel
theorem dL_inside_21 : decode cL_inside 21 = .ok (.iadd, 1) := by decide +kernel
theorem dL_inside_22 : decode cL_inside 22 = .ok (.iaload, 1) := by decide +kernel
theorem dL_inside_23 : decode cL_inside 23 = .ok (.ifCond .ne 23, 3) := by decide +kernel
theorem dL_inside_26 : decode cL_inside 26 = .ok (.aload_n 1, 1) := by decide +kernel
theorem dL_inside_27 : decode cL_inside 27 = .ok (.bipush 10, 2) := by decide +kernel
theorem dL_inside_29 : decode cL_inside 29 = .ok (.iload 4, 2) := by decide +kernel
theorem dL_inside_31 : decode cL_inside 31 = .ok (.imul, 1) := by decide +kernel
theorem dL_inside_32 : decode cL_inside 32 = .ok (.iaload, 1) := by decide +kernel
theorem dL_inside_33 : decode cL_inside 33 = .ok (.iconst 3, 1) := by decide +kernel
theorem dL_inside_34 : decode cL_inside 34 = .ok (.idiv, 1) := by decide +kernel
theorem dL_inside_35 : decode cL_inside 35 = .ok (.iload_n 2, 1) := by decide +kernel
theorem dL_inside_36 : decode cL_inside 36 = .ok (.if_icmp .ne 10, 3) := by decide +kernel
theorem dL_inside_39 : decode cL_inside 39 = .ok (.iconst 1, 1) := by decide +kernel
theorem dL_inside_40 : decode cL_inside 40 = .ok (.iload 4, 2) := by decide +kernel
theorem dL_inside_42 : decode cL_inside 42 = .ok (.ishl, 1) := by decide +kernel
theorem dL_inside_43 : decode cL_inside 43 = .ok (.goto 4, 3) := by decide +kernel
theorem dL_inside_46 : decode cL_inside 46 = .ok (.iconst 0, 1) := by decide +kernel
theorem dL_inside_47 : decode cL_inside 47 = .ok (.ior, 1) := by decide +kernel
theorem dL_inside_48 : decode cL_inside 48 = .ok (.istore_n 3, 1) := by decide +kernel
theorem dL_inside_49 : decode cL_inside 49 = .ok (.iinc 4 1, 3) := by decide +kernel
theorem dL_inside_52 : decode cL_inside 52 = .ok (.goto (-47), 3) := by decide +kernel
theorem dL_inside_55 : decode cL_inside 55 = .ok (.iload_n 3, 1) := by decide +kernel
theorem dL_inside_56 : decode cL_inside 56 = .ok (.ireturn, 1) := by decide +kernel
theorem dL_many_0 : decode cL_many 0 = .ok (.iconst 0, 1) := by decide +kernel
theorem dL_many_1 : decode cL_many 1 = .ok (.istore_n 1, 1) := by decide +kernel
theorem dL_many_2 : decode cL_many 2 = .ok (.iload_n 0, 1) := by decide +kernel
theorem dL_many_3 : decode cL_many 3 = .ok (.istore_n 2, 1) := by decide +kernel
theorem dL_many_4 : decode cL_many 4 = .ok (.iload_n 2, 1) := by decide +kernel
theorem dL_many_5 : decode cL_many 5 = .ok (.ifCond .le 15, 3) := by decide +kernel
theorem dL_many_8 : decode cL_many 8 = .ok (.iinc 1 1, 3) := by decide +kernel
theorem dL_many_11 : decode cL_many 11 = .ok (.iload_n 2, 1) := by decide +kernel
theorem dL_many_12 : decode cL_many 12 = .ok (.iload_n 2, 1) := by decide +kernel
theorem dL_many_13 : decode cL_many 13 = .ok (.iconst 1, 1) := by decide +kernel
theorem dL_many_14 : decode cL_many 14 = .ok (.isub, 1) := by decide +kernel
theorem dL_many_15 : decode cL_many 15 = .ok (.iand, 1) := by decide +kernel
theorem dL_many_16 : decode cL_many 16 = .ok (.istore_n 2, 1) := by decide +kernel
theorem dL_many_17 : decode cL_many 17 = .ok (.goto (-13), 3) := by decide +kernel
theorem dL_many_20 : decode cL_many 20 = .ok (.iload_n 1, 1) := by decide +kernel
theorem dL_many_21 : decode cL_many 21 = .ok (.ireturn, 1) := by decide +kernel
theorem dL_adds_0 : decode cL_adds 0 = .ok (.bipush 19, 2) := by decide +kernel
theorem dL_adds_2 : decode cL_adds 2 = .ok (.aload_n 1, 1) := by decide +kernel
theorem dL_adds_3 : decode cL_adds 3 = .ok (.iconst 0, 1) := by decide +kernel
theorem dL_adds_4 : decode cL_adds 4 = .ok (.iaload, 1) := by decide +kernel
theorem dL_adds_5 : decode cL_adds 5 = .ok (.imul, 1) := by decide +kernel
theorem dL_adds_6 : decode cL_adds 6 = .ok (.istore 5, 2) := by decide +kernel
theorem dL_adds_8 : decode cL_adds 8 = .ok (.iconst 0, 1) := by decide +kernel
theorem dL_adds_9 : decode cL_adds 9 = .ok (.istore 6, 2) := by decide +kernel
theorem dL_adds_11 : decode cL_adds 11 = .ok (.iload 6, 2) := by decide +kernel
theorem dL_adds_13 : decode cL_adds 13 = .ok (.bipush 19, 2) := by decide +kernel
theorem dL_adds_15 : decode cL_adds 15 = .ok (.if_icmp .ge 41, 3) := by decide +kernel
theorem dL_adds_18 : decode cL_adds 18 = .ok (.aload_n 2, 1) := by decide +kernel
theorem dL_adds_19 : decode cL_adds 19 = .ok (.iload 5, 2) := by decide +kernel
theorem dL_adds_21 : decode cL_adds 21 = .ok (.iload 6, 2) := by decide +kernel
theorem dL_adds_23 : decode cL_adds 23 = .ok (.iadd, 1) := by decide +kernel
theorem dL_adds_24 : decode cL_adds 24 = .ok (.iload 6, 2) := by decide +kernel
theorem dL_adds_26 : decode cL_adds 26 = .ok (.ifCond .eq 18, 3) := by decide +kernel
theorem dL_adds_29 : decode cL_adds 29 = .ok (.iload 6, 2) := by decide +kernel
theorem dL_adds_31 : decode cL_adds 31 = .ok (.iconst 3, 1) := by decide +kernel
theorem dL_adds_32 : decode cL_adds 32 = .ok (.if_icmp .le 16, 3) := by decide +kernel
theorem dL_adds_35 : decode cL_adds 35 = .ok (.iload 6, 2) := by decide +kernel
theorem dL_adds_37 : decode cL_adds 37 = .ok (.iconst 4, 1) := by decide +kernel
theorem dL_adds_38 : decode cL_adds 38 = .ok (.isub, 1) := by decide +kernel
theorem dL_adds_39 : decode cL_adds 39 = .ok (.iconst 5, 1) := by decide +kernel
theorem dL_adds_40 : decode cL_adds 40 = .ok (.irem, 1) := by decide +kernel
theorem dL_adds_41 : decode cL_adds 41 = .ok (.ifCond .ne 7, 3) := by decide +kernel
theorem dL_adds_44 : decode cL_adds 44 = .ok (.iload_n 3, 1) := by decide +kernel
theorem dL_adds_45 : decode cL_adds 45 = .ok (.goto 4, 3) := by decide +kernel
theorem dL_adds_48 : decode cL_adds 48 = .ok (.iconst 0, 1) := by decide +kernel
theorem dL_adds_49 : decode cL_adds 49 = .ok (.iastore, 1) := by decide +kernel
theorem dL_adds_50 : decode cL_adds 50 = .ok (.iinc 6 1, 3) := by decide +kernel
theorem dL_adds_53 : decode cL_adds 53 = .ok (.goto (-42), 3) := by decide +kernel
theorem dL_adds_56 : decode cL_adds 56 = .ok (.aload_n 2, 1) := by decide +kernel
theorem dL_adds_57 : decode cL_adds 57 = .ok (.iload 5, 2) := by decide +kernel
theorem dL_adds_59 : decode cL_adds 59 = .ok (.iconst 1, 1) := by decide +kernel
theorem dL_adds_60 : decode cL_adds 60 = .ok (.iadd, 1) := by decide +kernel
theorem dL_adds_61 : decode cL_adds 61 = .ok (.iload 4, 2) := by decide +kernel
theorem dL_adds_63 : decode cL_adds 63 = .ok (.iastore, 1) := by decide +kernel
theorem dL_adds_64 : decode cL_adds 64 = .ok (.aload_n 2, 1) := by decide +kernel
theorem dL_adds_65 : decode cL_adds 65 = .ok (.iload 5, 2) := by decide +kernel
theorem dL_adds_67 : decode cL_adds 67 = .ok (.iconst 3, 1) := by decide +kernel
theorem dL_adds_68 : decode cL_adds 68 = .ok (.iadd, 1) := by decide +kernel
theorem dL_adds_69 : decode cL_adds 69 = .ok (.aload_n 1, 1) := by decide +kernel
theorem dL_adds_70 : decode cL_adds 70 = .ok (.iconst 2, 1) := by decide +kernel
theorem dL_adds_71 : decode cL_adds 71 = .ok (.iaload, 1) := by decide +kernel
theorem dL_adds_72 : decode cL_adds 72 = .ok (.iastore, 1) := by decide +kernel
theorem dL_adds_73 : decode cL_adds 73 = .ok (.aload_n 1, 1) := by decide +kernel
theorem dL_adds_74 : decode cL_adds 74 = .ok (.iconst 0, 1) := by decide +kernel
theorem dL_adds_75 : decode cL_adds 75 = .ok (.dup2, 1) := by decide +kernel
theorem dL_adds_76 : decode cL_adds 76 = .ok (.iaload, 1) := by decide +kernel
theorem dL_adds_77 : decode cL_adds 77 = .ok (.iconst 1, 1) := by decide +kernel
theorem dL_adds_78 : decode cL_adds 78 = .ok (.iadd, 1) := by decide +kernel
theorem dL_adds_79 : decode cL_adds 79 = .ok (.iastore, 1) := by decide +kernel
theorem dL_adds_80 : decode cL_adds 80 = .ok (.aload_n 0, 1) := by decide +kernel
theorem dL_adds_81 : decode cL_adds 81 = .ok (.iload_n 3, 1) := by decide +kernel
theorem dL_adds_82 : decode cL_adds 82 = .ok (.iload 4, 2) := by decide +kernel
theorem dL_adds_84 : decode cL_adds 84 = .ok (.invokevirtual 34, 3) := by decide +kernel
theorem dL_adds_87 : decode cL_adds 87 = .ok (.aload_n 1, 1) := by decide +kernel
theorem dL_adds_88 : decode cL_adds 88 = .ok (.iconst 0, 1) := by decide +kernel
theorem dL_adds_89 : decode cL_adds 89 = .ok (.iaload, 1) := by decide +kernel
theorem dL_adds_90 : decode cL_adds 90 = .ok (.iconst 1, 1) := by decide +kernel
theorem dL_adds_91 : decode cL_adds 91 = .ok (.isub, 1) := by decide +kernel
theorem dL_adds_92 : decode cL_adds 92 = .ok (.if_icmp .ne 7, 3) := by decide +kernel
theorem dL_adds_95 : decode cL_adds 95 = .ok (.iconst 1, 1) := by decide +kernel
theorem dL_adds_96 : decode cL_adds 96 = .ok (.goto 4, 3) := by decide +kernel
theorem dL_adds_99 : decode cL_adds 99 = .ok (.iconst 0, 1) := by decide +kernel
theorem dL_adds_100 : decode cL_adds 100 = .ok (.ireturn, 1) := by decide +kernel
theorem dL_shares_0 : decode cL_shares 0 = .ok (.iconst 0, 1) := by decide +kernel
theorem dL_shares_1 : decode cL_shares 1 = .ok (.istore 4, 2) := by decide +kernel
theorem dL_shares_3 : decode cL_shares 3 = .ok (.iconst 0, 1) := by decide +kernel
theorem dL_shares_4 : decode cL_shares 4 = .ok (.istore 5, 2) := by decide +kernel
theorem dL_shares_6 : decode cL_shares 6 = .ok (.iload 5, 2) := by decide +kernel
theorem dL_shares_8 : decode cL_shares 8 = .ok (.aload_n 0, 1) := by decide +kernel
theorem dL_shares_9 : decode cL_shares 9 = .ok (.iconst 1, 1) := by decide +kernel
theorem dL_shares_10 : decode cL_shares 10 = .ok (.iaload, 1) := by decide +kernel
theorem dL_shares_11 : decode cL_shares 11 = .ok (.if_icmp .ge 30, 3) := by decide +kernel
theorem dL_shares_14 : decode cL_shares 14 = .ok (.iload 4, 2) := by decide +kernel
theorem dL_shares_16 : decode cL_shares 16 = .ok (.iload_n 2, 1) := by decide +kernel
theorem dL_shares_17 : decode cL_shares 17 = .ok (.iload 5, 2) := by decide +kernel
theorem dL_shares_19 : decode cL_shares 19 = .ok (.ishr, 1) := by decide +kernel
theorem dL_shares_20 : decode cL_shares 20 = .ok (.iconst 1, 1) := by decide +kernel
theorem dL_shares_21 : decode cL_shares 21 = .ok (.iand, 1) := by decide +kernel
theorem dL_shares_22 : decode cL_shares 22 = .ok (.aload_n 1, 1) := by decide +kernel
theorem dL_shares_23 : decode cL_shares 23 = .ok (.bipush 10, 2) := by decide +kernel
theorem dL_shares_25 : decode cL_shares 25 = .ok (.iload 5, 2) := by decide +kernel
theorem dL_shares_27 : decode cL_shares 27 = .ok (.imul, 1) := by decide +kernel
theorem dL_shares_28 : decode cL_shares 28 = .ok (.iconst 3, 1) := by decide +kernel
theorem dL_shares_29 : decode cL_shares 29 = .ok (.iadd, 1) := by decide +kernel
theorem dL_shares_30 : decode cL_shares 30 = .ok (.iaload, 1) := by decide +kernel
theorem dL_shares_31 : decode cL_shares 31 = .ok (.imul, 1) := by decide +kernel
theorem dL_shares_32 : decode cL_shares 32 = .ok (.iadd, 1) := by decide +kernel
theorem dL_shares_33 : decode cL_shares 33 = .ok (.istore 4, 2) := by decide +kernel
theorem dL_shares_35 : decode cL_shares 35 = .ok (.iinc 5 1, 3) := by decide +kernel
theorem dL_shares_38 : decode cL_shares 38 = .ok (.goto (-32), 3) := by decide +kernel
theorem dL_shares_41 : decode cL_shares 41 = .ok (.iload_n 3, 1) := by decide +kernel
theorem dL_shares_42 : decode cL_shares 42 = .ok (.istore 5, 2) := by decide +kernel
theorem dL_shares_44 : decode cL_shares 44 = .ok (.iconst 0, 1) := by decide +kernel
theorem dL_shares_45 : decode cL_shares 45 = .ok (.istore 6, 2) := by decide +kernel
theorem dL_shares_47 : decode cL_shares 47 = .ok (.iload 6, 2) := by decide +kernel
theorem dL_shares_49 : decode cL_shares 49 = .ok (.aload_n 0, 1) := by decide +kernel
theorem dL_shares_50 : decode cL_shares 50 = .ok (.iconst 1, 1) := by decide +kernel
theorem dL_shares_51 : decode cL_shares 51 = .ok (.iaload, 1) := by decide +kernel
theorem dL_shares_52 : decode cL_shares 52 = .ok (.if_icmp .ge 82, 3) := by decide +kernel
theorem dL_shares_55 : decode cL_shares 55 = .ok (.iload_n 2, 1) := by decide +kernel
theorem dL_shares_56 : decode cL_shares 56 = .ok (.iload 6, 2) := by decide +kernel
theorem dL_shares_58 : decode cL_shares 58 = .ok (.ishr, 1) := by decide +kernel
theorem dL_shares_59 : decode cL_shares 59 = .ok (.iconst 1, 1) := by decide +kernel
theorem dL_shares_60 : decode cL_shares 60 = .ok (.iand, 1) := by decide +kernel
theorem dL_shares_61 : decode cL_shares 61 = .ok (.iconst 1, 1) := by decide +kernel
theorem dL_shares_62 : decode cL_shares 62 = .ok (.if_icmp .ne 66, 3) := by decide +kernel
theorem dL_shares_65 : decode cL_shares 65 = .ok (.aload_n 1, 1) := by decide +kernel
theorem dL_shares_66 : decode cL_shares 66 = .ok (.bipush 10, 2) := by decide +kernel
theorem dL_shares_68 : decode cL_shares 68 = .ok (.iload 6, 2) := by decide +kernel
theorem dL_shares_70 : decode cL_shares 70 = .ok (.imul, 1) := by decide +kernel
theorem dL_shares_71 : decode cL_shares 71 = .ok (.bipush 8, 2) := by decide +kernel
theorem dL_shares_73 : decode cL_shares 73 = .ok (.iadd, 1) := by decide +kernel
theorem dL_shares_74 : decode cL_shares 74 = .ok (.iload 4, 2) := by decide +kernel
theorem dL_shares_76 : decode cL_shares 76 = .ok (.ifCond .ne 12, 3) := by decide +kernel
theorem dL_shares_79 : decode cL_shares 79 = .ok (.iload_n 3, 1) := by decide +kernel
theorem dL_shares_80 : decode cL_shares 80 = .ok (.iload_n 2, 1) := by decide +kernel
theorem dL_shares_81 : decode cL_shares 81 = .ok (.invokestatic 39, 3) := by decide +kernel
theorem dL_shares_84 : decode cL_shares 84 = .ok (.idiv, 1) := by decide +kernel
theorem dL_shares_85 : decode cL_shares 85 = .ok (.goto 17, 3) := by decide +kernel
theorem dL_shares_88 : decode cL_shares 88 = .ok (.iload_n 3, 1) := by decide +kernel
theorem dL_shares_89 : decode cL_shares 89 = .ok (.aload_n 1, 1) := by decide +kernel
theorem dL_shares_90 : decode cL_shares 90 = .ok (.bipush 10, 2) := by decide +kernel
theorem dL_shares_92 : decode cL_shares 92 = .ok (.iload 6, 2) := by decide +kernel
theorem dL_shares_94 : decode cL_shares 94 = .ok (.imul, 1) := by decide +kernel
theorem dL_shares_95 : decode cL_shares 95 = .ok (.iconst 3, 1) := by decide +kernel
theorem dL_shares_96 : decode cL_shares 96 = .ok (.iadd, 1) := by decide +kernel
theorem dL_shares_97 : decode cL_shares 97 = .ok (.iaload, 1) := by decide +kernel
theorem dL_shares_98 : decode cL_shares 98 = .ok (.imul, 1) := by decide +kernel
theorem dL_shares_99 : decode cL_shares 99 = .ok (.iload 4, 2) := by decide +kernel
theorem dL_shares_101 : decode cL_shares 101 = .ok (.idiv, 1) := by decide +kernel
theorem dL_shares_102 : decode cL_shares 102 = .ok (.iastore, 1) := by decide +kernel
theorem dL_shares_103 : decode cL_shares 103 = .ok (.aload_n 1, 1) := by decide +kernel
theorem dL_shares_104 : decode cL_shares 104 = .ok (.bipush 10, 2) := by decide +kernel
theorem dL_shares_106 : decode cL_shares 106 = .ok (.iload 6, 2) := by decide +kernel
theorem dL_shares_108 : decode cL_shares 108 = .ok (.imul, 1) := by decide +kernel
theorem dL_shares_109 : decode cL_shares 109 = .ok (.iconst 4, 1) := by decide +kernel
theorem dL_shares_110 : decode cL_shares 110 = .ok (.iadd, 1) := by decide +kernel
theorem dL_shares_111 : decode cL_shares 111 = .ok (.iconst 3, 1) := by decide +kernel
theorem dL_shares_112 : decode cL_shares 112 = .ok (.iastore, 1) := by decide +kernel
theorem dL_shares_113 : decode cL_shares 113 = .ok (.iload 5, 2) := by decide +kernel
theorem dL_shares_115 : decode cL_shares 115 = .ok (.aload_n 1, 1) := by decide +kernel
theorem dL_shares_116 : decode cL_shares 116 = .ok (.bipush 10, 2) := by decide +kernel
theorem dL_shares_118 : decode cL_shares 118 = .ok (.iload 6, 2) := by decide +kernel
theorem dL_shares_120 : decode cL_shares 120 = .ok (.imul, 1) := by decide +kernel
theorem dL_shares_121 : decode cL_shares 121 = .ok (.bipush 8, 2) := by decide +kernel
theorem dL_shares_123 : decode cL_shares 123 = .ok (.iadd, 1) := by decide +kernel
theorem dL_shares_124 : decode cL_shares 124 = .ok (.iaload, 1) := by decide +kernel
theorem dL_shares_125 : decode cL_shares 125 = .ok (.isub, 1) := by decide +kernel
theorem dL_shares_126 : decode cL_shares 126 = .ok (.istore 5, 2) := by decide +kernel
theorem dL_shares_128 : decode cL_shares 128 = .ok (.iinc 6 1, 3) := by decide +kernel
theorem dL_shares_131 : decode cL_shares 131 = .ok (.goto (-84), 3) := by decide +kernel
theorem dL_shares_134 : decode cL_shares 134 = .ok (.iconst 0, 1) := by decide +kernel
theorem dL_shares_135 : decode cL_shares 135 = .ok (.istore 6, 2) := by decide +kernel
theorem dL_shares_137 : decode cL_shares 137 = .ok (.iconst 0, 1) := by decide +kernel
theorem dL_shares_138 : decode cL_shares 138 = .ok (.istore 7, 2) := by decide +kernel
theorem dL_shares_140 : decode cL_shares 140 = .ok (.iload 7, 2) := by decide +kernel
theorem dL_shares_142 : decode cL_shares 142 = .ok (.aload_n 0, 1) := by decide +kernel
theorem dL_shares_143 : decode cL_shares 143 = .ok (.iconst 1, 1) := by decide +kernel
theorem dL_shares_144 : decode cL_shares 144 = .ok (.iaload, 1) := by decide +kernel
theorem dL_shares_145 : decode cL_shares 145 = .ok (.if_icmp .ge 77, 3) := by decide +kernel
theorem dL_shares_148 : decode cL_shares 148 = .ok (.iload_n 2, 1) := by decide +kernel
theorem dL_shares_149 : decode cL_shares 149 = .ok (.iload 7, 2) := by decide +kernel
theorem dL_shares_151 : decode cL_shares 151 = .ok (.ishr, 1) := by decide +kernel
theorem dL_shares_152 : decode cL_shares 152 = .ok (.iconst 1, 1) := by decide +kernel
theorem dL_shares_153 : decode cL_shares 153 = .ok (.iand, 1) := by decide +kernel
theorem dL_shares_154 : decode cL_shares 154 = .ok (.iconst 1, 1) := by decide +kernel
theorem dL_shares_155 : decode cL_shares 155 = .ok (.if_icmp .ne 61, 3) := by decide +kernel
theorem dL_shares_158 : decode cL_shares 158 = .ok (.aload_n 1, 1) := by decide +kernel
theorem dL_shares_159 : decode cL_shares 159 = .ok (.bipush 10, 2) := by decide +kernel
theorem dL_shares_161 : decode cL_shares 161 = .ok (.iload 7, 2) := by decide +kernel
theorem dL_shares_163 : decode cL_shares 163 = .ok (.imul, 1) := by decide +kernel
theorem dL_shares_164 : decode cL_shares 164 = .ok (.bipush 8, 2) := by decide +kernel
theorem dL_shares_166 : decode cL_shares 166 = .ok (.iadd, 1) := by decide +kernel
theorem dL_shares_167 : decode cL_shares 167 = .ok (.dup2, 1) := by decide +kernel
theorem dL_shares_168 : decode cL_shares 168 = .ok (.iaload, 1) := by decide +kernel
theorem dL_shares_169 : decode cL_shares 169 = .ok (.iload 5, 2) := by decide +kernel
theorem dL_shares_171 : decode cL_shares 171 = .ok (.ifCond .le 7, 3) := by decide +kernel
theorem dL_shares_174 : decode cL_shares 174 = .ok (.iconst 1, 1) := by decide +kernel
theorem dL_shares_175 : decode cL_shares 175 = .ok (.goto 4, 3) := by decide +kernel
theorem dL_shares_178 : decode cL_shares 178 = .ok (.iconst 0, 1) := by decide +kernel
theorem dL_shares_179 : decode cL_shares 179 = .ok (.iadd, 1) := by decide +kernel
theorem dL_shares_180 : decode cL_shares 180 = .ok (.iastore, 1) := by decide +kernel
theorem dL_shares_181 : decode cL_shares 181 = .ok (.iinc 5 (-1), 3) := by decide +kernel
theorem dL_shares_184 : decode cL_shares 184 = .ok (.aload_n 1, 1) := by decide +kernel
theorem dL_shares_185 : decode cL_shares 185 = .ok (.bipush 10, 2) := by decide +kernel
theorem dL_shares_187 : decode cL_shares 187 = .ok (.iload 7, 2) := by decide +kernel
theorem dL_shares_189 : decode cL_shares 189 = .ok (.imul, 1) := by decide +kernel
theorem dL_shares_190 : decode cL_shares 190 = .ok (.bipush 8, 2) := by decide +kernel
theorem dL_shares_192 : decode cL_shares 192 = .ok (.iadd, 1) := by decide +kernel
theorem dL_shares_193 : decode cL_shares 193 = .ok (.iaload, 1) := by decide +kernel
theorem dL_shares_194 : decode cL_shares 194 = .ok (.iload 6, 2) := by decide +kernel
theorem dL_shares_196 : decode cL_shares 196 = .ok (.if_icmp .le 16, 3) := by decide +kernel
theorem dL_shares_199 : decode cL_shares 199 = .ok (.aload_n 1, 1) := by decide +kernel
theorem dL_shares_200 : decode cL_shares 200 = .ok (.bipush 10, 2) := by decide +kernel
theorem dL_shares_202 : decode cL_shares 202 = .ok (.iload 7, 2) := by decide +kernel
theorem dL_shares_204 : decode cL_shares 204 = .ok (.imul, 1) := by decide +kernel
theorem dL_shares_205 : decode cL_shares 205 = .ok (.bipush 8, 2) := by decide +kernel
theorem dL_shares_207 : decode cL_shares 207 = .ok (.iadd, 1) := by decide +kernel
theorem dL_shares_208 : decode cL_shares 208 = .ok (.iaload, 1) := by decide +kernel
theorem dL_shares_209 : decode cL_shares 209 = .ok (.goto 5, 3) := by decide +kernel
theorem dL_shares_212 : decode cL_shares 212 = .ok (.iload 6, 2) := by decide +kernel
theorem dL_shares_214 : decode cL_shares 214 = .ok (.istore 6, 2) := by decide +kernel
theorem dL_shares_216 : decode cL_shares 216 = .ok (.iinc 7 1, 3) := by decide +kernel
theorem dL_shares_219 : decode cL_shares 219 = .ok (.goto (-79), 3) := by decide +kernel
theorem dL_shares_222 : decode cL_shares 222 = .ok (.iload 6, 2) := by decide +kernel
theorem dL_shares_224 : decode cL_shares 224 = .ok (.ireturn, 1) := by decide +kernel
theorem dL_acts_0 : decode cL_acts 0 = .ok (.iload 4, 2) := by decide +kernel
theorem dL_acts_2 : decode cL_acts 2 = .ok (.iconst 5, 1) := by decide +kernel
theorem dL_acts_3 : decode cL_acts 3 = .ok (.ishr, 1) := by decide +kernel
theorem dL_acts_4 : decode cL_acts 4 = .ok (.ldc 42, 2) := by decide +kernel
theorem dL_acts_6 : decode cL_acts 6 = .ok (.invokestatic 43, 3) := by decide +kernel
theorem dL_acts_9 : decode cL_acts 9 = .ok (.istore 5, 2) := by decide +kernel
theorem dL_acts_11 : decode cL_acts 11 = .ok (.aload_n 1, 1) := by decide +kernel
theorem dL_acts_12 : decode cL_acts 12 = .ok (.iconst 0, 1) := by decide +kernel
theorem dL_acts_13 : decode cL_acts 13 = .ok (.iaload, 1) := by decide +kernel
theorem dL_acts_14 : decode cL_acts 14 = .ok (.ifCond .ne 29, 3) := by decide +kernel
theorem dL_acts_17 : decode cL_acts 17 = .ok (.aload_n 0, 1) := by decide +kernel
theorem dL_acts_18 : decode cL_acts 18 = .ok (.aload_n 1, 1) := by decide +kernel
theorem dL_acts_19 : decode cL_acts 19 = .ok (.aload_n 2, 1) := by decide +kernel
theorem dL_acts_20 : decode cL_acts 20 = .ok (.iload 5, 2) := by decide +kernel
theorem dL_acts_22 : decode cL_acts 22 = .ok (.sipush 401, 3) := by decide +kernel
theorem dL_acts_25 : decode cL_acts 25 = .ok (.irem, 1) := by decide +kernel
theorem dL_acts_26 : decode cL_acts 26 = .ok (.sipush 300, 3) := by decide +kernel
theorem dL_acts_29 : decode cL_acts 29 = .ok (.isub, 1) := by decide +kernel
theorem dL_acts_30 : decode cL_acts 30 = .ok (.iload 5, 2) := by decide +kernel
theorem dL_acts_32 : decode cL_acts 32 = .ok (.sipush 401, 3) := by decide +kernel
theorem dL_acts_35 : decode cL_acts 35 = .ok (.idiv, 1) := by decide +kernel
theorem dL_acts_36 : decode cL_acts 36 = .ok (.bipush 31, 2) := by decide +kernel
theorem dL_acts_38 : decode cL_acts 38 = .ok (.irem, 1) := by decide +kernel
theorem dL_acts_39 : decode cL_acts 39 = .ok (.invokestatic 46, 3) := by decide +kernel
theorem dL_acts_42 : decode cL_acts 42 = .ok (.ireturn, 1) := by decide +kernel
theorem dL_acts_43 : decode cL_acts 43 = .ok (.iload 5, 2) := by decide +kernel
theorem dL_acts_45 : decode cL_acts 45 = .ok (.aload_n 1, 1) := by decide +kernel
theorem dL_acts_46 : decode cL_acts 46 = .ok (.iconst 0, 1) := by decide +kernel
theorem dL_acts_47 : decode cL_acts 47 = .ok (.iaload, 1) := by decide +kernel
theorem dL_acts_48 : decode cL_acts 48 = .ok (.irem, 1) := by decide +kernel
theorem dL_acts_49 : decode cL_acts 49 = .ok (.istore 6, 2) := by decide +kernel
theorem dL_acts_51 : decode cL_acts 51 = .ok (.iload 5, 2) := by decide +kernel
theorem dL_acts_53 : decode cL_acts 53 = .ok (.iconst 3, 1) := by decide +kernel
theorem dL_acts_54 : decode cL_acts 54 = .ok (.idiv, 1) := by decide +kernel
theorem dL_acts_55 : decode cL_acts 55 = .ok (.iconst 3, 1) := by decide +kernel
theorem dL_acts_56 : decode cL_acts 56 = .ok (.irem, 1) := by decide +kernel
theorem dL_acts_57 : decode cL_acts 57 = .ok (.istore 7, 2) := by decide +kernel
theorem dL_acts_59 : decode cL_acts 59 = .ok (.iconst 3, 1) := by decide +kernel
theorem dL_acts_60 : decode cL_acts 60 = .ok (.iload 6, 2) := by decide +kernel
theorem dL_acts_62 : decode cL_acts 62 = .ok (.imul, 1) := by decide +kernel
theorem dL_acts_63 : decode cL_acts 63 = .ok (.iload 7, 2) := by decide +kernel
theorem dL_acts_65 : decode cL_acts 65 = .ok (.iadd, 1) := by decide +kernel
theorem dL_acts_66 : decode cL_acts 66 = .ok (.invokestatic 9, 3) := by decide +kernel
theorem dL_acts_69 : decode cL_acts 69 = .ok (.istore 8, 2) := by decide +kernel
theorem dL_acts_71 : decode cL_acts 71 = .ok (.aload_n 1, 1) := by decide +kernel
theorem dL_acts_72 : decode cL_acts 72 = .ok (.iconst 1, 1) := by decide +kernel
theorem dL_acts_73 : decode cL_acts 73 = .ok (.iaload, 1) := by decide +kernel
theorem dL_acts_74 : decode cL_acts 74 = .ok (.ifCond .ne 7, 3) := by decide +kernel
theorem dL_acts_77 : decode cL_acts 77 = .ok (.iconst 0, 1) := by decide +kernel
theorem dL_acts_78 : decode cL_acts 78 = .ok (.goto 9, 3) := by decide +kernel
theorem dL_acts_81 : decode cL_acts 81 = .ok (.iload 5, 2) := by decide +kernel
theorem dL_acts_83 : decode cL_acts 83 = .ok (.aload_n 1, 1) := by decide +kernel
theorem dL_acts_84 : decode cL_acts 84 = .ok (.iconst 1, 1) := by decide +kernel
theorem dL_acts_85 : decode cL_acts 85 = .ok (.iaload, 1) := by decide +kernel
theorem dL_acts_86 : decode cL_acts 86 = .ok (.irem, 1) := by decide +kernel
theorem dL_acts_87 : decode cL_acts 87 = .ok (.istore 9, 2) := by decide +kernel
theorem dL_acts_89 : decode cL_acts 89 = .ok (.iload 4, 2) := by decide +kernel
theorem dL_acts_91 : decode cL_acts 91 = .ok (.bipush 20, 2) := by decide +kernel
theorem dL_acts_93 : decode cL_acts 93 = .ok (.invokestatic 43, 3) := by decide +kernel
theorem dL_acts_96 : decode cL_acts 96 = .ok (.tableswitch 1200 0 15 #[80, 141, 141, 231, 309, 309, 309, 411, 461, 461, 461, 461, 843, 843, 920, 1050], 80) := by decide +kernel
theorem dL_acts_176 : decode cL_acts 176 = .ok (.aload_n 1, 1) := by decide +kernel
theorem dL_acts_177 : decode cL_acts 177 = .ok (.iconst 0, 1) := by decide +kernel
theorem dL_acts_178 : decode cL_acts 178 = .ok (.iaload, 1) := by decide +kernel
theorem dL_acts_179 : decode cL_acts 179 = .ok (.iconst 3, 1) := by decide +kernel
theorem dL_acts_180 : decode cL_acts 180 = .ok (.if_icmp .ne 31, 3) := by decide +kernel
theorem dL_acts_183 : decode cL_acts 183 = .ok (.aload_n 0, 1) := by decide +kernel
theorem dL_acts_184 : decode cL_acts 184 = .ok (.iload 5, 2) := by decide +kernel
theorem dL_acts_186 : decode cL_acts 186 = .ok (.sipush 401, 3) := by decide +kernel
theorem dL_acts_189 : decode cL_acts 189 = .ok (.irem, 1) := by decide +kernel
theorem dL_acts_190 : decode cL_acts 190 = .ok (.sipush 300, 3) := by decide +kernel
theorem dL_acts_193 : decode cL_acts 193 = .ok (.isub, 1) := by decide +kernel
theorem dL_acts_194 : decode cL_acts 194 = .ok (.iconst 0, 1) := by decide +kernel
theorem dL_acts_195 : decode cL_acts 195 = .ok (.invokevirtual 34, 3) := by decide +kernel
theorem dL_acts_198 : decode cL_acts 198 = .ok (.ldc 50, 2) := by decide +kernel
theorem dL_acts_200 : decode cL_acts 200 = .ok (.if_icmp .ne 7, 3) := by decide +kernel
theorem dL_acts_203 : decode cL_acts 203 = .ok (.iconst 1, 1) := by decide +kernel
theorem dL_acts_204 : decode cL_acts 204 = .ok (.goto 32, 3) := by decide +kernel
theorem dL_acts_207 : decode cL_acts 207 = .ok (.iconst 0, 1) := by decide +kernel
theorem dL_acts_208 : decode cL_acts 208 = .ok (.goto 28, 3) := by decide +kernel
theorem dL_acts_211 : decode cL_acts 211 = .ok (.aload_n 0, 1) := by decide +kernel
theorem dL_acts_212 : decode cL_acts 212 = .ok (.aload_n 1, 1) := by decide +kernel
theorem dL_acts_213 : decode cL_acts 213 = .ok (.aload_n 2, 1) := by decide +kernel
theorem dL_acts_214 : decode cL_acts 214 = .ok (.iload 5, 2) := by decide +kernel
theorem dL_acts_216 : decode cL_acts 216 = .ok (.sipush 401, 3) := by decide +kernel
theorem dL_acts_219 : decode cL_acts 219 = .ok (.irem, 1) := by decide +kernel
theorem dL_acts_220 : decode cL_acts 220 = .ok (.sipush 300, 3) := by decide +kernel
theorem dL_acts_223 : decode cL_acts 223 = .ok (.isub, 1) := by decide +kernel
theorem dL_acts_224 : decode cL_acts 224 = .ok (.iload 5, 2) := by decide +kernel
theorem dL_acts_226 : decode cL_acts 226 = .ok (.sipush 401, 3) := by decide +kernel
theorem dL_acts_229 : decode cL_acts 229 = .ok (.idiv, 1) := by decide +kernel
theorem dL_acts_230 : decode cL_acts 230 = .ok (.bipush 31, 2) := by decide +kernel
theorem dL_acts_232 : decode cL_acts 232 = .ok (.irem, 1) := by decide +kernel
theorem dL_acts_233 : decode cL_acts 233 = .ok (.invokestatic 46, 3) := by decide +kernel
theorem dL_acts_236 : decode cL_acts 236 = .ok (.ireturn, 1) := by decide +kernel
theorem dL_acts_237 : decode cL_acts 237 = .ok (.iload 5, 2) := by decide +kernel
theorem dL_acts_239 : decode cL_acts 239 = .ok (.iconst 3, 1) := by decide +kernel
theorem dL_acts_240 : decode cL_acts 240 = .ok (.irem, 1) := by decide +kernel
theorem dL_acts_241 : decode cL_acts 241 = .ok (.istore 10, 2) := by decide +kernel
theorem dL_acts_243 : decode cL_acts 243 = .ok (.iload 10, 2) := by decide +kernel
theorem dL_acts_245 : decode cL_acts 245 = .ok (.ifCond .ne 18, 3) := by decide +kernel
theorem dL_acts_248 : decode cL_acts 248 = .ok (.iload 5, 2) := by decide +kernel
theorem dL_acts_250 : decode cL_acts 250 = .ok (.iconst 3, 1) := by decide +kernel
theorem dL_acts_251 : decode cL_acts 251 = .ok (.idiv, 1) := by decide +kernel
theorem dL_acts_252 : decode cL_acts 252 = .ok (.sipush 651, 3) := by decide +kernel
theorem dL_acts_255 : decode cL_acts 255 = .ok (.irem, 1) := by decide +kernel
theorem dL_acts_256 : decode cL_acts 256 = .ok (.sipush 200, 3) := by decide +kernel
theorem dL_acts_259 : decode cL_acts 259 = .ok (.isub, 1) := by decide +kernel
theorem dL_acts_260 : decode cL_acts 260 = .ok (.goto 30, 3) := by decide +kernel
theorem dL_acts_263 : decode cL_acts 263 = .ok (.iload 10, 2) := by decide +kernel
theorem dL_acts_265 : decode cL_acts 265 = .ok (.iconst 1, 1) := by decide +kernel
theorem dL_acts_266 : decode cL_acts 266 = .ok (.if_icmp .ne 15, 3) := by decide +kernel
theorem dL_acts_269 : decode cL_acts 269 = .ok (.iconst 5, 1) := by decide +kernel
theorem dL_acts_270 : decode cL_acts 270 = .ok (.iload 5, 2) := by decide +kernel
theorem dL_acts_272 : decode cL_acts 272 = .ok (.iconst 3, 1) := by decide +kernel
theorem dL_acts_273 : decode cL_acts 273 = .ok (.idiv, 1) := by decide +kernel
theorem dL_acts_274 : decode cL_acts 274 = .ok (.bipush 96, 2) := by decide +kernel
theorem dL_acts_276 : decode cL_acts 276 = .ok (.irem, 1) := by decide +kernel
theorem dL_acts_277 : decode cL_acts 277 = .ok (.iadd, 1) := by decide +kernel
theorem dL_acts_278 : decode cL_acts 278 = .ok (.goto 12, 3) := by decide +kernel
theorem dL_acts_281 : decode cL_acts 281 = .ok (.iconst 1, 1) := by decide +kernel
theorem dL_acts_282 : decode cL_acts 282 = .ok (.iload 5, 2) := by decide +kernel
theorem dL_acts_284 : decode cL_acts 284 = .ok (.iconst 3, 1) := by decide +kernel
theorem dL_acts_285 : decode cL_acts 285 = .ok (.idiv, 1) := by decide +kernel
theorem dL_acts_286 : decode cL_acts 286 = .ok (.bipush 8, 2) := by decide +kernel
theorem dL_acts_288 : decode cL_acts 288 = .ok (.irem, 1) := by decide +kernel
theorem dL_acts_289 : decode cL_acts 289 = .ok (.iadd, 1) := by decide +kernel
theorem dL_acts_290 : decode cL_acts 290 = .ok (.istore 11, 2) := by decide +kernel
theorem dL_acts_292 : decode cL_acts 292 = .ok (.aload_n 1, 1) := by decide +kernel
theorem dL_acts_293 : decode cL_acts 293 = .ok (.iconst 3, 1) := by decide +kernel
theorem dL_acts_294 : decode cL_acts 294 = .ok (.iload 10, 2) := by decide +kernel
theorem dL_acts_296 : decode cL_acts 296 = .ok (.iadd, 1) := by decide +kernel
theorem dL_acts_297 : decode cL_acts 297 = .ok (.iaload, 1) := by decide +kernel
theorem dL_acts_298 : decode cL_acts 298 = .ok (.istore 12, 2) := by decide +kernel
theorem dL_acts_300 : decode cL_acts 300 = .ok (.aload_n 1, 1) := by decide +kernel
theorem dL_acts_301 : decode cL_acts 301 = .ok (.iconst 3, 1) := by decide +kernel
theorem dL_acts_302 : decode cL_acts 302 = .ok (.iload 10, 2) := by decide +kernel
theorem dL_acts_304 : decode cL_acts 304 = .ok (.iadd, 1) := by decide +kernel
theorem dL_acts_305 : decode cL_acts 305 = .ok (.iload 11, 2) := by decide +kernel
theorem dL_acts_307 : decode cL_acts 307 = .ok (.iastore, 1) := by decide +kernel
theorem dL_acts_308 : decode cL_acts 308 = .ok (.aload_n 0, 1) := by decide +kernel
theorem dL_acts_309 : decode cL_acts 309 = .ok (.iload 10, 2) := by decide +kernel
theorem dL_acts_311 : decode cL_acts 311 = .ok (.iload 11, 2) := by decide +kernel
theorem dL_acts_313 : decode cL_acts 313 = .ok (.invokevirtual 51, 3) := by decide +kernel
theorem dL_acts_316 : decode cL_acts 316 = .ok (.iload 12, 2) := by decide +kernel
theorem dL_acts_318 : decode cL_acts 318 = .ok (.if_icmp .ne 7, 3) := by decide +kernel
theorem dL_acts_321 : decode cL_acts 321 = .ok (.iconst 1, 1) := by decide +kernel
theorem dL_acts_322 : decode cL_acts 322 = .ok (.goto 4, 3) := by decide +kernel
theorem dL_acts_325 : decode cL_acts 325 = .ok (.iconst 0, 1) := by decide +kernel
theorem dL_acts_326 : decode cL_acts 326 = .ok (.ireturn, 1) := by decide +kernel
theorem dL_acts_327 : decode cL_acts 327 = .ok (.aload_n 2, 1) := by decide +kernel
theorem dL_acts_328 : decode cL_acts 328 = .ok (.bipush 19, 2) := by decide +kernel
theorem dL_acts_330 : decode cL_acts 330 = .ok (.iload 6, 2) := by decide +kernel
theorem dL_acts_332 : decode cL_acts 332 = .ok (.imul, 1) := by decide +kernel
theorem dL_acts_333 : decode cL_acts 333 = .ok (.iaload, 1) := by decide +kernel
theorem dL_acts_334 : decode cL_acts 334 = .ok (.istore 13, 2) := by decide +kernel
theorem dL_acts_336 : decode cL_acts 336 = .ok (.aload_n 2, 1) := by decide +kernel
theorem dL_acts_337 : decode cL_acts 337 = .ok (.bipush 19, 2) := by decide +kernel
theorem dL_acts_339 : decode cL_acts 339 = .ok (.iload 6, 2) := by decide +kernel
theorem dL_acts_341 : decode cL_acts 341 = .ok (.imul, 1) := by decide +kernel
theorem dL_acts_342 : decode cL_acts 342 = .ok (.iload 5, 2) := by decide +kernel
theorem dL_acts_344 : decode cL_acts 344 = .ok (.iconst 3, 1) := by decide +kernel
theorem dL_acts_345 : decode cL_acts 345 = .ok (.idiv, 1) := by decide +kernel
theorem dL_acts_346 : decode cL_acts 346 = .ok (.sipush 401, 3) := by decide +kernel
theorem dL_acts_349 : decode cL_acts 349 = .ok (.irem, 1) := by decide +kernel
theorem dL_acts_350 : decode cL_acts 350 = .ok (.sipush 300, 3) := by decide +kernel
theorem dL_acts_353 : decode cL_acts 353 = .ok (.isub, 1) := by decide +kernel
theorem dL_acts_354 : decode cL_acts 354 = .ok (.iastore, 1) := by decide +kernel
theorem dL_acts_355 : decode cL_acts 355 = .ok (.aload_n 2, 1) := by decide +kernel
theorem dL_acts_356 : decode cL_acts 356 = .ok (.bipush 19, 2) := by decide +kernel
theorem dL_acts_358 : decode cL_acts 358 = .ok (.iload 6, 2) := by decide +kernel
theorem dL_acts_360 : decode cL_acts 360 = .ok (.imul, 1) := by decide +kernel
theorem dL_acts_361 : decode cL_acts 361 = .ok (.iconst 1, 1) := by decide +kernel
theorem dL_acts_362 : decode cL_acts 362 = .ok (.iadd, 1) := by decide +kernel
theorem dL_acts_363 : decode cL_acts 363 = .ok (.iload 5, 2) := by decide +kernel
theorem dL_acts_365 : decode cL_acts 365 = .ok (.bipush 7, 2) := by decide +kernel
theorem dL_acts_367 : decode cL_acts 367 = .ok (.idiv, 1) := by decide +kernel
theorem dL_acts_368 : decode cL_acts 368 = .ok (.bipush 31, 2) := by decide +kernel
theorem dL_acts_370 : decode cL_acts 370 = .ok (.irem, 1) := by decide +kernel
theorem dL_acts_371 : decode cL_acts 371 = .ok (.iastore, 1) := by decide +kernel
theorem dL_acts_372 : decode cL_acts 372 = .ok (.aload_n 0, 1) := by decide +kernel
theorem dL_acts_373 : decode cL_acts 373 = .ok (.iload 6, 2) := by decide +kernel
theorem dL_acts_375 : decode cL_acts 375 = .ok (.aload_n 2, 1) := by decide +kernel
theorem dL_acts_376 : decode cL_acts 376 = .ok (.bipush 19, 2) := by decide +kernel
theorem dL_acts_378 : decode cL_acts 378 = .ok (.iload 6, 2) := by decide +kernel
theorem dL_acts_380 : decode cL_acts 380 = .ok (.imul, 1) := by decide +kernel
theorem dL_acts_381 : decode cL_acts 381 = .ok (.iaload, 1) := by decide +kernel
theorem dL_acts_382 : decode cL_acts 382 = .ok (.aload_n 2, 1) := by decide +kernel
theorem dL_acts_383 : decode cL_acts 383 = .ok (.bipush 19, 2) := by decide +kernel
theorem dL_acts_385 : decode cL_acts 385 = .ok (.iload 6, 2) := by decide +kernel
theorem dL_acts_387 : decode cL_acts 387 = .ok (.imul, 1) := by decide +kernel
theorem dL_acts_388 : decode cL_acts 388 = .ok (.iconst 1, 1) := by decide +kernel
theorem dL_acts_389 : decode cL_acts 389 = .ok (.iadd, 1) := by decide +kernel
theorem dL_acts_390 : decode cL_acts 390 = .ok (.iaload, 1) := by decide +kernel
theorem dL_acts_391 : decode cL_acts 391 = .ok (.invokevirtual 54, 3) := by decide +kernel
theorem dL_acts_394 : decode cL_acts 394 = .ok (.iload 13, 2) := by decide +kernel
theorem dL_acts_396 : decode cL_acts 396 = .ok (.if_icmp .ne 7, 3) := by decide +kernel
theorem dL_acts_399 : decode cL_acts 399 = .ok (.iconst 1, 1) := by decide +kernel
theorem dL_acts_400 : decode cL_acts 400 = .ok (.goto 4, 3) := by decide +kernel
theorem dL_acts_403 : decode cL_acts 403 = .ok (.iconst 0, 1) := by decide +kernel
theorem dL_acts_404 : decode cL_acts 404 = .ok (.ireturn, 1) := by decide +kernel
theorem dL_acts_405 : decode cL_acts 405 = .ok (.iload 5, 2) := by decide +kernel
theorem dL_acts_407 : decode cL_acts 407 = .ok (.bipush 9, 2) := by decide +kernel
theorem dL_acts_409 : decode cL_acts 409 = .ok (.idiv, 1) := by decide +kernel
theorem dL_acts_410 : decode cL_acts 410 = .ok (.iconst 3, 1) := by decide +kernel
theorem dL_acts_411 : decode cL_acts 411 = .ok (.irem, 1) := by decide +kernel
theorem dL_acts_412 : decode cL_acts 412 = .ok (.istore 14, 2) := by decide +kernel
theorem dL_acts_414 : decode cL_acts 414 = .ok (.iload 14, 2) := by decide +kernel
theorem dL_acts_416 : decode cL_acts 416 = .ok (.ifCond .ne 7, 3) := by decide +kernel
theorem dL_acts_419 : decode cL_acts 419 = .ok (.iconst 0, 1) := by decide +kernel
theorem dL_acts_420 : decode cL_acts 420 = .ok (.goto 38, 3) := by decide +kernel
theorem dL_acts_423 : decode cL_acts 423 = .ok (.iload 14, 2) := by decide +kernel
theorem dL_acts_425 : decode cL_acts 425 = .ok (.iconst 1, 1) := by decide +kernel
theorem dL_acts_426 : decode cL_acts 426 = .ok (.if_icmp .ne 19, 3) := by decide +kernel
theorem dL_acts_429 : decode cL_acts 429 = .ok (.iload 5, 2) := by decide +kernel
theorem dL_acts_431 : decode cL_acts 431 = .ok (.bipush 27, 2) := by decide +kernel
theorem dL_acts_433 : decode cL_acts 433 = .ok (.idiv, 1) := by decide +kernel
theorem dL_acts_434 : decode cL_acts 434 = .ok (.sipush 401, 3) := by decide +kernel
theorem dL_acts_437 : decode cL_acts 437 = .ok (.irem, 1) := by decide +kernel
theorem dL_acts_438 : decode cL_acts 438 = .ok (.sipush 200, 3) := by decide +kernel
theorem dL_acts_441 : decode cL_acts 441 = .ok (.isub, 1) := by decide +kernel
theorem dL_acts_442 : decode cL_acts 442 = .ok (.goto 16, 3) := by decide +kernel
theorem dL_acts_445 : decode cL_acts 445 = .ok (.iload 5, 2) := by decide +kernel
theorem dL_acts_447 : decode cL_acts 447 = .ok (.bipush 27, 2) := by decide +kernel
theorem dL_acts_449 : decode cL_acts 449 = .ok (.idiv, 1) := by decide +kernel
theorem dL_acts_450 : decode cL_acts 450 = .ok (.sipush 751, 3) := by decide +kernel
theorem dL_acts_453 : decode cL_acts 453 = .ok (.irem, 1) := by decide +kernel
theorem dL_acts_454 : decode cL_acts 454 = .ok (.sipush 300, 3) := by decide +kernel
theorem dL_acts_457 : decode cL_acts 457 = .ok (.isub, 1) := by decide +kernel
theorem dL_acts_458 : decode cL_acts 458 = .ok (.istore 15, 2) := by decide +kernel
theorem dL_acts_460 : decode cL_acts 460 = .ok (.aload_n 2, 1) := by decide +kernel
theorem dL_acts_461 : decode cL_acts 461 = .ok (.iload 8, 2) := by decide +kernel
theorem dL_acts_463 : decode cL_acts 463 = .ok (.iconst 1, 1) := by decide +kernel
theorem dL_acts_464 : decode cL_acts 464 = .ok (.iadd, 1) := by decide +kernel
theorem dL_acts_465 : decode cL_acts 465 = .ok (.iaload, 1) := by decide +kernel
theorem dL_acts_466 : decode cL_acts 466 = .ok (.istore 16, 2) := by decide +kernel
theorem dL_acts_468 : decode cL_acts 468 = .ok (.aload_n 2, 1) := by decide +kernel
theorem dL_acts_469 : decode cL_acts 469 = .ok (.iload 8, 2) := by decide +kernel
theorem dL_acts_471 : decode cL_acts 471 = .ok (.iconst 1, 1) := by decide +kernel
theorem dL_acts_472 : decode cL_acts 472 = .ok (.iadd, 1) := by decide +kernel
theorem dL_acts_473 : decode cL_acts 473 = .ok (.iload 14, 2) := by decide +kernel
theorem dL_acts_475 : decode cL_acts 475 = .ok (.iastore, 1) := by decide +kernel
theorem dL_acts_476 : decode cL_acts 476 = .ok (.aload_n 2, 1) := by decide +kernel
theorem dL_acts_477 : decode cL_acts 477 = .ok (.iload 8, 2) := by decide +kernel
theorem dL_acts_479 : decode cL_acts 479 = .ok (.iconst 2, 1) := by decide +kernel
theorem dL_acts_480 : decode cL_acts 480 = .ok (.iadd, 1) := by decide +kernel
theorem dL_acts_481 : decode cL_acts 481 = .ok (.iload 15, 2) := by decide +kernel
theorem dL_acts_483 : decode cL_acts 483 = .ok (.iastore, 1) := by decide +kernel
theorem dL_acts_484 : decode cL_acts 484 = .ok (.aload_n 0, 1) := by decide +kernel
theorem dL_acts_485 : decode cL_acts 485 = .ok (.iload 6, 2) := by decide +kernel
theorem dL_acts_487 : decode cL_acts 487 = .ok (.iload 7, 2) := by decide +kernel
theorem dL_acts_489 : decode cL_acts 489 = .ok (.iload 14, 2) := by decide +kernel
theorem dL_acts_491 : decode cL_acts 491 = .ok (.iload 15, 2) := by decide +kernel
theorem dL_acts_493 : decode cL_acts 493 = .ok (.invokevirtual 58, 3) := by decide +kernel
theorem dL_acts_496 : decode cL_acts 496 = .ok (.iload 16, 2) := by decide +kernel
theorem dL_acts_498 : decode cL_acts 498 = .ok (.if_icmp .ne 7, 3) := by decide +kernel
theorem dL_acts_501 : decode cL_acts 501 = .ok (.iconst 1, 1) := by decide +kernel
theorem dL_acts_502 : decode cL_acts 502 = .ok (.goto 4, 3) := by decide +kernel
theorem dL_acts_505 : decode cL_acts 505 = .ok (.iconst 0, 1) := by decide +kernel
theorem dL_acts_506 : decode cL_acts 506 = .ok (.ireturn, 1) := by decide +kernel
theorem dL_acts_507 : decode cL_acts 507 = .ok (.aload_n 2, 1) := by decide +kernel
theorem dL_acts_508 : decode cL_acts 508 = .ok (.iload 8, 2) := by decide +kernel
theorem dL_acts_510 : decode cL_acts 510 = .ok (.iconst 3, 1) := by decide +kernel
theorem dL_acts_511 : decode cL_acts 511 = .ok (.iadd, 1) := by decide +kernel
theorem dL_acts_512 : decode cL_acts 512 = .ok (.iaload, 1) := by decide +kernel
theorem dL_acts_513 : decode cL_acts 513 = .ok (.istore 17, 2) := by decide +kernel
theorem dL_acts_515 : decode cL_acts 515 = .ok (.iconst 1, 1) := by decide +kernel
theorem dL_acts_516 : decode cL_acts 516 = .ok (.istore 18, 2) := by decide +kernel
theorem dL_acts_518 : decode cL_acts 518 = .ok (.iload 18, 2) := by decide +kernel
theorem dL_acts_520 : decode cL_acts 520 = .ok (.iconst 5, 1) := by decide +kernel
theorem dL_acts_521 : decode cL_acts 521 = .ok (.if_icmp .ge 17, 3) := by decide +kernel
theorem dL_acts_524 : decode cL_acts 524 = .ok (.aload_n 2, 1) := by decide +kernel
theorem dL_acts_525 : decode cL_acts 525 = .ok (.iload 8, 2) := by decide +kernel
theorem dL_acts_527 : decode cL_acts 527 = .ok (.iload 18, 2) := by decide +kernel
theorem dL_acts_529 : decode cL_acts 529 = .ok (.iadd, 1) := by decide +kernel
theorem dL_acts_530 : decode cL_acts 530 = .ok (.iconst 0, 1) := by decide +kernel
theorem dL_acts_531 : decode cL_acts 531 = .ok (.iastore, 1) := by decide +kernel
theorem dL_acts_532 : decode cL_acts 532 = .ok (.iinc 18 1, 3) := by decide +kernel
theorem dL_acts_535 : decode cL_acts 535 = .ok (.goto (-17), 3) := by decide +kernel
theorem dL_acts_538 : decode cL_acts 538 = .ok (.aload_n 0, 1) := by decide +kernel
theorem dL_acts_539 : decode cL_acts 539 = .ok (.iload 6, 2) := by decide +kernel
theorem dL_acts_541 : decode cL_acts 541 = .ok (.iload 7, 2) := by decide +kernel
theorem dL_acts_543 : decode cL_acts 543 = .ok (.invokevirtual 62, 3) := by decide +kernel
theorem dL_acts_546 : decode cL_acts 546 = .ok (.iload 17, 2) := by decide +kernel
theorem dL_acts_548 : decode cL_acts 548 = .ok (.if_icmp .ne 7, 3) := by decide +kernel
theorem dL_acts_551 : decode cL_acts 551 = .ok (.iconst 1, 1) := by decide +kernel
theorem dL_acts_552 : decode cL_acts 552 = .ok (.goto 4, 3) := by decide +kernel
theorem dL_acts_555 : decode cL_acts 555 = .ok (.iconst 0, 1) := by decide +kernel
theorem dL_acts_556 : decode cL_acts 556 = .ok (.ireturn, 1) := by decide +kernel
theorem dL_acts_557 : decode cL_acts 557 = .ok (.aload_n 2, 1) := by decide +kernel
theorem dL_acts_558 : decode cL_acts 558 = .ok (.iload 8, 2) := by decide +kernel
theorem dL_acts_560 : decode cL_acts 560 = .ok (.iaload, 1) := by decide +kernel
theorem dL_acts_561 : decode cL_acts 561 = .ok (.iload 5, 2) := by decide +kernel
theorem dL_acts_563 : decode cL_acts 563 = .ok (.bipush 9, 2) := by decide +kernel
theorem dL_acts_565 : decode cL_acts 565 = .ok (.idiv, 1) := by decide +kernel
theorem dL_acts_566 : decode cL_acts 566 = .ok (.bipush 60, 2) := by decide +kernel
theorem dL_acts_568 : decode cL_acts 568 = .ok (.irem, 1) := by decide +kernel
theorem dL_acts_569 : decode cL_acts 569 = .ok (.iadd, 1) := by decide +kernel
theorem dL_acts_570 : decode cL_acts 570 = .ok (.bipush 20, 2) := by decide +kernel
theorem dL_acts_572 : decode cL_acts 572 = .ok (.isub, 1) := by decide +kernel
theorem dL_acts_573 : decode cL_acts 573 = .ok (.istore 18, 2) := by decide +kernel
theorem dL_acts_575 : decode cL_acts 575 = .ok (.iload 18, 2) := by decide +kernel
theorem dL_acts_577 : decode cL_acts 577 = .ok (.sipush 300, 3) := by decide +kernel
theorem dL_acts_580 : decode cL_acts 580 = .ok (.if_icmp .le 9, 3) := by decide +kernel
theorem dL_acts_583 : decode cL_acts 583 = .ok (.sipush 300, 3) := by decide +kernel
theorem dL_acts_586 : decode cL_acts 586 = .ok (.goto 19, 3) := by decide +kernel
theorem dL_acts_589 : decode cL_acts 589 = .ok (.iload 18, 2) := by decide +kernel
theorem dL_acts_591 : decode cL_acts 591 = .ok (.sipush (-300), 3) := by decide +kernel
theorem dL_acts_594 : decode cL_acts 594 = .ok (.if_icmp .ge 9, 3) := by decide +kernel
theorem dL_acts_597 : decode cL_acts 597 = .ok (.sipush (-300), 3) := by decide +kernel
theorem dL_acts_600 : decode cL_acts 600 = .ok (.goto 5, 3) := by decide +kernel
theorem dL_acts_603 : decode cL_acts 603 = .ok (.iload 18, 2) := by decide +kernel
theorem dL_acts_605 : decode cL_acts 605 = .ok (.istore 18, 2) := by decide +kernel
theorem dL_acts_607 : decode cL_acts 607 = .ok (.iconst 0, 1) := by decide +kernel
theorem dL_acts_608 : decode cL_acts 608 = .ok (.istore 19, 2) := by decide +kernel
theorem dL_acts_610 : decode cL_acts 610 = .ok (.iconst 0, 1) := by decide +kernel
theorem dL_acts_611 : decode cL_acts 611 = .ok (.istore 20, 2) := by decide +kernel
theorem dL_acts_613 : decode cL_acts 613 = .ok (.iload 20, 2) := by decide +kernel
theorem dL_acts_615 : decode cL_acts 615 = .ok (.aload_n 1, 1) := by decide +kernel
theorem dL_acts_616 : decode cL_acts 616 = .ok (.iconst 1, 1) := by decide +kernel
theorem dL_acts_617 : decode cL_acts 617 = .ok (.iaload, 1) := by decide +kernel
theorem dL_acts_618 : decode cL_acts 618 = .ok (.if_icmp .ge 48, 3) := by decide +kernel
theorem dL_acts_621 : decode cL_acts 621 = .ok (.iload 19, 2) := by decide +kernel
theorem dL_acts_623 : decode cL_acts 623 = .ok (.aload_n 3, 1) := by decide +kernel
theorem dL_acts_624 : decode cL_acts 624 = .ok (.bipush 10, 2) := by decide +kernel
theorem dL_acts_626 : decode cL_acts 626 = .ok (.iload 20, 2) := by decide +kernel
theorem dL_acts_628 : decode cL_acts 628 = .ok (.imul, 1) := by decide +kernel
theorem dL_acts_629 : decode cL_acts 629 = .ok (.iconst 4, 1) := by decide +kernel
theorem dL_acts_630 : decode cL_acts 630 = .ok (.iadd, 1) := by decide +kernel
theorem dL_acts_631 : decode cL_acts 631 = .ok (.iaload, 1) := by decide +kernel
theorem dL_acts_632 : decode cL_acts 632 = .ok (.ifCond .ne 24, 3) := by decide +kernel
theorem dL_acts_635 : decode cL_acts 635 = .ok (.aload_n 3, 1) := by decide +kernel
theorem dL_acts_636 : decode cL_acts 636 = .ok (.bipush 10, 2) := by decide +kernel
theorem dL_acts_638 : decode cL_acts 638 = .ok (.iload 20, 2) := by decide +kernel
theorem dL_acts_640 : decode cL_acts 640 = .ok (.imul, 1) := by decide +kernel
theorem dL_acts_641 : decode cL_acts 641 = .ok (.iaload, 1) := by decide +kernel
theorem dL_acts_642 : decode cL_acts 642 = .ok (.iconst 3, 1) := by decide +kernel
theorem dL_acts_643 : decode cL_acts 643 = .ok (.iload 6, 2) := by decide +kernel
theorem dL_acts_645 : decode cL_acts 645 = .ok (.imul, 1) := by decide +kernel
theorem dL_acts_646 : decode cL_acts 646 = .ok (.iload 7, 2) := by decide +kernel
theorem dL_acts_648 : decode cL_acts 648 = .ok (.iadd, 1) := by decide +kernel
theorem dL_acts_649 : decode cL_acts 649 = .ok (.if_icmp .ne 7, 3) := by decide +kernel
theorem dL_acts_652 : decode cL_acts 652 = .ok (.iconst 1, 1) := by decide +kernel
theorem dL_acts_653 : decode cL_acts 653 = .ok (.goto 4, 3) := by decide +kernel
theorem dL_acts_656 : decode cL_acts 656 = .ok (.iconst 0, 1) := by decide +kernel
theorem dL_acts_657 : decode cL_acts 657 = .ok (.iadd, 1) := by decide +kernel
theorem dL_acts_658 : decode cL_acts 658 = .ok (.istore 19, 2) := by decide +kernel
theorem dL_acts_660 : decode cL_acts 660 = .ok (.iinc 20 1, 3) := by decide +kernel
theorem dL_acts_663 : decode cL_acts 663 = .ok (.goto (-50), 3) := by decide +kernel
theorem dL_acts_666 : decode cL_acts 666 = .ok (.aload_n 2, 1) := by decide +kernel
theorem dL_acts_667 : decode cL_acts 667 = .ok (.bipush 19, 2) := by decide +kernel
theorem dL_acts_669 : decode cL_acts 669 = .ok (.iload 6, 2) := by decide +kernel
theorem dL_acts_671 : decode cL_acts 671 = .ok (.imul, 1) := by decide +kernel
theorem dL_acts_672 : decode cL_acts 672 = .ok (.iconst 2, 1) := by decide +kernel
theorem dL_acts_673 : decode cL_acts 673 = .ok (.iadd, 1) := by decide +kernel
theorem dL_acts_674 : decode cL_acts 674 = .ok (.iaload, 1) := by decide +kernel
theorem dL_acts_675 : decode cL_acts 675 = .ok (.ifCond .eq 17, 3) := by decide +kernel
theorem dL_acts_678 : decode cL_acts 678 = .ok (.iload 19, 2) := by decide +kernel
theorem dL_acts_680 : decode cL_acts 680 = .ok (.iconst 3, 1) := by decide +kernel
theorem dL_acts_681 : decode cL_acts 681 = .ok (.if_icmp .eq 11, 3) := by decide +kernel
theorem dL_acts_684 : decode cL_acts 684 = .ok (.aload_n 1, 1) := by decide +kernel
theorem dL_acts_685 : decode cL_acts 685 = .ok (.iconst 1, 1) := by decide +kernel
theorem dL_acts_686 : decode cL_acts 686 = .ok (.iaload, 1) := by decide +kernel
theorem dL_acts_687 : decode cL_acts 687 = .ok (.bipush 6, 2) := by decide +kernel
theorem dL_acts_689 : decode cL_acts 689 = .ok (.if_icmp .ne 107, 3) := by decide +kernel
theorem dL_acts_692 : decode cL_acts 692 = .ok (.aload_n 1, 1) := by decide +kernel
theorem dL_acts_693 : decode cL_acts 693 = .ok (.iconst 1, 1) := by decide +kernel
theorem dL_acts_694 : decode cL_acts 694 = .ok (.iaload, 1) := by decide +kernel
theorem dL_acts_695 : decode cL_acts 695 = .ok (.bipush 6, 2) := by decide +kernel
theorem dL_acts_697 : decode cL_acts 697 = .ok (.if_icmp .ne 45, 3) := by decide +kernel
theorem dL_acts_700 : decode cL_acts 700 = .ok (.iload 19, 2) := by decide +kernel
theorem dL_acts_702 : decode cL_acts 702 = .ok (.iconst 3, 1) := by decide +kernel
theorem dL_acts_703 : decode cL_acts 703 = .ok (.if_icmp .ge 39, 3) := by decide +kernel
theorem dL_acts_706 : decode cL_acts 706 = .ok (.aload_n 2, 1) := by decide +kernel
theorem dL_acts_707 : decode cL_acts 707 = .ok (.bipush 19, 2) := by decide +kernel
theorem dL_acts_709 : decode cL_acts 709 = .ok (.iload 6, 2) := by decide +kernel
theorem dL_acts_711 : decode cL_acts 711 = .ok (.imul, 1) := by decide +kernel
theorem dL_acts_712 : decode cL_acts 712 = .ok (.iconst 2, 1) := by decide +kernel
theorem dL_acts_713 : decode cL_acts 713 = .ok (.iadd, 1) := by decide +kernel
theorem dL_acts_714 : decode cL_acts 714 = .ok (.iaload, 1) := by decide +kernel
theorem dL_acts_715 : decode cL_acts 715 = .ok (.iconst 1, 1) := by decide +kernel
theorem dL_acts_716 : decode cL_acts 716 = .ok (.if_icmp .ne 26, 3) := by decide +kernel
theorem dL_acts_719 : decode cL_acts 719 = .ok (.aload_n 0, 1) := by decide +kernel
theorem dL_acts_720 : decode cL_acts 720 = .ok (.iload 6, 2) := by decide +kernel
theorem dL_acts_722 : decode cL_acts 722 = .ok (.iconst 3, 1) := by decide +kernel
theorem dL_acts_723 : decode cL_acts 723 = .ok (.iconst 0, 1) := by decide +kernel
theorem dL_acts_724 : decode cL_acts 724 = .ok (.iconst 0, 1) := by decide +kernel
theorem dL_acts_725 : decode cL_acts 725 = .ok (.iconst 0, 1) := by decide +kernel
theorem dL_acts_726 : decode cL_acts 726 = .ok (.invokevirtual 65, 3) := by decide +kernel
theorem dL_acts_729 : decode cL_acts 729 = .ok (.ldc 69, 2) := by decide +kernel
theorem dL_acts_731 : decode cL_acts 731 = .ok (.if_icmp .ne 7, 3) := by decide +kernel
theorem dL_acts_734 : decode cL_acts 734 = .ok (.iconst 1, 1) := by decide +kernel
theorem dL_acts_735 : decode cL_acts 735 = .ok (.goto 60, 3) := by decide +kernel
theorem dL_acts_738 : decode cL_acts 738 = .ok (.iconst 0, 1) := by decide +kernel
theorem dL_acts_739 : decode cL_acts 739 = .ok (.goto 56, 3) := by decide +kernel
theorem dL_acts_742 : decode cL_acts 742 = .ok (.aload_n 0, 1) := by decide +kernel
theorem dL_acts_743 : decode cL_acts 743 = .ok (.iload 6, 2) := by decide +kernel
theorem dL_acts_745 : decode cL_acts 745 = .ok (.iload 7, 2) := by decide +kernel
theorem dL_acts_747 : decode cL_acts 747 = .ok (.iload 18, 2) := by decide +kernel
theorem dL_acts_749 : decode cL_acts 749 = .ok (.iconst 5, 1) := by decide +kernel
theorem dL_acts_750 : decode cL_acts 750 = .ok (.iload 5, 2) := by decide +kernel
theorem dL_acts_752 : decode cL_acts 752 = .ok (.invokevirtual 65, 3) := by decide +kernel
theorem dL_acts_755 : decode cL_acts 755 = .ok (.iload 5, 2) := by decide +kernel
theorem dL_acts_757 : decode cL_acts 757 = .ok (.sipush 9999, 3) := by decide +kernel
theorem dL_acts_760 : decode cL_acts 760 = .ok (.if_icmp .le 8, 3) := by decide +kernel
theorem dL_acts_763 : decode cL_acts 763 = .ok (.ldc 69, 2) := by decide +kernel
theorem dL_acts_765 : decode cL_acts 765 = .ok (.goto 22, 3) := by decide +kernel
theorem dL_acts_768 : decode cL_acts 768 = .ok (.aload_n 2, 1) := by decide +kernel
theorem dL_acts_769 : decode cL_acts 769 = .ok (.bipush 19, 2) := by decide +kernel
theorem dL_acts_771 : decode cL_acts 771 = .ok (.iload 6, 2) := by decide +kernel
theorem dL_acts_773 : decode cL_acts 773 = .ok (.imul, 1) := by decide +kernel
theorem dL_acts_774 : decode cL_acts 774 = .ok (.iconst 2, 1) := by decide +kernel
theorem dL_acts_775 : decode cL_acts 775 = .ok (.iadd, 1) := by decide +kernel
theorem dL_acts_776 : decode cL_acts 776 = .ok (.iaload, 1) := by decide +kernel
theorem dL_acts_777 : decode cL_acts 777 = .ok (.ifCond .ne 8, 3) := by decide +kernel
theorem dL_acts_780 : decode cL_acts 780 = .ok (.ldc 70, 2) := by decide +kernel
theorem dL_acts_782 : decode cL_acts 782 = .ok (.goto 5, 3) := by decide +kernel
theorem dL_acts_785 : decode cL_acts 785 = .ok (.ldc 50, 2) := by decide +kernel
theorem dL_acts_787 : decode cL_acts 787 = .ok (.if_icmp .ne 7, 3) := by decide +kernel
theorem dL_acts_790 : decode cL_acts 790 = .ok (.iconst 1, 1) := by decide +kernel
theorem dL_acts_791 : decode cL_acts 791 = .ok (.goto 4, 3) := by decide +kernel
theorem dL_acts_794 : decode cL_acts 794 = .ok (.iconst 0, 1) := by decide +kernel
theorem dL_acts_795 : decode cL_acts 795 = .ok (.ireturn, 1) := by decide +kernel
theorem dL_acts_796 : decode cL_acts 796 = .ok (.bipush 10, 2) := by decide +kernel
theorem dL_acts_798 : decode cL_acts 798 = .ok (.aload_n 1, 1) := by decide +kernel
theorem dL_acts_799 : decode cL_acts 799 = .ok (.iconst 1, 1) := by decide +kernel
theorem dL_acts_800 : decode cL_acts 800 = .ok (.iaload, 1) := by decide +kernel
theorem dL_acts_801 : decode cL_acts 801 = .ok (.imul, 1) := by decide +kernel
theorem dL_acts_802 : decode cL_acts 802 = .ok (.istore 20, 2) := by decide +kernel
theorem dL_acts_804 : decode cL_acts 804 = .ok (.iconst 0, 1) := by decide +kernel
theorem dL_acts_805 : decode cL_acts 805 = .ok (.istore 21, 2) := by decide +kernel
theorem dL_acts_807 : decode cL_acts 807 = .ok (.iload 21, 2) := by decide +kernel
theorem dL_acts_809 : decode cL_acts 809 = .ok (.bipush 10, 2) := by decide +kernel
theorem dL_acts_811 : decode cL_acts 811 = .ok (.if_icmp .ge 17, 3) := by decide +kernel
theorem dL_acts_814 : decode cL_acts 814 = .ok (.aload_n 3, 1) := by decide +kernel
theorem dL_acts_815 : decode cL_acts 815 = .ok (.iload 20, 2) := by decide +kernel
theorem dL_acts_817 : decode cL_acts 817 = .ok (.iload 21, 2) := by decide +kernel
theorem dL_acts_819 : decode cL_acts 819 = .ok (.iadd, 1) := by decide +kernel
theorem dL_acts_820 : decode cL_acts 820 = .ok (.iconst 0, 1) := by decide +kernel
theorem dL_acts_821 : decode cL_acts 821 = .ok (.iastore, 1) := by decide +kernel
theorem dL_acts_822 : decode cL_acts 822 = .ok (.iinc 21 1, 3) := by decide +kernel
theorem dL_acts_825 : decode cL_acts 825 = .ok (.goto (-18), 3) := by decide +kernel
theorem dL_acts_828 : decode cL_acts 828 = .ok (.aload_n 3, 1) := by decide +kernel
theorem dL_acts_829 : decode cL_acts 829 = .ok (.iload 20, 2) := by decide +kernel
theorem dL_acts_831 : decode cL_acts 831 = .ok (.iconst 3, 1) := by decide +kernel
theorem dL_acts_832 : decode cL_acts 832 = .ok (.iload 6, 2) := by decide +kernel
theorem dL_acts_834 : decode cL_acts 834 = .ok (.imul, 1) := by decide +kernel
theorem dL_acts_835 : decode cL_acts 835 = .ok (.iload 7, 2) := by decide +kernel
theorem dL_acts_837 : decode cL_acts 837 = .ok (.iadd, 1) := by decide +kernel
theorem dL_acts_838 : decode cL_acts 838 = .ok (.iastore, 1) := by decide +kernel
theorem dL_acts_839 : decode cL_acts 839 = .ok (.aload_n 3, 1) := by decide +kernel
theorem dL_acts_840 : decode cL_acts 840 = .ok (.iload 20, 2) := by decide +kernel
theorem dL_acts_842 : decode cL_acts 842 = .ok (.iconst 1, 1) := by decide +kernel
theorem dL_acts_843 : decode cL_acts 843 = .ok (.iadd, 1) := by decide +kernel
theorem dL_acts_844 : decode cL_acts 844 = .ok (.iload 18, 2) := by decide +kernel
theorem dL_acts_846 : decode cL_acts 846 = .ok (.iastore, 1) := by decide +kernel
theorem dL_acts_847 : decode cL_acts 847 = .ok (.aload_n 3, 1) := by decide +kernel
theorem dL_acts_848 : decode cL_acts 848 = .ok (.iload 20, 2) := by decide +kernel
theorem dL_acts_850 : decode cL_acts 850 = .ok (.iconst 2, 1) := by decide +kernel
theorem dL_acts_851 : decode cL_acts 851 = .ok (.iadd, 1) := by decide +kernel
theorem dL_acts_852 : decode cL_acts 852 = .ok (.iload 5, 2) := by decide +kernel
theorem dL_acts_854 : decode cL_acts 854 = .ok (.iconst 5, 1) := by decide +kernel
theorem dL_acts_855 : decode cL_acts 855 = .ok (.idiv, 1) := by decide +kernel
theorem dL_acts_856 : decode cL_acts 856 = .ok (.iload 5, 2) := by decide +kernel
theorem dL_acts_858 : decode cL_acts 858 = .ok (.iconst 4, 1) := by decide +kernel
theorem dL_acts_859 : decode cL_acts 859 = .ok (.irem, 1) := by decide +kernel
theorem dL_acts_860 : decode cL_acts 860 = .ok (.ifCond .ne 9, 3) := by decide +kernel
theorem dL_acts_863 : decode cL_acts 863 = .ok (.sipush 601, 3) := by decide +kernel
theorem dL_acts_866 : decode cL_acts 866 = .ok (.goto 5, 3) := by decide +kernel
theorem dL_acts_869 : decode cL_acts 869 = .ok (.bipush 12, 2) := by decide +kernel
theorem dL_acts_871 : decode cL_acts 871 = .ok (.irem, 1) := by decide +kernel
theorem dL_acts_872 : decode cL_acts 872 = .ok (.iastore, 1) := by decide +kernel
theorem dL_acts_873 : decode cL_acts 873 = .ok (.aload_n 3, 1) := by decide +kernel
theorem dL_acts_874 : decode cL_acts 874 = .ok (.iload 20, 2) := by decide +kernel
theorem dL_acts_876 : decode cL_acts 876 = .ok (.iconst 3, 1) := by decide +kernel
theorem dL_acts_877 : decode cL_acts 877 = .ok (.iadd, 1) := by decide +kernel
theorem dL_acts_878 : decode cL_acts 878 = .ok (.iload 5, 2) := by decide +kernel
theorem dL_acts_880 : decode cL_acts 880 = .ok (.iconst 5, 1) := by decide +kernel
theorem dL_acts_881 : decode cL_acts 881 = .ok (.irem, 1) := by decide +kernel
theorem dL_acts_882 : decode cL_acts 882 = .ok (.ifCond .ne 7, 3) := by decide +kernel
theorem dL_acts_885 : decode cL_acts 885 = .ok (.iconst 0, 1) := by decide +kernel
theorem dL_acts_886 : decode cL_acts 886 = .ok (.goto 9, 3) := by decide +kernel
theorem dL_acts_889 : decode cL_acts 889 = .ok (.iload 5, 2) := by decide +kernel
theorem dL_acts_891 : decode cL_acts 891 = .ok (.sipush 10000, 3) := by decide +kernel
theorem dL_acts_894 : decode cL_acts 894 = .ok (.irem, 1) := by decide +kernel
theorem dL_acts_895 : decode cL_acts 895 = .ok (.iastore, 1) := by decide +kernel
theorem dL_acts_896 : decode cL_acts 896 = .ok (.aload_n 1, 1) := by decide +kernel
theorem dL_acts_897 : decode cL_acts 897 = .ok (.iconst 1, 1) := by decide +kernel
theorem dL_acts_898 : decode cL_acts 898 = .ok (.dup2, 1) := by decide +kernel
theorem dL_acts_899 : decode cL_acts 899 = .ok (.iaload, 1) := by decide +kernel
theorem dL_acts_900 : decode cL_acts 900 = .ok (.iconst 1, 1) := by decide +kernel
theorem dL_acts_901 : decode cL_acts 901 = .ok (.iadd, 1) := by decide +kernel
theorem dL_acts_902 : decode cL_acts 902 = .ok (.iastore, 1) := by decide +kernel
theorem dL_acts_903 : decode cL_acts 903 = .ok (.aload_n 0, 1) := by decide +kernel
theorem dL_acts_904 : decode cL_acts 904 = .ok (.iload 6, 2) := by decide +kernel
theorem dL_acts_906 : decode cL_acts 906 = .ok (.iload 7, 2) := by decide +kernel
theorem dL_acts_908 : decode cL_acts 908 = .ok (.iload 18, 2) := by decide +kernel
theorem dL_acts_910 : decode cL_acts 910 = .ok (.aload_n 3, 1) := by decide +kernel
theorem dL_acts_911 : decode cL_acts 911 = .ok (.iload 20, 2) := by decide +kernel
theorem dL_acts_913 : decode cL_acts 913 = .ok (.iconst 2, 1) := by decide +kernel
theorem dL_acts_914 : decode cL_acts 914 = .ok (.iadd, 1) := by decide +kernel
theorem dL_acts_915 : decode cL_acts 915 = .ok (.iaload, 1) := by decide +kernel
theorem dL_acts_916 : decode cL_acts 916 = .ok (.aload_n 3, 1) := by decide +kernel
theorem dL_acts_917 : decode cL_acts 917 = .ok (.iload 20, 2) := by decide +kernel
theorem dL_acts_919 : decode cL_acts 919 = .ok (.iconst 3, 1) := by decide +kernel
theorem dL_acts_920 : decode cL_acts 920 = .ok (.iadd, 1) := by decide +kernel
theorem dL_acts_921 : decode cL_acts 921 = .ok (.iaload, 1) := by decide +kernel
theorem dL_acts_922 : decode cL_acts 922 = .ok (.invokevirtual 65, 3) := by decide +kernel
theorem dL_acts_925 : decode cL_acts 925 = .ok (.aload_n 1, 1) := by decide +kernel
theorem dL_acts_926 : decode cL_acts 926 = .ok (.iconst 1, 1) := by decide +kernel
theorem dL_acts_927 : decode cL_acts 927 = .ok (.iaload, 1) := by decide +kernel
theorem dL_acts_928 : decode cL_acts 928 = .ok (.iconst 1, 1) := by decide +kernel
theorem dL_acts_929 : decode cL_acts 929 = .ok (.isub, 1) := by decide +kernel
theorem dL_acts_930 : decode cL_acts 930 = .ok (.if_icmp .ne 7, 3) := by decide +kernel
theorem dL_acts_933 : decode cL_acts 933 = .ok (.iconst 1, 1) := by decide +kernel
theorem dL_acts_934 : decode cL_acts 934 = .ok (.goto 4, 3) := by decide +kernel
theorem dL_acts_937 : decode cL_acts 937 = .ok (.iconst 0, 1) := by decide +kernel
theorem dL_acts_938 : decode cL_acts 938 = .ok (.ireturn, 1) := by decide +kernel
theorem dL_acts_939 : decode cL_acts 939 = .ok (.iload 5, 2) := by decide +kernel
theorem dL_acts_941 : decode cL_acts 941 = .ok (.iconst 3, 1) := by decide +kernel
theorem dL_acts_942 : decode cL_acts 942 = .ok (.idiv, 1) := by decide +kernel
theorem dL_acts_943 : decode cL_acts 943 = .ok (.iconst 2, 1) := by decide +kernel
theorem dL_acts_944 : decode cL_acts 944 = .ok (.irem, 1) := by decide +kernel
theorem dL_acts_945 : decode cL_acts 945 = .ok (.istore 21, 2) := by decide +kernel
theorem dL_acts_947 : decode cL_acts 947 = .ok (.aload_n 2, 1) := by decide +kernel
theorem dL_acts_948 : decode cL_acts 948 = .ok (.bipush 19, 2) := by decide +kernel
theorem dL_acts_950 : decode cL_acts 950 = .ok (.iload 6, 2) := by decide +kernel
theorem dL_acts_952 : decode cL_acts 952 = .ok (.imul, 1) := by decide +kernel
theorem dL_acts_953 : decode cL_acts 953 = .ok (.iconst 2, 1) := by decide +kernel
theorem dL_acts_954 : decode cL_acts 954 = .ok (.iadd, 1) := by decide +kernel
theorem dL_acts_955 : decode cL_acts 955 = .ok (.iaload, 1) := by decide +kernel
theorem dL_acts_956 : decode cL_acts 956 = .ok (.iload 21, 2) := by decide +kernel
theorem dL_acts_958 : decode cL_acts 958 = .ok (.if_icmp .ne 7, 3) := by decide +kernel
theorem dL_acts_961 : decode cL_acts 961 = .ok (.iconst 1, 1) := by decide +kernel
theorem dL_acts_962 : decode cL_acts 962 = .ok (.goto 4, 3) := by decide +kernel
theorem dL_acts_965 : decode cL_acts 965 = .ok (.iconst 0, 1) := by decide +kernel
theorem dL_acts_966 : decode cL_acts 966 = .ok (.istore 22, 2) := by decide +kernel
theorem dL_acts_968 : decode cL_acts 968 = .ok (.aload_n 2, 1) := by decide +kernel
theorem dL_acts_969 : decode cL_acts 969 = .ok (.bipush 19, 2) := by decide +kernel
theorem dL_acts_971 : decode cL_acts 971 = .ok (.iload 6, 2) := by decide +kernel
theorem dL_acts_973 : decode cL_acts 973 = .ok (.imul, 1) := by decide +kernel
theorem dL_acts_974 : decode cL_acts 974 = .ok (.iconst 2, 1) := by decide +kernel
theorem dL_acts_975 : decode cL_acts 975 = .ok (.iadd, 1) := by decide +kernel
theorem dL_acts_976 : decode cL_acts 976 = .ok (.iload 21, 2) := by decide +kernel
theorem dL_acts_978 : decode cL_acts 978 = .ok (.iastore, 1) := by decide +kernel
theorem dL_acts_979 : decode cL_acts 979 = .ok (.aload_n 0, 1) := by decide +kernel
theorem dL_acts_980 : decode cL_acts 980 = .ok (.iload 6, 2) := by decide +kernel
theorem dL_acts_982 : decode cL_acts 982 = .ok (.iload 21, 2) := by decide +kernel
theorem dL_acts_984 : decode cL_acts 984 = .ok (.invokevirtual 71, 3) := by decide +kernel
theorem dL_acts_987 : decode cL_acts 987 = .ok (.iload 22, 2) := by decide +kernel
theorem dL_acts_989 : decode cL_acts 989 = .ok (.ifCond .eq 8, 3) := by decide +kernel
theorem dL_acts_992 : decode cL_acts 992 = .ok (.ldc 70, 2) := by decide +kernel
theorem dL_acts_994 : decode cL_acts 994 = .ok (.goto 13, 3) := by decide +kernel
theorem dL_acts_997 : decode cL_acts 997 = .ok (.aload_n 1, 1) := by decide +kernel
theorem dL_acts_998 : decode cL_acts 998 = .ok (.aload_n 3, 1) := by decide +kernel
theorem dL_acts_999 : decode cL_acts 999 = .ok (.iload 6, 2) := by decide +kernel
theorem dL_acts_1001 : decode cL_acts 1001 = .ok (.invokestatic 74, 3) := by decide +kernel
theorem dL_acts_1004 : decode cL_acts 1004 = .ok (.invokestatic 39, 3) := by decide +kernel
theorem dL_acts_1007 : decode cL_acts 1007 = .ok (.if_icmp .ne 7, 3) := by decide +kernel
theorem dL_acts_1010 : decode cL_acts 1010 = .ok (.iconst 1, 1) := by decide +kernel
theorem dL_acts_1011 : decode cL_acts 1011 = .ok (.goto 4, 3) := by decide +kernel
theorem dL_acts_1014 : decode cL_acts 1014 = .ok (.iconst 0, 1) := by decide +kernel
theorem dL_acts_1015 : decode cL_acts 1015 = .ok (.ireturn, 1) := by decide +kernel
theorem dL_acts_1016 : decode cL_acts 1016 = .ok (.aload_n 1, 1) := by decide +kernel
theorem dL_acts_1017 : decode cL_acts 1017 = .ok (.iconst 1, 1) := by decide +kernel
theorem dL_acts_1018 : decode cL_acts 1018 = .ok (.iaload, 1) := by decide +kernel
theorem dL_acts_1019 : decode cL_acts 1019 = .ok (.ifCond .ne 19, 3) := by decide +kernel
theorem dL_acts_1022 : decode cL_acts 1022 = .ok (.aload_n 0, 1) := by decide +kernel
theorem dL_acts_1023 : decode cL_acts 1023 = .ok (.iconst 0, 1) := by decide +kernel
theorem dL_acts_1024 : decode cL_acts 1024 = .ok (.invokevirtual 77, 3) := by decide +kernel
theorem dL_acts_1027 : decode cL_acts 1027 = .ok (.ldc 69, 2) := by decide +kernel
theorem dL_acts_1029 : decode cL_acts 1029 = .ok (.if_icmp .ne 7, 3) := by decide +kernel
theorem dL_acts_1032 : decode cL_acts 1032 = .ok (.iconst 1, 1) := by decide +kernel
theorem dL_acts_1033 : decode cL_acts 1033 = .ok (.goto 4, 3) := by decide +kernel
theorem dL_acts_1036 : decode cL_acts 1036 = .ok (.iconst 0, 1) := by decide +kernel
theorem dL_acts_1037 : decode cL_acts 1037 = .ok (.ireturn, 1) := by decide +kernel
theorem dL_acts_1038 : decode cL_acts 1038 = .ok (.aload_n 3, 1) := by decide +kernel
theorem dL_acts_1039 : decode cL_acts 1039 = .ok (.bipush 10, 2) := by decide +kernel
theorem dL_acts_1041 : decode cL_acts 1041 = .ok (.iload 9, 2) := by decide +kernel
theorem dL_acts_1043 : decode cL_acts 1043 = .ok (.imul, 1) := by decide +kernel
theorem dL_acts_1044 : decode cL_acts 1044 = .ok (.iconst 4, 1) := by decide +kernel
theorem dL_acts_1045 : decode cL_acts 1045 = .ok (.iadd, 1) := by decide +kernel
theorem dL_acts_1046 : decode cL_acts 1046 = .ok (.iaload, 1) := by decide +kernel
theorem dL_acts_1047 : decode cL_acts 1047 = .ok (.ifCond .gt 22, 3) := by decide +kernel
theorem dL_acts_1050 : decode cL_acts 1050 = .ok (.aload_n 2, 1) := by decide +kernel
theorem dL_acts_1051 : decode cL_acts 1051 = .ok (.bipush 19, 2) := by decide +kernel
theorem dL_acts_1053 : decode cL_acts 1053 = .ok (.aload_n 3, 1) := by decide +kernel
theorem dL_acts_1054 : decode cL_acts 1054 = .ok (.bipush 10, 2) := by decide +kernel
theorem dL_acts_1056 : decode cL_acts 1056 = .ok (.iload 9, 2) := by decide +kernel
theorem dL_acts_1058 : decode cL_acts 1058 = .ok (.imul, 1) := by decide +kernel
theorem dL_acts_1059 : decode cL_acts 1059 = .ok (.iaload, 1) := by decide +kernel
theorem dL_acts_1060 : decode cL_acts 1060 = .ok (.iconst 3, 1) := by decide +kernel
theorem dL_acts_1061 : decode cL_acts 1061 = .ok (.idiv, 1) := by decide +kernel
theorem dL_acts_1062 : decode cL_acts 1062 = .ok (.imul, 1) := by decide +kernel
theorem dL_acts_1063 : decode cL_acts 1063 = .ok (.iconst 2, 1) := by decide +kernel
theorem dL_acts_1064 : decode cL_acts 1064 = .ok (.iadd, 1) := by decide +kernel
theorem dL_acts_1065 : decode cL_acts 1065 = .ok (.iaload, 1) := by decide +kernel
theorem dL_acts_1066 : decode cL_acts 1066 = .ok (.ifCond .ne 20, 3) := by decide +kernel
theorem dL_acts_1069 : decode cL_acts 1069 = .ok (.aload_n 0, 1) := by decide +kernel
theorem dL_acts_1070 : decode cL_acts 1070 = .ok (.iload 9, 2) := by decide +kernel
theorem dL_acts_1072 : decode cL_acts 1072 = .ok (.invokevirtual 77, 3) := by decide +kernel
theorem dL_acts_1075 : decode cL_acts 1075 = .ok (.ldc 70, 2) := by decide +kernel
theorem dL_acts_1077 : decode cL_acts 1077 = .ok (.if_icmp .ne 7, 3) := by decide +kernel
theorem dL_acts_1080 : decode cL_acts 1080 = .ok (.iconst 1, 1) := by decide +kernel
theorem dL_acts_1081 : decode cL_acts 1081 = .ok (.goto 4, 3) := by decide +kernel
theorem dL_acts_1084 : decode cL_acts 1084 = .ok (.iconst 0, 1) := by decide +kernel
theorem dL_acts_1085 : decode cL_acts 1085 = .ok (.ireturn, 1) := by decide +kernel
theorem dL_acts_1086 : decode cL_acts 1086 = .ok (.aload_n 3, 1) := by decide +kernel
theorem dL_acts_1087 : decode cL_acts 1087 = .ok (.bipush 10, 2) := by decide +kernel
theorem dL_acts_1089 : decode cL_acts 1089 = .ok (.iload 9, 2) := by decide +kernel
theorem dL_acts_1091 : decode cL_acts 1091 = .ok (.imul, 1) := by decide +kernel
theorem dL_acts_1092 : decode cL_acts 1092 = .ok (.iconst 4, 1) := by decide +kernel
theorem dL_acts_1093 : decode cL_acts 1093 = .ok (.iadd, 1) := by decide +kernel
theorem dL_acts_1094 : decode cL_acts 1094 = .ok (.aload_n 3, 1) := by decide +kernel
theorem dL_acts_1095 : decode cL_acts 1095 = .ok (.bipush 10, 2) := by decide +kernel
theorem dL_acts_1097 : decode cL_acts 1097 = .ok (.iload 9, 2) := by decide +kernel
theorem dL_acts_1099 : decode cL_acts 1099 = .ok (.imul, 1) := by decide +kernel
theorem dL_acts_1100 : decode cL_acts 1100 = .ok (.bipush 7, 2) := by decide +kernel
theorem dL_acts_1102 : decode cL_acts 1102 = .ok (.iadd, 1) := by decide +kernel
theorem dL_acts_1103 : decode cL_acts 1103 = .ok (.iaload, 1) := by decide +kernel
theorem dL_acts_1104 : decode cL_acts 1104 = .ok (.aload_n 3, 1) := by decide +kernel
theorem dL_acts_1105 : decode cL_acts 1105 = .ok (.bipush 10, 2) := by decide +kernel
theorem dL_acts_1107 : decode cL_acts 1107 = .ok (.iload 9, 2) := by decide +kernel
theorem dL_acts_1109 : decode cL_acts 1109 = .ok (.imul, 1) := by decide +kernel
theorem dL_acts_1110 : decode cL_acts 1110 = .ok (.iconst 2, 1) := by decide +kernel
theorem dL_acts_1111 : decode cL_acts 1111 = .ok (.iadd, 1) := by decide +kernel
theorem dL_acts_1112 : decode cL_acts 1112 = .ok (.iaload, 1) := by decide +kernel
theorem dL_acts_1113 : decode cL_acts 1113 = .ok (.if_icmp .le 7, 3) := by decide +kernel
theorem dL_acts_1116 : decode cL_acts 1116 = .ok (.iconst 2, 1) := by decide +kernel
theorem dL_acts_1117 : decode cL_acts 1117 = .ok (.goto 4, 3) := by decide +kernel
theorem dL_acts_1120 : decode cL_acts 1120 = .ok (.iconst 1, 1) := by decide +kernel
theorem dL_acts_1121 : decode cL_acts 1121 = .ok (.iastore, 1) := by decide +kernel
theorem dL_acts_1122 : decode cL_acts 1122 = .ok (.aload_n 0, 1) := by decide +kernel
theorem dL_acts_1123 : decode cL_acts 1123 = .ok (.iload 9, 2) := by decide +kernel
theorem dL_acts_1125 : decode cL_acts 1125 = .ok (.invokevirtual 77, 3) := by decide +kernel
theorem dL_acts_1128 : decode cL_acts 1128 = .ok (.aload_n 3, 1) := by decide +kernel
theorem dL_acts_1129 : decode cL_acts 1129 = .ok (.bipush 10, 2) := by decide +kernel
theorem dL_acts_1131 : decode cL_acts 1131 = .ok (.iload 9, 2) := by decide +kernel
theorem dL_acts_1133 : decode cL_acts 1133 = .ok (.imul, 1) := by decide +kernel
theorem dL_acts_1134 : decode cL_acts 1134 = .ok (.iconst 4, 1) := by decide +kernel
theorem dL_acts_1135 : decode cL_acts 1135 = .ok (.iadd, 1) := by decide +kernel
theorem dL_acts_1136 : decode cL_acts 1136 = .ok (.iaload, 1) := by decide +kernel
theorem dL_acts_1137 : decode cL_acts 1137 = .ok (.if_icmp .ne 7, 3) := by decide +kernel
theorem dL_acts_1140 : decode cL_acts 1140 = .ok (.iconst 1, 1) := by decide +kernel
theorem dL_acts_1141 : decode cL_acts 1141 = .ok (.goto 4, 3) := by decide +kernel
theorem dL_acts_1144 : decode cL_acts 1144 = .ok (.iconst 0, 1) := by decide +kernel
theorem dL_acts_1145 : decode cL_acts 1145 = .ok (.ireturn, 1) := by decide +kernel
theorem dL_acts_1146 : decode cL_acts 1146 = .ok (.iconst 0, 1) := by decide +kernel
theorem dL_acts_1147 : decode cL_acts 1147 = .ok (.istore 23, 2) := by decide +kernel
theorem dL_acts_1149 : decode cL_acts 1149 = .ok (.iconst 0, 1) := by decide +kernel
theorem dL_acts_1150 : decode cL_acts 1150 = .ok (.istore 24, 2) := by decide +kernel
theorem dL_acts_1152 : decode cL_acts 1152 = .ok (.iload 24, 2) := by decide +kernel
theorem dL_acts_1154 : decode cL_acts 1154 = .ok (.aload_n 1, 1) := by decide +kernel
theorem dL_acts_1155 : decode cL_acts 1155 = .ok (.iconst 1, 1) := by decide +kernel
theorem dL_acts_1156 : decode cL_acts 1156 = .ok (.iaload, 1) := by decide +kernel
theorem dL_acts_1157 : decode cL_acts 1157 = .ok (.if_icmp .ge 45, 3) := by decide +kernel
theorem dL_acts_1160 : decode cL_acts 1160 = .ok (.iload 23, 2) := by decide +kernel
theorem dL_acts_1162 : decode cL_acts 1162 = .ok (.aload_n 3, 1) := by decide +kernel
theorem dL_acts_1163 : decode cL_acts 1163 = .ok (.bipush 10, 2) := by decide +kernel
theorem dL_acts_1165 : decode cL_acts 1165 = .ok (.iload 24, 2) := by decide +kernel
theorem dL_acts_1167 : decode cL_acts 1167 = .ok (.imul, 1) := by decide +kernel
theorem dL_acts_1168 : decode cL_acts 1168 = .ok (.iconst 4, 1) := by decide +kernel
theorem dL_acts_1169 : decode cL_acts 1169 = .ok (.iadd, 1) := by decide +kernel
theorem dL_acts_1170 : decode cL_acts 1170 = .ok (.iaload, 1) := by decide +kernel
theorem dL_acts_1171 : decode cL_acts 1171 = .ok (.iconst 2, 1) := by decide +kernel
theorem dL_acts_1172 : decode cL_acts 1172 = .ok (.if_icmp .ne 20, 3) := by decide +kernel
theorem dL_acts_1175 : decode cL_acts 1175 = .ok (.iload 5, 2) := by decide +kernel
theorem dL_acts_1177 : decode cL_acts 1177 = .ok (.iload 24, 2) := by decide +kernel
theorem dL_acts_1179 : decode cL_acts 1179 = .ok (.ishr, 1) := by decide +kernel
theorem dL_acts_1180 : decode cL_acts 1180 = .ok (.iconst 1, 1) := by decide +kernel
theorem dL_acts_1181 : decode cL_acts 1181 = .ok (.iand, 1) := by decide +kernel
theorem dL_acts_1182 : decode cL_acts 1182 = .ok (.ifCond .ne 10, 3) := by decide +kernel
theorem dL_acts_1185 : decode cL_acts 1185 = .ok (.iconst 1, 1) := by decide +kernel
theorem dL_acts_1186 : decode cL_acts 1186 = .ok (.iload 24, 2) := by decide +kernel
theorem dL_acts_1188 : decode cL_acts 1188 = .ok (.ishl, 1) := by decide +kernel
theorem dL_acts_1189 : decode cL_acts 1189 = .ok (.goto 4, 3) := by decide +kernel
theorem dL_acts_1192 : decode cL_acts 1192 = .ok (.iconst 0, 1) := by decide +kernel
theorem dL_acts_1193 : decode cL_acts 1193 = .ok (.ior, 1) := by decide +kernel
theorem dL_acts_1194 : decode cL_acts 1194 = .ok (.istore 23, 2) := by decide +kernel
theorem dL_acts_1196 : decode cL_acts 1196 = .ok (.iinc 24 1, 3) := by decide +kernel
theorem dL_acts_1199 : decode cL_acts 1199 = .ok (.goto (-47), 3) := by decide +kernel
theorem dL_acts_1202 : decode cL_acts 1202 = .ok (.iload 23, 2) := by decide +kernel
theorem dL_acts_1204 : decode cL_acts 1204 = .ok (.ifCond .ne 58, 3) := by decide +kernel
theorem dL_acts_1207 : decode cL_acts 1207 = .ok (.aload_n 0, 1) := by decide +kernel
theorem dL_acts_1208 : decode cL_acts 1208 = .ok (.iconst 0, 1) := by decide +kernel
theorem dL_acts_1209 : decode cL_acts 1209 = .ok (.iload 5, 2) := by decide +kernel
theorem dL_acts_1211 : decode cL_acts 1211 = .ok (.sipush 10000, 3) := by decide +kernel
theorem dL_acts_1214 : decode cL_acts 1214 = .ok (.irem, 1) := by decide +kernel
theorem dL_acts_1215 : decode cL_acts 1215 = .ok (.invokevirtual 80, 3) := by decide +kernel
theorem dL_acts_1218 : decode cL_acts 1218 = .ok (.ldc 69, 2) := by decide +kernel
theorem dL_acts_1220 : decode cL_acts 1220 = .ok (.if_icmp .ne 40, 3) := by decide +kernel
theorem dL_acts_1223 : decode cL_acts 1223 = .ok (.aload_n 1, 1) := by decide +kernel
theorem dL_acts_1224 : decode cL_acts 1224 = .ok (.iconst 1, 1) := by decide +kernel
theorem dL_acts_1225 : decode cL_acts 1225 = .ok (.iaload, 1) := by decide +kernel
theorem dL_acts_1226 : decode cL_acts 1226 = .ok (.ifCond .eq 30, 3) := by decide +kernel
theorem dL_acts_1229 : decode cL_acts 1229 = .ok (.aload_n 3, 1) := by decide +kernel
theorem dL_acts_1230 : decode cL_acts 1230 = .ok (.bipush 10, 2) := by decide +kernel
theorem dL_acts_1232 : decode cL_acts 1232 = .ok (.iload 9, 2) := by decide +kernel
theorem dL_acts_1234 : decode cL_acts 1234 = .ok (.imul, 1) := by decide +kernel
theorem dL_acts_1235 : decode cL_acts 1235 = .ok (.iconst 4, 1) := by decide +kernel
theorem dL_acts_1236 : decode cL_acts 1236 = .ok (.iadd, 1) := by decide +kernel
theorem dL_acts_1237 : decode cL_acts 1237 = .ok (.iaload, 1) := by decide +kernel
theorem dL_acts_1238 : decode cL_acts 1238 = .ok (.iconst 2, 1) := by decide +kernel
theorem dL_acts_1239 : decode cL_acts 1239 = .ok (.if_icmp .eq 17, 3) := by decide +kernel
theorem dL_acts_1242 : decode cL_acts 1242 = .ok (.aload_n 0, 1) := by decide +kernel
theorem dL_acts_1243 : decode cL_acts 1243 = .ok (.iconst 1, 1) := by decide +kernel
theorem dL_acts_1244 : decode cL_acts 1244 = .ok (.iload 9, 2) := by decide +kernel
theorem dL_acts_1246 : decode cL_acts 1246 = .ok (.ishl, 1) := by decide +kernel
theorem dL_acts_1247 : decode cL_acts 1247 = .ok (.iconst 5, 1) := by decide +kernel
theorem dL_acts_1248 : decode cL_acts 1248 = .ok (.invokevirtual 80, 3) := by decide +kernel
theorem dL_acts_1251 : decode cL_acts 1251 = .ok (.ldc 70, 2) := by decide +kernel
theorem dL_acts_1253 : decode cL_acts 1253 = .ok (.if_icmp .ne 7, 3) := by decide +kernel
theorem dL_acts_1256 : decode cL_acts 1256 = .ok (.iconst 1, 1) := by decide +kernel
theorem dL_acts_1257 : decode cL_acts 1257 = .ok (.goto 4, 3) := by decide +kernel
theorem dL_acts_1260 : decode cL_acts 1260 = .ok (.iconst 0, 1) := by decide +kernel
theorem dL_acts_1261 : decode cL_acts 1261 = .ok (.ireturn, 1) := by decide +kernel
theorem dL_acts_1262 : decode cL_acts 1262 = .ok (.aload_n 0, 1) := by decide +kernel
theorem dL_acts_1263 : decode cL_acts 1263 = .ok (.iload 23, 2) := by decide +kernel
theorem dL_acts_1265 : decode cL_acts 1265 = .ok (.iload 5, 2) := by decide +kernel
theorem dL_acts_1267 : decode cL_acts 1267 = .ok (.sipush 10000, 3) := by decide +kernel
theorem dL_acts_1270 : decode cL_acts 1270 = .ok (.irem, 1) := by decide +kernel
theorem dL_acts_1271 : decode cL_acts 1271 = .ok (.invokevirtual 80, 3) := by decide +kernel
theorem dL_acts_1274 : decode cL_acts 1274 = .ok (.aload_n 1, 1) := by decide +kernel
theorem dL_acts_1275 : decode cL_acts 1275 = .ok (.aload_n 3, 1) := by decide +kernel
theorem dL_acts_1276 : decode cL_acts 1276 = .ok (.iload 23, 2) := by decide +kernel
theorem dL_acts_1278 : decode cL_acts 1278 = .ok (.iload 5, 2) := by decide +kernel
theorem dL_acts_1280 : decode cL_acts 1280 = .ok (.sipush 10000, 3) := by decide +kernel
theorem dL_acts_1283 : decode cL_acts 1283 = .ok (.irem, 1) := by decide +kernel
theorem dL_acts_1284 : decode cL_acts 1284 = .ok (.invokestatic 83, 3) := by decide +kernel
theorem dL_acts_1287 : decode cL_acts 1287 = .ok (.if_icmp .ne 7, 3) := by decide +kernel
theorem dL_acts_1290 : decode cL_acts 1290 = .ok (.iconst 1, 1) := by decide +kernel
theorem dL_acts_1291 : decode cL_acts 1291 = .ok (.goto 4, 3) := by decide +kernel
theorem dL_acts_1294 : decode cL_acts 1294 = .ok (.iconst 0, 1) := by decide +kernel
theorem dL_acts_1295 : decode cL_acts 1295 = .ok (.ireturn, 1) := by decide +kernel
theorem dL_acts_1296 : decode cL_acts 1296 = .ok (.iload 5, 2) := by decide +kernel
theorem dL_acts_1298 : decode cL_acts 1298 = .ok (.bipush 7, 2) := by decide +kernel
theorem dL_acts_1300 : decode cL_acts 1300 = .ok (.irem, 1) := by decide +kernel
theorem dL_acts_1301 : decode cL_acts 1301 = .ok (.ifCond .ne 16, 3) := by decide +kernel
theorem dL_acts_1304 : decode cL_acts 1304 = .ok (.iconst 1, 1) := by decide +kernel
theorem dL_acts_1305 : decode cL_acts 1305 = .ok (.iload 5, 2) := by decide +kernel
theorem dL_acts_1307 : decode cL_acts 1307 = .ok (.bipush 7, 2) := by decide +kernel
theorem dL_acts_1309 : decode cL_acts 1309 = .ok (.idiv, 1) := by decide +kernel
theorem dL_acts_1310 : decode cL_acts 1310 = .ok (.bipush 60, 2) := by decide +kernel
theorem dL_acts_1312 : decode cL_acts 1312 = .ok (.irem, 1) := by decide +kernel
theorem dL_acts_1313 : decode cL_acts 1313 = .ok (.iadd, 1) := by decide +kernel
theorem dL_acts_1314 : decode cL_acts 1314 = .ok (.goto 10, 3) := by decide +kernel
theorem dL_acts_1317 : decode cL_acts 1317 = .ok (.iconst 1, 1) := by decide +kernel
theorem dL_acts_1318 : decode cL_acts 1318 = .ok (.iload 5, 2) := by decide +kernel
theorem dL_acts_1320 : decode cL_acts 1320 = .ok (.bipush 9, 2) := by decide +kernel
theorem dL_acts_1322 : decode cL_acts 1322 = .ok (.irem, 1) := by decide +kernel
theorem dL_acts_1323 : decode cL_acts 1323 = .ok (.iadd, 1) := by decide +kernel
theorem dL_acts_1324 : decode cL_acts 1324 = .ok (.istore 24, 2) := by decide +kernel
theorem dL_acts_1326 : decode cL_acts 1326 = .ok (.aload_n 1, 1) := by decide +kernel
theorem dL_acts_1327 : decode cL_acts 1327 = .ok (.iconst 2, 1) := by decide +kernel
theorem dL_acts_1328 : decode cL_acts 1328 = .ok (.iaload, 1) := by decide +kernel
theorem dL_acts_1329 : decode cL_acts 1329 = .ok (.iload 24, 2) := by decide +kernel
theorem dL_acts_1331 : decode cL_acts 1331 = .ok (.iadd, 1) := by decide +kernel
theorem dL_acts_1332 : decode cL_acts 1332 = .ok (.sipush 600, 3) := by decide +kernel
theorem dL_acts_1335 : decode cL_acts 1335 = .ok (.if_icmp .le 20, 3) := by decide +kernel
theorem dL_acts_1338 : decode cL_acts 1338 = .ok (.aload_n 0, 1) := by decide +kernel
theorem dL_acts_1339 : decode cL_acts 1339 = .ok (.iload 24, 2) := by decide +kernel
theorem dL_acts_1341 : decode cL_acts 1341 = .ok (.invokevirtual 87, 3) := by decide +kernel
theorem dL_acts_1344 : decode cL_acts 1344 = .ok (.ldc 50, 2) := by decide +kernel
theorem dL_acts_1346 : decode cL_acts 1346 = .ok (.if_icmp .ne 7, 3) := by decide +kernel
theorem dL_acts_1349 : decode cL_acts 1349 = .ok (.iconst 1, 1) := by decide +kernel
theorem dL_acts_1350 : decode cL_acts 1350 = .ok (.goto 4, 3) := by decide +kernel
theorem dL_acts_1353 : decode cL_acts 1353 = .ok (.iconst 0, 1) := by decide +kernel
theorem dL_acts_1354 : decode cL_acts 1354 = .ok (.ireturn, 1) := by decide +kernel
theorem dL_acts_1355 : decode cL_acts 1355 = .ok (.aload_n 1, 1) := by decide +kernel
theorem dL_acts_1356 : decode cL_acts 1356 = .ok (.aload_n 2, 1) := by decide +kernel
theorem dL_acts_1357 : decode cL_acts 1357 = .ok (.aload_n 3, 1) := by decide +kernel
theorem dL_acts_1358 : decode cL_acts 1358 = .ok (.iload 24, 2) := by decide +kernel
theorem dL_acts_1360 : decode cL_acts 1360 = .ok (.invokestatic 90, 3) := by decide +kernel
theorem dL_acts_1363 : decode cL_acts 1363 = .ok (.istore 25, 2) := by decide +kernel
theorem dL_acts_1365 : decode cL_acts 1365 = .ok (.aload_n 0, 1) := by decide +kernel
theorem dL_acts_1366 : decode cL_acts 1366 = .ok (.iload 24, 2) := by decide +kernel
theorem dL_acts_1368 : decode cL_acts 1368 = .ok (.invokevirtual 87, 3) := by decide +kernel
theorem dL_acts_1371 : decode cL_acts 1371 = .ok (.iload 25, 2) := by decide +kernel
theorem dL_acts_1373 : decode cL_acts 1373 = .ok (.if_icmp .ne 7, 3) := by decide +kernel
theorem dL_acts_1376 : decode cL_acts 1376 = .ok (.iconst 1, 1) := by decide +kernel
theorem dL_acts_1377 : decode cL_acts 1377 = .ok (.goto 4, 3) := by decide +kernel
theorem dL_acts_1380 : decode cL_acts 1380 = .ok (.iconst 0, 1) := by decide +kernel
theorem dL_acts_1381 : decode cL_acts 1381 = .ok (.ireturn, 1) := by decide +kernel
theorem dL_cause_0 : decode cL_cause 0 = .ok (.bipush 10, 2) := by decide +kernel
theorem dL_cause_2 : decode cL_cause 2 = .ok (.iload_n 1, 1) := by decide +kernel
theorem dL_cause_3 : decode cL_cause 3 = .ok (.imul, 1) := by decide +kernel
theorem dL_cause_4 : decode cL_cause 4 = .ok (.istore_n 2, 1) := by decide +kernel
theorem dL_cause_5 : decode cL_cause 5 = .ok (.aload_n 0, 1) := by decide +kernel
theorem dL_cause_6 : decode cL_cause 6 = .ok (.iload_n 2, 1) := by decide +kernel
theorem dL_cause_7 : decode cL_cause 7 = .ok (.iconst 5, 1) := by decide +kernel
theorem dL_cause_8 : decode cL_cause 8 = .ok (.iadd, 1) := by decide +kernel
theorem dL_cause_9 : decode cL_cause 9 = .ok (.iaload, 1) := by decide +kernel
theorem dL_cause_10 : decode cL_cause 10 = .ok (.aload_n 0, 1) := by decide +kernel
theorem dL_cause_11 : decode cL_cause 11 = .ok (.iload_n 2, 1) := by decide +kernel
theorem dL_cause_12 : decode cL_cause 12 = .ok (.bipush 6, 2) := by decide +kernel
theorem dL_cause_14 : decode cL_cause 14 = .ok (.iadd, 1) := by decide +kernel
theorem dL_cause_15 : decode cL_cause 15 = .ok (.iaload, 1) := by decide +kernel
theorem dL_cause_16 : decode cL_cause 16 = .ok (.iadd, 1) := by decide +kernel
theorem dL_cause_17 : decode cL_cause 17 = .ok (.istore_n 3, 1) := by decide +kernel
theorem dL_cause_18 : decode cL_cause 18 = .ok (.aload_n 0, 1) := by decide +kernel
theorem dL_cause_19 : decode cL_cause 19 = .ok (.iload_n 2, 1) := by decide +kernel
theorem dL_cause_20 : decode cL_cause 20 = .ok (.iconst 4, 1) := by decide +kernel
theorem dL_cause_21 : decode cL_cause 21 = .ok (.iadd, 1) := by decide +kernel
theorem dL_cause_22 : decode cL_cause 22 = .ok (.iaload, 1) := by decide +kernel
theorem dL_cause_23 : decode cL_cause 23 = .ok (.iconst 2, 1) := by decide +kernel
theorem dL_cause_24 : decode cL_cause 24 = .ok (.if_icmp .ge 7, 3) := by decide +kernel
theorem dL_cause_27 : decode cL_cause 27 = .ok (.iconst 0, 1) := by decide +kernel
theorem dL_cause_28 : decode cL_cause 28 = .ok (.goto 35, 3) := by decide +kernel
theorem dL_cause_31 : decode cL_cause 31 = .ok (.iload_n 3, 1) := by decide +kernel
theorem dL_cause_32 : decode cL_cause 32 = .ok (.aload_n 0, 1) := by decide +kernel
theorem dL_cause_33 : decode cL_cause 33 = .ok (.iload_n 2, 1) := by decide +kernel
theorem dL_cause_34 : decode cL_cause 34 = .ok (.iconst 2, 1) := by decide +kernel
theorem dL_cause_35 : decode cL_cause 35 = .ok (.iadd, 1) := by decide +kernel
theorem dL_cause_36 : decode cL_cause 36 = .ok (.iaload, 1) := by decide +kernel
theorem dL_cause_37 : decode cL_cause 37 = .ok (.if_icmp .gt 7, 3) := by decide +kernel
theorem dL_cause_40 : decode cL_cause 40 = .ok (.iconst 3, 1) := by decide +kernel
theorem dL_cause_41 : decode cL_cause 41 = .ok (.goto 22, 3) := by decide +kernel
theorem dL_cause_44 : decode cL_cause 44 = .ok (.aload_n 0, 1) := by decide +kernel
theorem dL_cause_45 : decode cL_cause 45 = .ok (.iload_n 2, 1) := by decide +kernel
theorem dL_cause_46 : decode cL_cause 46 = .ok (.iconst 5, 1) := by decide +kernel
theorem dL_cause_47 : decode cL_cause 47 = .ok (.iadd, 1) := by decide +kernel
theorem dL_cause_48 : decode cL_cause 48 = .ok (.iaload, 1) := by decide +kernel
theorem dL_cause_49 : decode cL_cause 49 = .ok (.aload_n 0, 1) := by decide +kernel
theorem dL_cause_50 : decode cL_cause 50 = .ok (.iload_n 2, 1) := by decide +kernel
theorem dL_cause_51 : decode cL_cause 51 = .ok (.bipush 6, 2) := by decide +kernel
theorem dL_cause_53 : decode cL_cause 53 = .ok (.iadd, 1) := by decide +kernel
theorem dL_cause_54 : decode cL_cause 54 = .ok (.iaload, 1) := by decide +kernel
theorem dL_cause_55 : decode cL_cause 55 = .ok (.if_icmp .ge 7, 3) := by decide +kernel
theorem dL_cause_58 : decode cL_cause 58 = .ok (.iconst 2, 1) := by decide +kernel
theorem dL_cause_59 : decode cL_cause 59 = .ok (.goto 4, 3) := by decide +kernel
theorem dL_cause_62 : decode cL_cause 62 = .ok (.iconst 1, 1) := by decide +kernel
theorem dL_cause_63 : decode cL_cause 63 = .ok (.ireturn, 1) := by decide +kernel
theorem dL_isSo_0 : decode cL_isSo 0 = .ok (.iconst 1, 1) := by decide +kernel
theorem dL_isSo_1 : decode cL_isSo 1 = .ok (.istore 4, 2) := by decide +kernel
theorem dL_isSo_3 : decode cL_isSo 3 = .ok (.iconst 0, 1) := by decide +kernel
theorem dL_isSo_4 : decode cL_isSo 4 = .ok (.istore 5, 2) := by decide +kernel
theorem dL_isSo_6 : decode cL_isSo 6 = .ok (.iconst 0, 1) := by decide +kernel
theorem dL_isSo_7 : decode cL_isSo 7 = .ok (.istore 6, 2) := by decide +kernel
theorem dL_isSo_9 : decode cL_isSo 9 = .ok (.iload 6, 2) := by decide +kernel
theorem dL_isSo_11 : decode cL_isSo 11 = .ok (.bipush 6, 2) := by decide +kernel
theorem dL_isSo_13 : decode cL_isSo 13 = .ok (.if_icmp .ge 34, 3) := by decide +kernel
theorem dL_isSo_16 : decode cL_isSo 16 = .ok (.iload 4, 2) := by decide +kernel
theorem dL_isSo_18 : decode cL_isSo 18 = .ok (.ifCond .eq 20, 3) := by decide +kernel
theorem dL_isSo_21 : decode cL_isSo 21 = .ok (.aload_n 0, 1) := by decide +kernel
theorem dL_isSo_22 : decode cL_isSo 22 = .ok (.iload 6, 2) := by decide +kernel
theorem dL_isSo_24 : decode cL_isSo 24 = .ok (.invokevirtual 94, 3) := by decide +kernel
theorem dL_isSo_27 : decode cL_isSo 27 = .ok (.aload_n 1, 1) := by decide +kernel
theorem dL_isSo_28 : decode cL_isSo 28 = .ok (.iload 6, 2) := by decide +kernel
theorem dL_isSo_30 : decode cL_isSo 30 = .ok (.iaload, 1) := by decide +kernel
theorem dL_isSo_31 : decode cL_isSo 31 = .ok (.if_icmp .ne 7, 3) := by decide +kernel
theorem dL_isSo_34 : decode cL_isSo 34 = .ok (.iconst 1, 1) := by decide +kernel
theorem dL_isSo_35 : decode cL_isSo 35 = .ok (.goto 4, 3) := by decide +kernel
theorem dL_isSo_38 : decode cL_isSo 38 = .ok (.iconst 0, 1) := by decide +kernel
theorem dL_isSo_39 : decode cL_isSo 39 = .ok (.istore 4, 2) := by decide +kernel
theorem dL_isSo_41 : decode cL_isSo 41 = .ok (.iinc 6 1, 3) := by decide +kernel
theorem dL_isSo_44 : decode cL_isSo 44 = .ok (.goto (-35), 3) := by decide +kernel
theorem dL_isSo_47 : decode cL_isSo 47 = .ok (.iconst 0, 1) := by decide +kernel
theorem dL_isSo_48 : decode cL_isSo 48 = .ok (.istore 6, 2) := by decide +kernel
theorem dL_isSo_50 : decode cL_isSo 50 = .ok (.iload 6, 2) := by decide +kernel
theorem dL_isSo_52 : decode cL_isSo 52 = .ok (.aload_n 1, 1) := by decide +kernel
theorem dL_isSo_53 : decode cL_isSo 53 = .ok (.iconst 0, 1) := by decide +kernel
theorem dL_isSo_54 : decode cL_isSo 54 = .ok (.iaload, 1) := by decide +kernel
theorem dL_isSo_55 : decode cL_isSo 55 = .ok (.if_icmp .ge 259, 3) := by decide +kernel
theorem dL_isSo_58 : decode cL_isSo 58 = .ok (.iload 4, 2) := by decide +kernel
theorem dL_isSo_60 : decode cL_isSo 60 = .ok (.ifCond .eq 254, 3) := by decide +kernel
theorem dL_isSo_63 : decode cL_isSo 63 = .ok (.aload_n 0, 1) := by decide +kernel
theorem dL_isSo_64 : decode cL_isSo 64 = .ok (.iload 6, 2) := by decide +kernel
theorem dL_isSo_66 : decode cL_isSo 66 = .ok (.iconst 0, 1) := by decide +kernel
theorem dL_isSo_67 : decode cL_isSo 67 = .ok (.invokevirtual 97, 3) := by decide +kernel
theorem dL_isSo_70 : decode cL_isSo 70 = .ok (.aload_n 2, 1) := by decide +kernel
theorem dL_isSo_71 : decode cL_isSo 71 = .ok (.bipush 19, 2) := by decide +kernel
theorem dL_isSo_73 : decode cL_isSo 73 = .ok (.iload 6, 2) := by decide +kernel
theorem dL_isSo_75 : decode cL_isSo 75 = .ok (.imul, 1) := by decide +kernel
theorem dL_isSo_76 : decode cL_isSo 76 = .ok (.iaload, 1) := by decide +kernel
theorem dL_isSo_77 : decode cL_isSo 77 = .ok (.if_icmp .ne 62, 3) := by decide +kernel
theorem dL_isSo_80 : decode cL_isSo 80 = .ok (.aload_n 0, 1) := by decide +kernel
theorem dL_isSo_81 : decode cL_isSo 81 = .ok (.iload 6, 2) := by decide +kernel
theorem dL_isSo_83 : decode cL_isSo 83 = .ok (.iconst 1, 1) := by decide +kernel
theorem dL_isSo_84 : decode cL_isSo 84 = .ok (.invokevirtual 97, 3) := by decide +kernel
theorem dL_isSo_87 : decode cL_isSo 87 = .ok (.aload_n 2, 1) := by decide +kernel
theorem dL_isSo_88 : decode cL_isSo 88 = .ok (.bipush 19, 2) := by decide +kernel
theorem dL_isSo_90 : decode cL_isSo 90 = .ok (.iload 6, 2) := by decide +kernel
theorem dL_isSo_92 : decode cL_isSo 92 = .ok (.imul, 1) := by decide +kernel
theorem dL_isSo_93 : decode cL_isSo 93 = .ok (.iconst 1, 1) := by decide +kernel
theorem dL_isSo_94 : decode cL_isSo 94 = .ok (.iadd, 1) := by decide +kernel
theorem dL_isSo_95 : decode cL_isSo 95 = .ok (.iaload, 1) := by decide +kernel
theorem dL_isSo_96 : decode cL_isSo 96 = .ok (.if_icmp .ne 43, 3) := by decide +kernel
theorem dL_isSo_99 : decode cL_isSo 99 = .ok (.aload_n 0, 1) := by decide +kernel
theorem dL_isSo_100 : decode cL_isSo 100 = .ok (.iload 6, 2) := by decide +kernel
theorem dL_isSo_102 : decode cL_isSo 102 = .ok (.iconst 2, 1) := by decide +kernel
theorem dL_isSo_103 : decode cL_isSo 103 = .ok (.invokevirtual 97, 3) := by decide +kernel
theorem dL_isSo_106 : decode cL_isSo 106 = .ok (.aload_n 2, 1) := by decide +kernel
theorem dL_isSo_107 : decode cL_isSo 107 = .ok (.bipush 19, 2) := by decide +kernel
theorem dL_isSo_109 : decode cL_isSo 109 = .ok (.iload 6, 2) := by decide +kernel
theorem dL_isSo_111 : decode cL_isSo 111 = .ok (.imul, 1) := by decide +kernel
theorem dL_isSo_112 : decode cL_isSo 112 = .ok (.iconst 2, 1) := by decide +kernel
theorem dL_isSo_113 : decode cL_isSo 113 = .ok (.iadd, 1) := by decide +kernel
theorem dL_isSo_114 : decode cL_isSo 114 = .ok (.iaload, 1) := by decide +kernel
theorem dL_isSo_115 : decode cL_isSo 115 = .ok (.if_icmp .ne 24, 3) := by decide +kernel
theorem dL_isSo_118 : decode cL_isSo 118 = .ok (.aload_n 0, 1) := by decide +kernel
theorem dL_isSo_119 : decode cL_isSo 119 = .ok (.iload 6, 2) := by decide +kernel
theorem dL_isSo_121 : decode cL_isSo 121 = .ok (.iconst 3, 1) := by decide +kernel
theorem dL_isSo_122 : decode cL_isSo 122 = .ok (.invokevirtual 97, 3) := by decide +kernel
theorem dL_isSo_125 : decode cL_isSo 125 = .ok (.aload_n 1, 1) := by decide +kernel
theorem dL_isSo_126 : decode cL_isSo 126 = .ok (.aload_n 3, 1) := by decide +kernel
theorem dL_isSo_127 : decode cL_isSo 127 = .ok (.iload 6, 2) := by decide +kernel
theorem dL_isSo_129 : decode cL_isSo 129 = .ok (.invokestatic 74, 3) := by decide +kernel
theorem dL_isSo_132 : decode cL_isSo 132 = .ok (.if_icmp .ne 7, 3) := by decide +kernel
theorem dL_isSo_135 : decode cL_isSo 135 = .ok (.iconst 1, 1) := by decide +kernel
theorem dL_isSo_136 : decode cL_isSo 136 = .ok (.goto 4, 3) := by decide +kernel
theorem dL_isSo_139 : decode cL_isSo 139 = .ok (.iconst 0, 1) := by decide +kernel
theorem dL_isSo_140 : decode cL_isSo 140 = .ok (.istore 4, 2) := by decide +kernel
theorem dL_isSo_142 : decode cL_isSo 142 = .ok (.iconst 0, 1) := by decide +kernel
theorem dL_isSo_143 : decode cL_isSo 143 = .ok (.istore 7, 2) := by decide +kernel
theorem dL_isSo_145 : decode cL_isSo 145 = .ok (.iload 7, 2) := by decide +kernel
theorem dL_isSo_147 : decode cL_isSo 147 = .ok (.iconst 3, 1) := by decide +kernel
theorem dL_isSo_148 : decode cL_isSo 148 = .ok (.if_icmp .ge 160, 3) := by decide +kernel
theorem dL_isSo_151 : decode cL_isSo 151 = .ok (.iload 4, 2) := by decide +kernel
theorem dL_isSo_153 : decode cL_isSo 153 = .ok (.ifCond .eq 155, 3) := by decide +kernel
theorem dL_isSo_156 : decode cL_isSo 156 = .ok (.iconst 3, 1) := by decide +kernel
theorem dL_isSo_157 : decode cL_isSo 157 = .ok (.iload 6, 2) := by decide +kernel
theorem dL_isSo_159 : decode cL_isSo 159 = .ok (.imul, 1) := by decide +kernel
theorem dL_isSo_160 : decode cL_isSo 160 = .ok (.iload 7, 2) := by decide +kernel
theorem dL_isSo_162 : decode cL_isSo 162 = .ok (.iadd, 1) := by decide +kernel
theorem dL_isSo_163 : decode cL_isSo 163 = .ok (.invokestatic 9, 3) := by decide +kernel
theorem dL_isSo_166 : decode cL_isSo 166 = .ok (.istore 8, 2) := by decide +kernel
theorem dL_isSo_168 : decode cL_isSo 168 = .ok (.iload 5, 2) := by decide +kernel
theorem dL_isSo_170 : decode cL_isSo 170 = .ok (.aload_n 2, 1) := by decide +kernel
theorem dL_isSo_171 : decode cL_isSo 171 = .ok (.iload 8, 2) := by decide +kernel
theorem dL_isSo_173 : decode cL_isSo 173 = .ok (.iconst 3, 1) := by decide +kernel
theorem dL_isSo_174 : decode cL_isSo 174 = .ok (.iadd, 1) := by decide +kernel
theorem dL_isSo_175 : decode cL_isSo 175 = .ok (.iaload, 1) := by decide +kernel
theorem dL_isSo_176 : decode cL_isSo 176 = .ok (.iadd, 1) := by decide +kernel
theorem dL_isSo_177 : decode cL_isSo 177 = .ok (.istore 5, 2) := by decide +kernel
theorem dL_isSo_179 : decode cL_isSo 179 = .ok (.aload_n 0, 1) := by decide +kernel
theorem dL_isSo_180 : decode cL_isSo 180 = .ok (.iload 6, 2) := by decide +kernel
theorem dL_isSo_182 : decode cL_isSo 182 = .ok (.iload 7, 2) := by decide +kernel
theorem dL_isSo_184 : decode cL_isSo 184 = .ok (.iconst 0, 1) := by decide +kernel
theorem dL_isSo_185 : decode cL_isSo 185 = .ok (.invokevirtual 100, 3) := by decide +kernel
theorem dL_isSo_188 : decode cL_isSo 188 = .ok (.aload_n 2, 1) := by decide +kernel
theorem dL_isSo_189 : decode cL_isSo 189 = .ok (.iload 8, 2) := by decide +kernel
theorem dL_isSo_191 : decode cL_isSo 191 = .ok (.iaload, 1) := by decide +kernel
theorem dL_isSo_192 : decode cL_isSo 192 = .ok (.if_icmp .ne 107, 3) := by decide +kernel
theorem dL_isSo_195 : decode cL_isSo 195 = .ok (.aload_n 0, 1) := by decide +kernel
theorem dL_isSo_196 : decode cL_isSo 196 = .ok (.iload 6, 2) := by decide +kernel
theorem dL_isSo_198 : decode cL_isSo 198 = .ok (.iload 7, 2) := by decide +kernel
theorem dL_isSo_200 : decode cL_isSo 200 = .ok (.iconst 1, 1) := by decide +kernel
theorem dL_isSo_201 : decode cL_isSo 201 = .ok (.invokevirtual 100, 3) := by decide +kernel
theorem dL_isSo_204 : decode cL_isSo 204 = .ok (.aload_n 2, 1) := by decide +kernel
theorem dL_isSo_205 : decode cL_isSo 205 = .ok (.iconst 3, 1) := by decide +kernel
theorem dL_isSo_206 : decode cL_isSo 206 = .ok (.iload 6, 2) := by decide +kernel
theorem dL_isSo_208 : decode cL_isSo 208 = .ok (.imul, 1) := by decide +kernel
theorem dL_isSo_209 : decode cL_isSo 209 = .ok (.iload 7, 2) := by decide +kernel
theorem dL_isSo_211 : decode cL_isSo 211 = .ok (.iadd, 1) := by decide +kernel
theorem dL_isSo_212 : decode cL_isSo 212 = .ok (.invokestatic 15, 3) := by decide +kernel
theorem dL_isSo_215 : decode cL_isSo 215 = .ok (.if_icmp .ne 84, 3) := by decide +kernel
theorem dL_isSo_218 : decode cL_isSo 218 = .ok (.aload_n 0, 1) := by decide +kernel
theorem dL_isSo_219 : decode cL_isSo 219 = .ok (.iload 6, 2) := by decide +kernel
theorem dL_isSo_221 : decode cL_isSo 221 = .ok (.iload 7, 2) := by decide +kernel
theorem dL_isSo_223 : decode cL_isSo 223 = .ok (.iconst 2, 1) := by decide +kernel
theorem dL_isSo_224 : decode cL_isSo 224 = .ok (.invokevirtual 100, 3) := by decide +kernel
theorem dL_isSo_227 : decode cL_isSo 227 = .ok (.aload_n 2, 1) := by decide +kernel
theorem dL_isSo_228 : decode cL_isSo 228 = .ok (.iconst 3, 1) := by decide +kernel
theorem dL_isSo_229 : decode cL_isSo 229 = .ok (.iload 6, 2) := by decide +kernel
theorem dL_isSo_231 : decode cL_isSo 231 = .ok (.imul, 1) := by decide +kernel
theorem dL_isSo_232 : decode cL_isSo 232 = .ok (.iload 7, 2) := by decide +kernel
theorem dL_isSo_234 : decode cL_isSo 234 = .ok (.iadd, 1) := by decide +kernel
theorem dL_isSo_235 : decode cL_isSo 235 = .ok (.invokestatic 31, 3) := by decide +kernel
theorem dL_isSo_238 : decode cL_isSo 238 = .ok (.if_icmp .ne 61, 3) := by decide +kernel
theorem dL_isSo_241 : decode cL_isSo 241 = .ok (.aload_n 0, 1) := by decide +kernel
theorem dL_isSo_242 : decode cL_isSo 242 = .ok (.iload 6, 2) := by decide +kernel
theorem dL_isSo_244 : decode cL_isSo 244 = .ok (.iload 7, 2) := by decide +kernel
theorem dL_isSo_246 : decode cL_isSo 246 = .ok (.iconst 3, 1) := by decide +kernel
theorem dL_isSo_247 : decode cL_isSo 247 = .ok (.invokevirtual 100, 3) := by decide +kernel
theorem dL_isSo_250 : decode cL_isSo 250 = .ok (.aload_n 2, 1) := by decide +kernel
theorem dL_isSo_251 : decode cL_isSo 251 = .ok (.iload 8, 2) := by decide +kernel
theorem dL_isSo_253 : decode cL_isSo 253 = .ok (.iconst 1, 1) := by decide +kernel
theorem dL_isSo_254 : decode cL_isSo 254 = .ok (.iadd, 1) := by decide +kernel
theorem dL_isSo_255 : decode cL_isSo 255 = .ok (.iaload, 1) := by decide +kernel
theorem dL_isSo_256 : decode cL_isSo 256 = .ok (.if_icmp .ne 43, 3) := by decide +kernel
theorem dL_isSo_259 : decode cL_isSo 259 = .ok (.aload_n 0, 1) := by decide +kernel
theorem dL_isSo_260 : decode cL_isSo 260 = .ok (.iload 6, 2) := by decide +kernel
theorem dL_isSo_262 : decode cL_isSo 262 = .ok (.iload 7, 2) := by decide +kernel
theorem dL_isSo_264 : decode cL_isSo 264 = .ok (.iconst 4, 1) := by decide +kernel
theorem dL_isSo_265 : decode cL_isSo 265 = .ok (.invokevirtual 100, 3) := by decide +kernel
theorem dL_isSo_268 : decode cL_isSo 268 = .ok (.aload_n 2, 1) := by decide +kernel
theorem dL_isSo_269 : decode cL_isSo 269 = .ok (.iload 8, 2) := by decide +kernel
theorem dL_isSo_271 : decode cL_isSo 271 = .ok (.iconst 3, 1) := by decide +kernel
theorem dL_isSo_272 : decode cL_isSo 272 = .ok (.iadd, 1) := by decide +kernel
theorem dL_isSo_273 : decode cL_isSo 273 = .ok (.iaload, 1) := by decide +kernel
theorem dL_isSo_274 : decode cL_isSo 274 = .ok (.if_icmp .ne 25, 3) := by decide +kernel
theorem dL_isSo_277 : decode cL_isSo 277 = .ok (.aload_n 0, 1) := by decide +kernel
theorem dL_isSo_278 : decode cL_isSo 278 = .ok (.iload 6, 2) := by decide +kernel
theorem dL_isSo_280 : decode cL_isSo 280 = .ok (.iload 7, 2) := by decide +kernel
theorem dL_isSo_282 : decode cL_isSo 282 = .ok (.iconst 5, 1) := by decide +kernel
theorem dL_isSo_283 : decode cL_isSo 283 = .ok (.invokevirtual 100, 3) := by decide +kernel
theorem dL_isSo_286 : decode cL_isSo 286 = .ok (.aload_n 2, 1) := by decide +kernel
theorem dL_isSo_287 : decode cL_isSo 287 = .ok (.iload 8, 2) := by decide +kernel
theorem dL_isSo_289 : decode cL_isSo 289 = .ok (.iconst 4, 1) := by decide +kernel
theorem dL_isSo_290 : decode cL_isSo 290 = .ok (.iadd, 1) := by decide +kernel
theorem dL_isSo_291 : decode cL_isSo 291 = .ok (.iaload, 1) := by decide +kernel
theorem dL_isSo_292 : decode cL_isSo 292 = .ok (.if_icmp .ne 7, 3) := by decide +kernel
theorem dL_isSo_295 : decode cL_isSo 295 = .ok (.iconst 1, 1) := by decide +kernel
theorem dL_isSo_296 : decode cL_isSo 296 = .ok (.goto 4, 3) := by decide +kernel
theorem dL_isSo_299 : decode cL_isSo 299 = .ok (.iconst 0, 1) := by decide +kernel
theorem dL_isSo_300 : decode cL_isSo 300 = .ok (.istore 4, 2) := by decide +kernel
theorem dL_isSo_302 : decode cL_isSo 302 = .ok (.iinc 7 1, 3) := by decide +kernel
theorem dL_isSo_305 : decode cL_isSo 305 = .ok (.goto (-160), 3) := by decide +kernel
theorem dL_isSo_308 : decode cL_isSo 308 = .ok (.iinc 6 1, 3) := by decide +kernel
theorem dL_isSo_311 : decode cL_isSo 311 = .ok (.goto (-261), 3) := by decide +kernel
theorem dL_isSo_314 : decode cL_isSo 314 = .ok (.iconst 0, 1) := by decide +kernel
theorem dL_isSo_315 : decode cL_isSo 315 = .ok (.istore 6, 2) := by decide +kernel
theorem dL_isSo_317 : decode cL_isSo 317 = .ok (.iconst 4, 1) := by decide +kernel
theorem dL_isSo_318 : decode cL_isSo 318 = .ok (.newarray .int, 2) := by decide +kernel
theorem dL_isSo_320 : decode cL_isSo 320 = .ok (.astore 7, 2) := by decide +kernel
theorem dL_isSo_322 : decode cL_isSo 322 = .ok (.iconst 0, 1) := by decide +kernel
theorem dL_isSo_323 : decode cL_isSo 323 = .ok (.istore 8, 2) := by decide +kernel
theorem dL_isSo_325 : decode cL_isSo 325 = .ok (.iload 8, 2) := by decide +kernel
theorem dL_isSo_327 : decode cL_isSo 327 = .ok (.aload_n 1, 1) := by decide +kernel
theorem dL_isSo_328 : decode cL_isSo 328 = .ok (.iconst 1, 1) := by decide +kernel
theorem dL_isSo_329 : decode cL_isSo 329 = .ok (.iaload, 1) := by decide +kernel
theorem dL_isSo_330 : decode cL_isSo 330 = .ok (.if_icmp .ge 345, 3) := by decide +kernel
theorem dL_isSo_333 : decode cL_isSo 333 = .ok (.iload 4, 2) := by decide +kernel
theorem dL_isSo_335 : decode cL_isSo 335 = .ok (.ifCond .eq 340, 3) := by decide +kernel
theorem dL_isSo_338 : decode cL_isSo 338 = .ok (.bipush 10, 2) := by decide +kernel
theorem dL_isSo_340 : decode cL_isSo 340 = .ok (.iload 8, 2) := by decide +kernel
theorem dL_isSo_342 : decode cL_isSo 342 = .ok (.imul, 1) := by decide +kernel
theorem dL_isSo_343 : decode cL_isSo 343 = .ok (.istore 9, 2) := by decide +kernel
theorem dL_isSo_345 : decode cL_isSo 345 = .ok (.aload_n 3, 1) := by decide +kernel
theorem dL_isSo_346 : decode cL_isSo 346 = .ok (.iload 8, 2) := by decide +kernel
theorem dL_isSo_348 : decode cL_isSo 348 = .ok (.invokestatic 103, 3) := by decide +kernel
theorem dL_isSo_351 : decode cL_isSo 351 = .ok (.istore 10, 2) := by decide +kernel
theorem dL_isSo_353 : decode cL_isSo 353 = .ok (.aload_n 3, 1) := by decide +kernel
theorem dL_isSo_354 : decode cL_isSo 354 = .ok (.iload 9, 2) := by decide +kernel
theorem dL_isSo_356 : decode cL_isSo 356 = .ok (.iconst 3, 1) := by decide +kernel
theorem dL_isSo_357 : decode cL_isSo 357 = .ok (.iadd, 1) := by decide +kernel
theorem dL_isSo_358 : decode cL_isSo 358 = .ok (.iaload, 1) := by decide +kernel
theorem dL_isSo_359 : decode cL_isSo 359 = .ok (.aload_n 3, 1) := by decide +kernel
theorem dL_isSo_360 : decode cL_isSo 360 = .ok (.iload 9, 2) := by decide +kernel
theorem dL_isSo_362 : decode cL_isSo 362 = .ok (.bipush 8, 2) := by decide +kernel
theorem dL_isSo_364 : decode cL_isSo 364 = .ok (.iadd, 1) := by decide +kernel
theorem dL_isSo_365 : decode cL_isSo 365 = .ok (.iaload, 1) := by decide +kernel
theorem dL_isSo_366 : decode cL_isSo 366 = .ok (.iadd, 1) := by decide +kernel
theorem dL_isSo_367 : decode cL_isSo 367 = .ok (.istore 11, 2) := by decide +kernel
theorem dL_isSo_369 : decode cL_isSo 369 = .ok (.iload 10, 2) := by decide +kernel
theorem dL_isSo_371 : decode cL_isSo 371 = .ok (.ifCond .eq 9, 3) := by decide +kernel
theorem dL_isSo_374 : decode cL_isSo 374 = .ok (.iload 10, 2) := by decide +kernel
theorem dL_isSo_376 : decode cL_isSo 376 = .ok (.iconst 3, 1) := by decide +kernel
theorem dL_isSo_377 : decode cL_isSo 377 = .ok (.if_icmp .ne 7, 3) := by decide +kernel
theorem dL_isSo_380 : decode cL_isSo 380 = .ok (.iconst 0, 1) := by decide +kernel
theorem dL_isSo_381 : decode cL_isSo 381 = .ok (.goto 27, 3) := by decide +kernel
theorem dL_isSo_384 : decode cL_isSo 384 = .ok (.iload 11, 2) := by decide +kernel
theorem dL_isSo_386 : decode cL_isSo 386 = .ok (.aload_n 3, 1) := by decide +kernel
theorem dL_isSo_387 : decode cL_isSo 387 = .ok (.iload 9, 2) := by decide +kernel
theorem dL_isSo_389 : decode cL_isSo 389 = .ok (.iconst 5, 1) := by decide +kernel
theorem dL_isSo_390 : decode cL_isSo 390 = .ok (.iadd, 1) := by decide +kernel
theorem dL_isSo_391 : decode cL_isSo 391 = .ok (.iaload, 1) := by decide +kernel
theorem dL_isSo_392 : decode cL_isSo 392 = .ok (.imul, 1) := by decide +kernel
theorem dL_isSo_393 : decode cL_isSo 393 = .ok (.aload_n 3, 1) := by decide +kernel
theorem dL_isSo_394 : decode cL_isSo 394 = .ok (.iload 9, 2) := by decide +kernel
theorem dL_isSo_396 : decode cL_isSo 396 = .ok (.iconst 5, 1) := by decide +kernel
theorem dL_isSo_397 : decode cL_isSo 397 = .ok (.iadd, 1) := by decide +kernel
theorem dL_isSo_398 : decode cL_isSo 398 = .ok (.iaload, 1) := by decide +kernel
theorem dL_isSo_399 : decode cL_isSo 399 = .ok (.aload_n 3, 1) := by decide +kernel
theorem dL_isSo_400 : decode cL_isSo 400 = .ok (.iload 9, 2) := by decide +kernel
theorem dL_isSo_402 : decode cL_isSo 402 = .ok (.bipush 6, 2) := by decide +kernel
theorem dL_isSo_404 : decode cL_isSo 404 = .ok (.iadd, 1) := by decide +kernel
theorem dL_isSo_405 : decode cL_isSo 405 = .ok (.iaload, 1) := by decide +kernel
theorem dL_isSo_406 : decode cL_isSo 406 = .ok (.iadd, 1) := by decide +kernel
theorem dL_isSo_407 : decode cL_isSo 407 = .ok (.idiv, 1) := by decide +kernel
theorem dL_isSo_408 : decode cL_isSo 408 = .ok (.istore 12, 2) := by decide +kernel
theorem dL_isSo_410 : decode cL_isSo 410 = .ok (.iload 6, 2) := by decide +kernel
theorem dL_isSo_412 : decode cL_isSo 412 = .ok (.iload 10, 2) := by decide +kernel
theorem dL_isSo_414 : decode cL_isSo 414 = .ok (.ifCond .le 8, 3) := by decide +kernel
theorem dL_isSo_417 : decode cL_isSo 417 = .ok (.iload 11, 2) := by decide +kernel
theorem dL_isSo_419 : decode cL_isSo 419 = .ok (.goto 4, 3) := by decide +kernel
theorem dL_isSo_422 : decode cL_isSo 422 = .ok (.iconst 0, 1) := by decide +kernel
theorem dL_isSo_423 : decode cL_isSo 423 = .ok (.iadd, 1) := by decide +kernel
theorem dL_isSo_424 : decode cL_isSo 424 = .ok (.istore 6, 2) := by decide +kernel
theorem dL_isSo_426 : decode cL_isSo 426 = .ok (.aload 7, 2) := by decide +kernel
theorem dL_isSo_428 : decode cL_isSo 428 = .ok (.iconst 1, 1) := by decide +kernel
theorem dL_isSo_429 : decode cL_isSo 429 = .ok (.dup2, 1) := by decide +kernel
theorem dL_isSo_430 : decode cL_isSo 430 = .ok (.iaload, 1) := by decide +kernel
theorem dL_isSo_431 : decode cL_isSo 431 = .ok (.iload 12, 2) := by decide +kernel
theorem dL_isSo_433 : decode cL_isSo 433 = .ok (.iadd, 1) := by decide +kernel
theorem dL_isSo_434 : decode cL_isSo 434 = .ok (.iastore, 1) := by decide +kernel
theorem dL_isSo_435 : decode cL_isSo 435 = .ok (.aload 7, 2) := by decide +kernel
theorem dL_isSo_437 : decode cL_isSo 437 = .ok (.iconst 2, 1) := by decide +kernel
theorem dL_isSo_438 : decode cL_isSo 438 = .ok (.dup2, 1) := by decide +kernel
theorem dL_isSo_439 : decode cL_isSo 439 = .ok (.iaload, 1) := by decide +kernel
theorem dL_isSo_440 : decode cL_isSo 440 = .ok (.iload 10, 2) := by decide +kernel
theorem dL_isSo_442 : decode cL_isSo 442 = .ok (.iconst 1, 1) := by decide +kernel
theorem dL_isSo_443 : decode cL_isSo 443 = .ok (.if_icmp .eq 9, 3) := by decide +kernel
theorem dL_isSo_446 : decode cL_isSo 446 = .ok (.iload 10, 2) := by decide +kernel
theorem dL_isSo_448 : decode cL_isSo 448 = .ok (.iconst 2, 1) := by decide +kernel
theorem dL_isSo_449 : decode cL_isSo 449 = .ok (.if_icmp .ne 11, 3) := by decide +kernel
theorem dL_isSo_452 : decode cL_isSo 452 = .ok (.iload 11, 2) := by decide +kernel
theorem dL_isSo_454 : decode cL_isSo 454 = .ok (.iload 12, 2) := by decide +kernel
theorem dL_isSo_456 : decode cL_isSo 456 = .ok (.isub, 1) := by decide +kernel
theorem dL_isSo_457 : decode cL_isSo 457 = .ok (.goto 4, 3) := by decide +kernel
theorem dL_isSo_460 : decode cL_isSo 460 = .ok (.iconst 0, 1) := by decide +kernel
theorem dL_isSo_461 : decode cL_isSo 461 = .ok (.iadd, 1) := by decide +kernel
theorem dL_isSo_462 : decode cL_isSo 462 = .ok (.iastore, 1) := by decide +kernel
theorem dL_isSo_463 : decode cL_isSo 463 = .ok (.aload 7, 2) := by decide +kernel
theorem dL_isSo_465 : decode cL_isSo 465 = .ok (.iconst 3, 1) := by decide +kernel
theorem dL_isSo_466 : decode cL_isSo 466 = .ok (.dup2, 1) := by decide +kernel
theorem dL_isSo_467 : decode cL_isSo 467 = .ok (.iaload, 1) := by decide +kernel
theorem dL_isSo_468 : decode cL_isSo 468 = .ok (.iload 10, 2) := by decide +kernel
theorem dL_isSo_470 : decode cL_isSo 470 = .ok (.iconst 3, 1) := by decide +kernel
theorem dL_isSo_471 : decode cL_isSo 471 = .ok (.if_icmp .ne 8, 3) := by decide +kernel
theorem dL_isSo_474 : decode cL_isSo 474 = .ok (.iload 11, 2) := by decide +kernel
theorem dL_isSo_476 : decode cL_isSo 476 = .ok (.goto 4, 3) := by decide +kernel
theorem dL_isSo_479 : decode cL_isSo 479 = .ok (.iconst 0, 1) := by decide +kernel
theorem dL_isSo_480 : decode cL_isSo 480 = .ok (.iadd, 1) := by decide +kernel
theorem dL_isSo_481 : decode cL_isSo 481 = .ok (.iastore, 1) := by decide +kernel
theorem dL_isSo_482 : decode cL_isSo 482 = .ok (.aload_n 0, 1) := by decide +kernel
theorem dL_isSo_483 : decode cL_isSo 483 = .ok (.iload 8, 2) := by decide +kernel
theorem dL_isSo_485 : decode cL_isSo 485 = .ok (.iconst 0, 1) := by decide +kernel
theorem dL_isSo_486 : decode cL_isSo 486 = .ok (.invokevirtual 106, 3) := by decide +kernel
theorem dL_isSo_489 : decode cL_isSo 489 = .ok (.aload_n 3, 1) := by decide +kernel
theorem dL_isSo_490 : decode cL_isSo 490 = .ok (.iload 9, 2) := by decide +kernel
theorem dL_isSo_492 : decode cL_isSo 492 = .ok (.iaload, 1) := by decide +kernel
theorem dL_isSo_493 : decode cL_isSo 493 = .ok (.iconst 3, 1) := by decide +kernel
theorem dL_isSo_494 : decode cL_isSo 494 = .ok (.idiv, 1) := by decide +kernel
theorem dL_isSo_495 : decode cL_isSo 495 = .ok (.if_icmp .ne 171, 3) := by decide +kernel
theorem dL_isSo_498 : decode cL_isSo 498 = .ok (.aload_n 0, 1) := by decide +kernel
theorem dL_isSo_499 : decode cL_isSo 499 = .ok (.iload 8, 2) := by decide +kernel
theorem dL_isSo_501 : decode cL_isSo 501 = .ok (.iconst 1, 1) := by decide +kernel
theorem dL_isSo_502 : decode cL_isSo 502 = .ok (.invokevirtual 106, 3) := by decide +kernel
theorem dL_isSo_505 : decode cL_isSo 505 = .ok (.aload_n 3, 1) := by decide +kernel
theorem dL_isSo_506 : decode cL_isSo 506 = .ok (.iload 9, 2) := by decide +kernel
theorem dL_isSo_508 : decode cL_isSo 508 = .ok (.iaload, 1) := by decide +kernel
theorem dL_isSo_509 : decode cL_isSo 509 = .ok (.iconst 3, 1) := by decide +kernel
theorem dL_isSo_510 : decode cL_isSo 510 = .ok (.irem, 1) := by decide +kernel
theorem dL_isSo_511 : decode cL_isSo 511 = .ok (.if_icmp .ne 155, 3) := by decide +kernel
theorem dL_isSo_514 : decode cL_isSo 514 = .ok (.aload_n 0, 1) := by decide +kernel
theorem dL_isSo_515 : decode cL_isSo 515 = .ok (.iload 8, 2) := by decide +kernel
theorem dL_isSo_517 : decode cL_isSo 517 = .ok (.iconst 2, 1) := by decide +kernel
theorem dL_isSo_518 : decode cL_isSo 518 = .ok (.invokevirtual 106, 3) := by decide +kernel
theorem dL_isSo_521 : decode cL_isSo 521 = .ok (.aload_n 3, 1) := by decide +kernel
theorem dL_isSo_522 : decode cL_isSo 522 = .ok (.iload 9, 2) := by decide +kernel
theorem dL_isSo_524 : decode cL_isSo 524 = .ok (.iconst 1, 1) := by decide +kernel
theorem dL_isSo_525 : decode cL_isSo 525 = .ok (.iadd, 1) := by decide +kernel
theorem dL_isSo_526 : decode cL_isSo 526 = .ok (.iaload, 1) := by decide +kernel
theorem dL_isSo_527 : decode cL_isSo 527 = .ok (.if_icmp .ne 139, 3) := by decide +kernel
theorem dL_isSo_530 : decode cL_isSo 530 = .ok (.aload_n 0, 1) := by decide +kernel
theorem dL_isSo_531 : decode cL_isSo 531 = .ok (.iload 8, 2) := by decide +kernel
theorem dL_isSo_533 : decode cL_isSo 533 = .ok (.iconst 3, 1) := by decide +kernel
theorem dL_isSo_534 : decode cL_isSo 534 = .ok (.invokevirtual 106, 3) := by decide +kernel
theorem dL_isSo_537 : decode cL_isSo 537 = .ok (.aload_n 3, 1) := by decide +kernel
theorem dL_isSo_538 : decode cL_isSo 538 = .ok (.iload 9, 2) := by decide +kernel
theorem dL_isSo_540 : decode cL_isSo 540 = .ok (.iconst 2, 1) := by decide +kernel
theorem dL_isSo_541 : decode cL_isSo 541 = .ok (.iadd, 1) := by decide +kernel
theorem dL_isSo_542 : decode cL_isSo 542 = .ok (.iaload, 1) := by decide +kernel
theorem dL_isSo_543 : decode cL_isSo 543 = .ok (.if_icmp .ne 123, 3) := by decide +kernel
theorem dL_isSo_546 : decode cL_isSo 546 = .ok (.aload_n 0, 1) := by decide +kernel
theorem dL_isSo_547 : decode cL_isSo 547 = .ok (.iload 8, 2) := by decide +kernel
theorem dL_isSo_549 : decode cL_isSo 549 = .ok (.iconst 4, 1) := by decide +kernel
theorem dL_isSo_550 : decode cL_isSo 550 = .ok (.invokevirtual 106, 3) := by decide +kernel
theorem dL_isSo_553 : decode cL_isSo 553 = .ok (.aload_n 3, 1) := by decide +kernel
theorem dL_isSo_554 : decode cL_isSo 554 = .ok (.iload 9, 2) := by decide +kernel
theorem dL_isSo_556 : decode cL_isSo 556 = .ok (.iconst 3, 1) := by decide +kernel
theorem dL_isSo_557 : decode cL_isSo 557 = .ok (.iadd, 1) := by decide +kernel
theorem dL_isSo_558 : decode cL_isSo 558 = .ok (.iaload, 1) := by decide +kernel
theorem dL_isSo_559 : decode cL_isSo 559 = .ok (.if_icmp .ne 107, 3) := by decide +kernel
theorem dL_isSo_562 : decode cL_isSo 562 = .ok (.aload_n 0, 1) := by decide +kernel
theorem dL_isSo_563 : decode cL_isSo 563 = .ok (.iload 8, 2) := by decide +kernel
theorem dL_isSo_565 : decode cL_isSo 565 = .ok (.iconst 5, 1) := by decide +kernel
theorem dL_isSo_566 : decode cL_isSo 566 = .ok (.invokevirtual 106, 3) := by decide +kernel
theorem dL_isSo_569 : decode cL_isSo 569 = .ok (.aload_n 3, 1) := by decide +kernel
theorem dL_isSo_570 : decode cL_isSo 570 = .ok (.iload 9, 2) := by decide +kernel
theorem dL_isSo_572 : decode cL_isSo 572 = .ok (.iconst 4, 1) := by decide +kernel
theorem dL_isSo_573 : decode cL_isSo 573 = .ok (.iadd, 1) := by decide +kernel
theorem dL_isSo_574 : decode cL_isSo 574 = .ok (.iaload, 1) := by decide +kernel
theorem dL_isSo_575 : decode cL_isSo 575 = .ok (.if_icmp .ne 91, 3) := by decide +kernel
theorem dL_isSo_578 : decode cL_isSo 578 = .ok (.aload_n 0, 1) := by decide +kernel
theorem dL_isSo_579 : decode cL_isSo 579 = .ok (.iload 8, 2) := by decide +kernel
theorem dL_isSo_581 : decode cL_isSo 581 = .ok (.bipush 6, 2) := by decide +kernel
theorem dL_isSo_583 : decode cL_isSo 583 = .ok (.invokevirtual 106, 3) := by decide +kernel
theorem dL_isSo_586 : decode cL_isSo 586 = .ok (.aload_n 3, 1) := by decide +kernel
theorem dL_isSo_587 : decode cL_isSo 587 = .ok (.iload 9, 2) := by decide +kernel
theorem dL_isSo_589 : decode cL_isSo 589 = .ok (.iconst 5, 1) := by decide +kernel
theorem dL_isSo_590 : decode cL_isSo 590 = .ok (.iadd, 1) := by decide +kernel
theorem dL_isSo_591 : decode cL_isSo 591 = .ok (.iaload, 1) := by decide +kernel
theorem dL_isSo_592 : decode cL_isSo 592 = .ok (.if_icmp .ne 74, 3) := by decide +kernel
theorem dL_isSo_595 : decode cL_isSo 595 = .ok (.aload_n 0, 1) := by decide +kernel
theorem dL_isSo_596 : decode cL_isSo 596 = .ok (.iload 8, 2) := by decide +kernel
theorem dL_isSo_598 : decode cL_isSo 598 = .ok (.bipush 7, 2) := by decide +kernel
theorem dL_isSo_600 : decode cL_isSo 600 = .ok (.invokevirtual 106, 3) := by decide +kernel
theorem dL_isSo_603 : decode cL_isSo 603 = .ok (.aload_n 3, 1) := by decide +kernel
theorem dL_isSo_604 : decode cL_isSo 604 = .ok (.iload 9, 2) := by decide +kernel
theorem dL_isSo_606 : decode cL_isSo 606 = .ok (.bipush 6, 2) := by decide +kernel
theorem dL_isSo_608 : decode cL_isSo 608 = .ok (.iadd, 1) := by decide +kernel
theorem dL_isSo_609 : decode cL_isSo 609 = .ok (.iaload, 1) := by decide +kernel
theorem dL_isSo_610 : decode cL_isSo 610 = .ok (.if_icmp .ne 56, 3) := by decide +kernel
theorem dL_isSo_613 : decode cL_isSo 613 = .ok (.aload_n 0, 1) := by decide +kernel
theorem dL_isSo_614 : decode cL_isSo 614 = .ok (.iload 8, 2) := by decide +kernel
theorem dL_isSo_616 : decode cL_isSo 616 = .ok (.bipush 8, 2) := by decide +kernel
theorem dL_isSo_618 : decode cL_isSo 618 = .ok (.invokevirtual 106, 3) := by decide +kernel
theorem dL_isSo_621 : decode cL_isSo 621 = .ok (.aload_n 3, 1) := by decide +kernel
theorem dL_isSo_622 : decode cL_isSo 622 = .ok (.iload 9, 2) := by decide +kernel
theorem dL_isSo_624 : decode cL_isSo 624 = .ok (.bipush 7, 2) := by decide +kernel
theorem dL_isSo_626 : decode cL_isSo 626 = .ok (.iadd, 1) := by decide +kernel
theorem dL_isSo_627 : decode cL_isSo 627 = .ok (.iaload, 1) := by decide +kernel
theorem dL_isSo_628 : decode cL_isSo 628 = .ok (.if_icmp .ne 38, 3) := by decide +kernel
theorem dL_isSo_631 : decode cL_isSo 631 = .ok (.aload_n 0, 1) := by decide +kernel
theorem dL_isSo_632 : decode cL_isSo 632 = .ok (.iload 8, 2) := by decide +kernel
theorem dL_isSo_634 : decode cL_isSo 634 = .ok (.bipush 9, 2) := by decide +kernel
theorem dL_isSo_636 : decode cL_isSo 636 = .ok (.invokevirtual 106, 3) := by decide +kernel
theorem dL_isSo_639 : decode cL_isSo 639 = .ok (.iload 10, 2) := by decide +kernel
theorem dL_isSo_641 : decode cL_isSo 641 = .ok (.if_icmp .ne 25, 3) := by decide +kernel
theorem dL_isSo_644 : decode cL_isSo 644 = .ok (.aload_n 0, 1) := by decide +kernel
theorem dL_isSo_645 : decode cL_isSo 645 = .ok (.iload 8, 2) := by decide +kernel
theorem dL_isSo_647 : decode cL_isSo 647 = .ok (.bipush 10, 2) := by decide +kernel
theorem dL_isSo_649 : decode cL_isSo 649 = .ok (.invokevirtual 106, 3) := by decide +kernel
theorem dL_isSo_652 : decode cL_isSo 652 = .ok (.aload_n 3, 1) := by decide +kernel
theorem dL_isSo_653 : decode cL_isSo 653 = .ok (.iload 9, 2) := by decide +kernel
theorem dL_isSo_655 : decode cL_isSo 655 = .ok (.bipush 8, 2) := by decide +kernel
theorem dL_isSo_657 : decode cL_isSo 657 = .ok (.iadd, 1) := by decide +kernel
theorem dL_isSo_658 : decode cL_isSo 658 = .ok (.iaload, 1) := by decide +kernel
theorem dL_isSo_659 : decode cL_isSo 659 = .ok (.if_icmp .ne 7, 3) := by decide +kernel
theorem dL_isSo_662 : decode cL_isSo 662 = .ok (.iconst 1, 1) := by decide +kernel
theorem dL_isSo_663 : decode cL_isSo 663 = .ok (.goto 4, 3) := by decide +kernel
theorem dL_isSo_666 : decode cL_isSo 666 = .ok (.iconst 0, 1) := by decide +kernel
theorem dL_isSo_667 : decode cL_isSo 667 = .ok (.istore 4, 2) := by decide +kernel
theorem dL_isSo_669 : decode cL_isSo 669 = .ok (.iinc 8 1, 3) := by decide +kernel
theorem dL_isSo_672 : decode cL_isSo 672 = .ok (.goto (-347), 3) := by decide +kernel
theorem dL_isSo_675 : decode cL_isSo 675 = .ok (.iload 4, 2) := by decide +kernel
theorem dL_isSo_677 : decode cL_isSo 677 = .ok (.ifCond .eq 64, 3) := by decide +kernel
theorem dL_isSo_680 : decode cL_isSo 680 = .ok (.aload_n 0, 1) := by decide +kernel
theorem dL_isSo_681 : decode cL_isSo 681 = .ok (.bipush 8, 2) := by decide +kernel
theorem dL_isSo_683 : decode cL_isSo 683 = .ok (.invokevirtual 94, 3) := by decide +kernel
theorem dL_isSo_686 : decode cL_isSo 686 = .ok (.iload 5, 2) := by decide +kernel
theorem dL_isSo_688 : decode cL_isSo 688 = .ok (.if_icmp .ne 53, 3) := by decide +kernel
theorem dL_isSo_691 : decode cL_isSo 691 = .ok (.aload_n 0, 1) := by decide +kernel
theorem dL_isSo_692 : decode cL_isSo 692 = .ok (.iconst 0, 1) := by decide +kernel
theorem dL_isSo_693 : decode cL_isSo 693 = .ok (.invokevirtual 109, 3) := by decide +kernel
theorem dL_isSo_696 : decode cL_isSo 696 = .ok (.iload 6, 2) := by decide +kernel
theorem dL_isSo_698 : decode cL_isSo 698 = .ok (.if_icmp .ne 43, 3) := by decide +kernel
theorem dL_isSo_701 : decode cL_isSo 701 = .ok (.aload_n 0, 1) := by decide +kernel
theorem dL_isSo_702 : decode cL_isSo 702 = .ok (.iconst 1, 1) := by decide +kernel
theorem dL_isSo_703 : decode cL_isSo 703 = .ok (.invokevirtual 109, 3) := by decide +kernel
theorem dL_isSo_706 : decode cL_isSo 706 = .ok (.aload 7, 2) := by decide +kernel
theorem dL_isSo_708 : decode cL_isSo 708 = .ok (.iconst 1, 1) := by decide +kernel
theorem dL_isSo_709 : decode cL_isSo 709 = .ok (.iaload, 1) := by decide +kernel
theorem dL_isSo_710 : decode cL_isSo 710 = .ok (.if_icmp .ne 31, 3) := by decide +kernel
theorem dL_isSo_713 : decode cL_isSo 713 = .ok (.aload_n 0, 1) := by decide +kernel
theorem dL_isSo_714 : decode cL_isSo 714 = .ok (.iconst 2, 1) := by decide +kernel
theorem dL_isSo_715 : decode cL_isSo 715 = .ok (.invokevirtual 109, 3) := by decide +kernel
theorem dL_isSo_718 : decode cL_isSo 718 = .ok (.aload 7, 2) := by decide +kernel
theorem dL_isSo_720 : decode cL_isSo 720 = .ok (.iconst 2, 1) := by decide +kernel
theorem dL_isSo_721 : decode cL_isSo 721 = .ok (.iaload, 1) := by decide +kernel
theorem dL_isSo_722 : decode cL_isSo 722 = .ok (.if_icmp .ne 19, 3) := by decide +kernel
theorem dL_isSo_725 : decode cL_isSo 725 = .ok (.aload_n 0, 1) := by decide +kernel
theorem dL_isSo_726 : decode cL_isSo 726 = .ok (.iconst 3, 1) := by decide +kernel
theorem dL_isSo_727 : decode cL_isSo 727 = .ok (.invokevirtual 109, 3) := by decide +kernel
theorem dL_isSo_730 : decode cL_isSo 730 = .ok (.aload 7, 2) := by decide +kernel
theorem dL_isSo_732 : decode cL_isSo 732 = .ok (.iconst 3, 1) := by decide +kernel
theorem dL_isSo_733 : decode cL_isSo 733 = .ok (.iaload, 1) := by decide +kernel
theorem dL_isSo_734 : decode cL_isSo 734 = .ok (.if_icmp .ne 7, 3) := by decide +kernel
theorem dL_isSo_737 : decode cL_isSo 737 = .ok (.iconst 1, 1) := by decide +kernel
theorem dL_isSo_738 : decode cL_isSo 738 = .ok (.goto 4, 3) := by decide +kernel
theorem dL_isSo_741 : decode cL_isSo 741 = .ok (.iconst 0, 1) := by decide +kernel
theorem dL_isSo_742 : decode cL_isSo 742 = .ok (.ireturn, 1) := by decide +kernel
theorem dL_law_0 : decode cL_law 0 = .ok (.new 35, 3) := by decide +kernel
theorem dL_law_3 : decode cL_law 3 = .ok (.dup, 1) := by decide +kernel
theorem dL_law_4 : decode cL_law 4 = .ok (.invokespecial 112, 3) := by decide +kernel
theorem dL_law_7 : decode cL_law 7 = .ok (.astore_n 1, 1) := by decide +kernel
theorem dL_law_8 : decode cL_law 8 = .ok (.bipush 6, 2) := by decide +kernel
theorem dL_law_10 : decode cL_law 10 = .ok (.newarray .int, 2) := by decide +kernel
theorem dL_law_12 : decode cL_law 12 = .ok (.astore_n 2, 1) := by decide +kernel
theorem dL_law_13 : decode cL_law 13 = .ok (.bipush 57, 2) := by decide +kernel
theorem dL_law_15 : decode cL_law 15 = .ok (.newarray .int, 2) := by decide +kernel
theorem dL_law_17 : decode cL_law 17 = .ok (.astore_n 3, 1) := by decide +kernel
theorem dL_law_18 : decode cL_law 18 = .ok (.bipush 60, 2) := by decide +kernel
theorem dL_law_20 : decode cL_law 20 = .ok (.newarray .int, 2) := by decide +kernel
theorem dL_law_22 : decode cL_law 22 = .ok (.astore 4, 2) := by decide +kernel
theorem dL_law_24 : decode cL_law 24 = .ok (.aload_n 2, 1) := by decide +kernel
theorem dL_law_25 : decode cL_law 25 = .ok (.iconst 3, 1) := by decide +kernel
theorem dL_law_26 : decode cL_law 26 = .ok (.sipush 200, 3) := by decide +kernel
theorem dL_law_29 : decode cL_law 29 = .ok (.iastore, 1) := by decide +kernel
theorem dL_law_30 : decode cL_law 30 = .ok (.aload_n 2, 1) := by decide +kernel
theorem dL_law_31 : decode cL_law 31 = .ok (.iconst 4, 1) := by decide +kernel
theorem dL_law_32 : decode cL_law 32 = .ok (.bipush 30, 2) := by decide +kernel
theorem dL_law_34 : decode cL_law 34 = .ok (.iastore, 1) := by decide +kernel
theorem dL_law_35 : decode cL_law 35 = .ok (.aload_n 2, 1) := by decide +kernel
theorem dL_law_36 : decode cL_law 36 = .ok (.iconst 5, 1) := by decide +kernel
theorem dL_law_37 : decode cL_law 37 = .ok (.iconst 3, 1) := by decide +kernel
theorem dL_law_38 : decode cL_law 38 = .ok (.iastore, 1) := by decide +kernel
theorem dL_law_39 : decode cL_law 39 = .ok (.aload_n 1, 1) := by decide +kernel
theorem dL_law_40 : decode cL_law 40 = .ok (.aload_n 2, 1) := by decide +kernel
theorem dL_law_41 : decode cL_law 41 = .ok (.aload_n 3, 1) := by decide +kernel
theorem dL_law_42 : decode cL_law 42 = .ok (.aload 4, 2) := by decide +kernel
theorem dL_law_44 : decode cL_law 44 = .ok (.invokestatic 113, 3) := by decide +kernel
theorem dL_law_47 : decode cL_law 47 = .ok (.istore 5, 2) := by decide +kernel
theorem dL_law_49 : decode cL_law 49 = .ok (.bipush 10, 2) := by decide +kernel
theorem dL_law_51 : decode cL_law 51 = .ok (.aload_n 0, 1) := by decide +kernel
theorem dL_law_52 : decode cL_law 52 = .ok (.iconst 0, 1) := by decide +kernel
theorem dL_law_53 : decode cL_law 53 = .ok (.invokestatic 117, 3) := by decide +kernel
theorem dL_law_56 : decode cL_law 56 = .ok (.bipush 60, 2) := by decide +kernel
theorem dL_law_58 : decode cL_law 58 = .ok (.invokestatic 43, 3) := by decide +kernel
theorem dL_law_61 : decode cL_law 61 = .ok (.iadd, 1) := by decide +kernel
theorem dL_law_62 : decode cL_law 62 = .ok (.istore 6, 2) := by decide +kernel
theorem dL_law_64 : decode cL_law 64 = .ok (.iconst 0, 1) := by decide +kernel
theorem dL_law_65 : decode cL_law 65 = .ok (.istore 7, 2) := by decide +kernel
theorem dL_law_67 : decode cL_law 67 = .ok (.iload 7, 2) := by decide +kernel
theorem dL_law_69 : decode cL_law 69 = .ok (.iload 6, 2) := by decide +kernel
theorem dL_law_71 : decode cL_law 71 = .ok (.if_icmp .ge 58, 3) := by decide +kernel
theorem dL_law_74 : decode cL_law 74 = .ok (.iload 5, 2) := by decide +kernel
theorem dL_law_76 : decode cL_law 76 = .ok (.ifCond .eq 53, 3) := by decide +kernel
theorem dL_law_79 : decode cL_law 79 = .ok (.aload_n 1, 1) := by decide +kernel
theorem dL_law_80 : decode cL_law 80 = .ok (.aload_n 2, 1) := by decide +kernel
theorem dL_law_81 : decode cL_law 81 = .ok (.aload_n 3, 1) := by decide +kernel
theorem dL_law_82 : decode cL_law 82 = .ok (.aload 4, 2) := by decide +kernel
theorem dL_law_84 : decode cL_law 84 = .ok (.aload_n 0, 1) := by decide +kernel
theorem dL_law_85 : decode cL_law 85 = .ok (.iconst 1, 1) := by decide +kernel
theorem dL_law_86 : decode cL_law 86 = .ok (.iload 7, 2) := by decide +kernel
theorem dL_law_88 : decode cL_law 88 = .ok (.iadd, 1) := by decide +kernel
theorem dL_law_89 : decode cL_law 89 = .ok (.invokestatic 117, 3) := by decide +kernel
theorem dL_law_92 : decode cL_law 92 = .ok (.sipush 7919, 3) := by decide +kernel
theorem dL_law_95 : decode cL_law 95 = .ok (.iload 7, 2) := by decide +kernel
theorem dL_law_97 : decode cL_law 97 = .ok (.imul, 1) := by decide +kernel
theorem dL_law_98 : decode cL_law 98 = .ok (.ixor, 1) := by decide +kernel
theorem dL_law_99 : decode cL_law 99 = .ok (.invokestatic 120, 3) := by decide +kernel
theorem dL_law_102 : decode cL_law 102 = .ok (.ifCond .eq 18, 3) := by decide +kernel
theorem dL_law_105 : decode cL_law 105 = .ok (.aload_n 1, 1) := by decide +kernel
theorem dL_law_106 : decode cL_law 106 = .ok (.aload_n 2, 1) := by decide +kernel
theorem dL_law_107 : decode cL_law 107 = .ok (.aload_n 3, 1) := by decide +kernel
theorem dL_law_108 : decode cL_law 108 = .ok (.aload 4, 2) := by decide +kernel
theorem dL_law_110 : decode cL_law 110 = .ok (.invokestatic 113, 3) := by decide +kernel
theorem dL_law_113 : decode cL_law 113 = .ok (.ifCond .eq 7, 3) := by decide +kernel
theorem dL_law_116 : decode cL_law 116 = .ok (.iconst 1, 1) := by decide +kernel
theorem dL_law_117 : decode cL_law 117 = .ok (.goto 4, 3) := by decide +kernel
theorem dL_law_120 : decode cL_law 120 = .ok (.iconst 0, 1) := by decide +kernel
theorem dL_law_121 : decode cL_law 121 = .ok (.istore 5, 2) := by decide +kernel
theorem dL_law_123 : decode cL_law 123 = .ok (.iinc 7 1, 3) := by decide +kernel
theorem dL_law_126 : decode cL_law 126 = .ok (.goto (-59), 3) := by decide +kernel
theorem dL_law_129 : decode cL_law 129 = .ok (.iload 5, 2) := by decide +kernel
theorem dL_law_131 : decode cL_law 131 = .ok (.ifCond .eq 55, 3) := by decide +kernel
theorem dL_law_134 : decode cL_law 134 = .ok (.aload_n 1, 1) := by decide +kernel
theorem dL_law_135 : decode cL_law 135 = .ok (.aload_n 2, 1) := by decide +kernel
theorem dL_law_136 : decode cL_law 136 = .ok (.iconst 0, 1) := by decide +kernel
theorem dL_law_137 : decode cL_law 137 = .ok (.iaload, 1) := by decide +kernel
theorem dL_law_138 : decode cL_law 138 = .ok (.iconst 0, 1) := by decide +kernel
theorem dL_law_139 : decode cL_law 139 = .ok (.invokevirtual 97, 3) := by decide +kernel
theorem dL_law_142 : decode cL_law 142 = .ok (.ldc 69, 2) := by decide +kernel
theorem dL_law_144 : decode cL_law 144 = .ok (.if_icmp .ne 42, 3) := by decide +kernel
theorem dL_law_147 : decode cL_law 147 = .ok (.aload_n 1, 1) := by decide +kernel
theorem dL_law_148 : decode cL_law 148 = .ok (.aload_n 2, 1) := by decide +kernel
theorem dL_law_149 : decode cL_law 149 = .ok (.iconst 1, 1) := by decide +kernel
theorem dL_law_150 : decode cL_law 150 = .ok (.iaload, 1) := by decide +kernel
theorem dL_law_151 : decode cL_law 151 = .ok (.iconst 0, 1) := by decide +kernel
theorem dL_law_152 : decode cL_law 152 = .ok (.invokevirtual 106, 3) := by decide +kernel
theorem dL_law_155 : decode cL_law 155 = .ok (.ldc 69, 2) := by decide +kernel
theorem dL_law_157 : decode cL_law 157 = .ok (.if_icmp .ne 29, 3) := by decide +kernel
theorem dL_law_160 : decode cL_law 160 = .ok (.aload_n 1, 1) := by decide +kernel
theorem dL_law_161 : decode cL_law 161 = .ok (.iconst 0, 1) := by decide +kernel
theorem dL_law_162 : decode cL_law 162 = .ok (.iconst 3, 1) := by decide +kernel
theorem dL_law_163 : decode cL_law 163 = .ok (.iconst 0, 1) := by decide +kernel
theorem dL_law_164 : decode cL_law 164 = .ok (.invokevirtual 100, 3) := by decide +kernel
theorem dL_law_167 : decode cL_law 167 = .ok (.ldc 69, 2) := by decide +kernel
theorem dL_law_169 : decode cL_law 169 = .ok (.if_icmp .ne 17, 3) := by decide +kernel
theorem dL_law_172 : decode cL_law 172 = .ok (.aload_n 1, 1) := by decide +kernel
theorem dL_law_173 : decode cL_law 173 = .ok (.iconst 4, 1) := by decide +kernel
theorem dL_law_174 : decode cL_law 174 = .ok (.invokevirtual 109, 3) := by decide +kernel
theorem dL_law_177 : decode cL_law 177 = .ok (.ldc 69, 2) := by decide +kernel
theorem dL_law_179 : decode cL_law 179 = .ok (.if_icmp .ne 7, 3) := by decide +kernel
theorem dL_law_182 : decode cL_law 182 = .ok (.iconst 1, 1) := by decide +kernel
theorem dL_law_183 : decode cL_law 183 = .ok (.goto 4, 3) := by decide +kernel
theorem dL_law_186 : decode cL_law 186 = .ok (.iconst 0, 1) := by decide +kernel
theorem dL_law_187 : decode cL_law 187 = .ok (.ireturn, 1) := by decide +kernel
