theorem dX7_init_0 : decode cX7_init 0 = .ok (.aload_n 0, 1) := by decide +kernel
theorem dX7_init_1 : decode cX7_init 1 = .ok (.invokespecial 1, 3) := by decide +kernel
theorem dX7_init_4 : decode cX7_init 4 = .ok (.aload_n 0, 1) := by decide +kernel
theorem dX7_init_5 : decode cX7_init 5 = .ok (.sipush 183, 3) := by decide +kernel
theorem dX7_init_8 : decode cX7_init 8 = .ok (.newarray .int, 2) := by decide +kernel
theorem dX7_init_10 : decode cX7_init 10 = .ok (.putfield 7, 3) := by decide +kernel
theorem dX7_init_13 : decode cX7_init 13 = .ok (.aload_n 0, 1) := by decide +kernel
theorem dX7_init_14 : decode cX7_init 14 = .ok (.sipush 1098, 3) := by decide +kernel
theorem dX7_init_17 : decode cX7_init 17 = .ok (.newarray .int, 2) := by decide +kernel
theorem dX7_init_19 : decode cX7_init 19 = .ok (.putfield 13, 3) := by decide +kernel
theorem dX7_init_22 : decode cX7_init 22 = .ok (.aload_n 0, 1) := by decide +kernel
theorem dX7_init_23 : decode cX7_init 23 = .ok (.sipush 183, 3) := by decide +kernel
theorem dX7_init_26 : decode cX7_init 26 = .ok (.newarray .int, 2) := by decide +kernel
theorem dX7_init_28 : decode cX7_init 28 = .ok (.putfield 16, 3) := by decide +kernel
theorem dX7_init_31 : decode cX7_init 31 = .ok (.aload_n 0, 1) := by decide +kernel
theorem dX7_init_32 : decode cX7_init 32 = .ok (.sipush 183, 3) := by decide +kernel
theorem dX7_init_35 : decode cX7_init 35 = .ok (.newarray .int, 2) := by decide +kernel
theorem dX7_init_37 : decode cX7_init 37 = .ok (.putfield 19, 3) := by decide +kernel
theorem dX7_init_40 : decode cX7_init 40 = .ok (.aload_n 0, 1) := by decide +kernel
theorem dX7_init_41 : decode cX7_init 41 = .ok (.sipush 10800, 3) := by decide +kernel
theorem dX7_init_44 : decode cX7_init 44 = .ok (.newarray .int, 2) := by decide +kernel
theorem dX7_init_46 : decode cX7_init 46 = .ok (.putfield 22, 3) := by decide +kernel
theorem dX7_init_49 : decode cX7_init 49 = .ok (.aload_n 0, 1) := by decide +kernel
theorem dX7_init_50 : decode cX7_init 50 = .ok (.iconst 1, 1) := by decide +kernel
theorem dX7_init_51 : decode cX7_init 51 = .ok (.putfield 25, 3) := by decide +kernel
theorem dX7_init_54 : decode cX7_init 54 = .ok (.aload_n 0, 1) := by decide +kernel
theorem dX7_init_55 : decode cX7_init 55 = .ok (.bipush 80, 2) := by decide +kernel
theorem dX7_init_57 : decode cX7_init 57 = .ok (.newarray .int, 2) := by decide +kernel
theorem dX7_init_59 : decode cX7_init 59 = .ok (.putfield 29, 3) := by decide +kernel
theorem dX7_init_62 : decode cX7_init 62 = .ok (.aload_n 0, 1) := by decide +kernel
theorem dX7_init_63 : decode cX7_init 63 = .ok (.iconst 2, 1) := by decide +kernel
theorem dX7_init_64 : decode cX7_init 64 = .ok (.newarray .int, 2) := by decide +kernel
theorem dX7_init_66 : decode cX7_init 66 = .ok (.putfield 32, 3) := by decide +kernel
theorem dX7_init_69 : decode cX7_init 69 = .ok (.aload_n 0, 1) := by decide +kernel
theorem dX7_init_70 : decode cX7_init 70 = .ok (.getfield 7, 3) := by decide +kernel
theorem dX7_init_73 : decode cX7_init 73 = .ok (.iconst 3, 1) := by decide +kernel
theorem dX7_init_74 : decode cX7_init 74 = .ok (.sipush 200, 3) := by decide +kernel
theorem dX7_init_77 : decode cX7_init 77 = .ok (.iastore, 1) := by decide +kernel
theorem dX7_init_78 : decode cX7_init 78 = .ok (.aload_n 0, 1) := by decide +kernel
theorem dX7_init_79 : decode cX7_init 79 = .ok (.getfield 7, 3) := by decide +kernel
theorem dX7_init_82 : decode cX7_init 82 = .ok (.iconst 4, 1) := by decide +kernel
theorem dX7_init_83 : decode cX7_init 83 = .ok (.bipush 30, 2) := by decide +kernel
theorem dX7_init_85 : decode cX7_init 85 = .ok (.iastore, 1) := by decide +kernel
theorem dX7_init_86 : decode cX7_init 86 = .ok (.aload_n 0, 1) := by decide +kernel
theorem dX7_init_87 : decode cX7_init 87 = .ok (.getfield 7, 3) := by decide +kernel
theorem dX7_init_90 : decode cX7_init 90 = .ok (.iconst 5, 1) := by decide +kernel
theorem dX7_init_91 : decode cX7_init 91 = .ok (.iconst 3, 1) := by decide +kernel
theorem dX7_init_92 : decode cX7_init 92 = .ok (.iastore, 1) := by decide +kernel
theorem dX7_init_93 : decode cX7_init 93 = .ok (.return_, 1) := by decide +kernel
theorem dX7_in_0 : decode cX7_in 0 = .ok (.iload_n 0, 1) := by decide +kernel
theorem dX7_in_1 : decode cX7_in 1 = .ok (.iload_n 1, 1) := by decide +kernel
theorem dX7_in_2 : decode cX7_in 2 = .ok (.if_icmp .lt 12, 3) := by decide +kernel
theorem dX7_in_5 : decode cX7_in 5 = .ok (.iload_n 0, 1) := by decide +kernel
theorem dX7_in_6 : decode cX7_in 6 = .ok (.iload_n 2, 1) := by decide +kernel
theorem dX7_in_7 : decode cX7_in 7 = .ok (.if_icmp .gt 7, 3) := by decide +kernel
theorem dX7_in_10 : decode cX7_in 10 = .ok (.iconst 1, 1) := by decide +kernel
theorem dX7_in_11 : decode cX7_in 11 = .ok (.goto 4, 3) := by decide +kernel
theorem dX7_in_14 : decode cX7_in 14 = .ok (.iconst 0, 1) := by decide +kernel
theorem dX7_in_15 : decode cX7_in 15 = .ok (.ireturn, 1) := by decide +kernel
theorem dX7_copies_0 : decode cX7_copies 0 = .ok (.iconst 0, 1) := by decide +kernel
theorem dX7_copies_1 : decode cX7_copies 1 = .ok (.istore_n 2, 1) := by decide +kernel
theorem dX7_copies_2 : decode cX7_copies 2 = .ok (.iload_n 2, 1) := by decide +kernel
theorem dX7_copies_3 : decode cX7_copies 3 = .ok (.sipush 183, 3) := by decide +kernel
theorem dX7_copies_6 : decode cX7_copies 6 = .ok (.if_icmp .ge 15, 3) := by decide +kernel
theorem dX7_copies_9 : decode cX7_copies 9 = .ok (.aload_n 0, 1) := by decide +kernel
theorem dX7_copies_10 : decode cX7_copies 10 = .ok (.iload_n 2, 1) := by decide +kernel
theorem dX7_copies_11 : decode cX7_copies 11 = .ok (.aload_n 1, 1) := by decide +kernel
theorem dX7_copies_12 : decode cX7_copies 12 = .ok (.iload_n 2, 1) := by decide +kernel
theorem dX7_copies_13 : decode cX7_copies 13 = .ok (.iaload, 1) := by decide +kernel
theorem dX7_copies_14 : decode cX7_copies 14 = .ok (.iastore, 1) := by decide +kernel
theorem dX7_copies_15 : decode cX7_copies 15 = .ok (.iinc 2 1, 3) := by decide +kernel
theorem dX7_copies_18 : decode cX7_copies 18 = .ok (.goto (-16), 3) := by decide +kernel
theorem dX7_copies_21 : decode cX7_copies 21 = .ok (.return_, 1) := by decide +kernel
theorem dX7_hold_0 : decode cX7_hold 0 = .ok (.aload_n 0, 1) := by decide +kernel
theorem dX7_hold_1 : decode cX7_hold 1 = .ok (.getfield 16, 3) := by decide +kernel
theorem dX7_hold_4 : decode cX7_hold 4 = .ok (.aload_n 0, 1) := by decide +kernel
theorem dX7_hold_5 : decode cX7_hold 5 = .ok (.getfield 7, 3) := by decide +kernel
theorem dX7_hold_8 : decode cX7_hold 8 = .ok (.invokestatic 35, 3) := by decide +kernel
theorem dX7_hold_11 : decode cX7_hold 11 = .ok (.return_, 1) := by decide +kernel
theorem dX7_ends_0 : decode cX7_ends 0 = .ok (.aload_n 0, 1) := by decide +kernel
theorem dX7_ends_1 : decode cX7_ends 1 = .ok (.getfield 39, 3) := by decide +kernel
theorem dX7_ends_4 : decode cX7_ends 4 = .ok (.bipush 6, 2) := by decide +kernel
theorem dX7_ends_6 : decode cX7_ends 6 = .ok (.if_icmp .ne 44, 3) := by decide +kernel
theorem dX7_ends_9 : decode cX7_ends 9 = .ok (.iconst 0, 1) := by decide +kernel
theorem dX7_ends_10 : decode cX7_ends 10 = .ok (.istore_n 2, 1) := by decide +kernel
theorem dX7_ends_11 : decode cX7_ends 11 = .ok (.iload_n 2, 1) := by decide +kernel
theorem dX7_ends_12 : decode cX7_ends 12 = .ok (.sipush 915, 3) := by decide +kernel
theorem dX7_ends_15 : decode cX7_ends 15 = .ok (.if_icmp .ge 25, 3) := by decide +kernel
theorem dX7_ends_18 : decode cX7_ends 18 = .ok (.aload_n 0, 1) := by decide +kernel
theorem dX7_ends_19 : decode cX7_ends 19 = .ok (.getfield 13, 3) := by decide +kernel
theorem dX7_ends_22 : decode cX7_ends 22 = .ok (.iload_n 2, 1) := by decide +kernel
theorem dX7_ends_23 : decode cX7_ends 23 = .ok (.aload_n 0, 1) := by decide +kernel
theorem dX7_ends_24 : decode cX7_ends 24 = .ok (.getfield 13, 3) := by decide +kernel
theorem dX7_ends_27 : decode cX7_ends 27 = .ok (.iload_n 2, 1) := by decide +kernel
theorem dX7_ends_28 : decode cX7_ends 28 = .ok (.sipush 183, 3) := by decide +kernel
theorem dX7_ends_31 : decode cX7_ends 31 = .ok (.iadd, 1) := by decide +kernel
theorem dX7_ends_32 : decode cX7_ends 32 = .ok (.iaload, 1) := by decide +kernel
theorem dX7_ends_33 : decode cX7_ends 33 = .ok (.iastore, 1) := by decide +kernel
theorem dX7_ends_34 : decode cX7_ends 34 = .ok (.iinc 2 1, 3) := by decide +kernel
theorem dX7_ends_37 : decode cX7_ends 37 = .ok (.goto (-26), 3) := by decide +kernel
theorem dX7_ends_40 : decode cX7_ends 40 = .ok (.aload_n 0, 1) := by decide +kernel
theorem dX7_ends_41 : decode cX7_ends 41 = .ok (.dup, 1) := by decide +kernel
theorem dX7_ends_42 : decode cX7_ends 42 = .ok (.getfield 39, 3) := by decide +kernel
theorem dX7_ends_45 : decode cX7_ends 45 = .ok (.iconst 1, 1) := by decide +kernel
theorem dX7_ends_46 : decode cX7_ends 46 = .ok (.isub, 1) := by decide +kernel
theorem dX7_ends_47 : decode cX7_ends 47 = .ok (.putfield 39, 3) := by decide +kernel
theorem dX7_ends_50 : decode cX7_ends 50 = .ok (.iconst 0, 1) := by decide +kernel
theorem dX7_ends_51 : decode cX7_ends 51 = .ok (.istore_n 2, 1) := by decide +kernel
theorem dX7_ends_52 : decode cX7_ends 52 = .ok (.iload_n 2, 1) := by decide +kernel
theorem dX7_ends_53 : decode cX7_ends 53 = .ok (.sipush 183, 3) := by decide +kernel
theorem dX7_ends_56 : decode cX7_ends 56 = .ok (.if_icmp .ge 30, 3) := by decide +kernel
theorem dX7_ends_59 : decode cX7_ends 59 = .ok (.aload_n 0, 1) := by decide +kernel
theorem dX7_ends_60 : decode cX7_ends 60 = .ok (.getfield 13, 3) := by decide +kernel
theorem dX7_ends_63 : decode cX7_ends 63 = .ok (.sipush 183, 3) := by decide +kernel
theorem dX7_ends_66 : decode cX7_ends 66 = .ok (.aload_n 0, 1) := by decide +kernel
theorem dX7_ends_67 : decode cX7_ends 67 = .ok (.getfield 39, 3) := by decide +kernel
theorem dX7_ends_70 : decode cX7_ends 70 = .ok (.imul, 1) := by decide +kernel
theorem dX7_ends_71 : decode cX7_ends 71 = .ok (.iload_n 2, 1) := by decide +kernel
theorem dX7_ends_72 : decode cX7_ends 72 = .ok (.iadd, 1) := by decide +kernel
theorem dX7_ends_73 : decode cX7_ends 73 = .ok (.aload_n 0, 1) := by decide +kernel
theorem dX7_ends_74 : decode cX7_ends 74 = .ok (.getfield 16, 3) := by decide +kernel
theorem dX7_ends_77 : decode cX7_ends 77 = .ok (.iload_n 2, 1) := by decide +kernel
theorem dX7_ends_78 : decode cX7_ends 78 = .ok (.iaload, 1) := by decide +kernel
theorem dX7_ends_79 : decode cX7_ends 79 = .ok (.iastore, 1) := by decide +kernel
theorem dX7_ends_80 : decode cX7_ends 80 = .ok (.iinc 2 1, 3) := by decide +kernel
theorem dX7_ends_83 : decode cX7_ends 83 = .ok (.goto (-31), 3) := by decide +kernel
theorem dX7_ends_86 : decode cX7_ends 86 = .ok (.aload_n 0, 1) := by decide +kernel
theorem dX7_ends_87 : decode cX7_ends 87 = .ok (.dup, 1) := by decide +kernel
theorem dX7_ends_88 : decode cX7_ends 88 = .ok (.getfield 39, 3) := by decide +kernel
theorem dX7_ends_91 : decode cX7_ends 91 = .ok (.iconst 1, 1) := by decide +kernel
theorem dX7_ends_92 : decode cX7_ends 92 = .ok (.iadd, 1) := by decide +kernel
theorem dX7_ends_93 : decode cX7_ends 93 = .ok (.putfield 39, 3) := by decide +kernel
theorem dX7_ends_96 : decode cX7_ends 96 = .ok (.iload_n 1, 1) := by decide +kernel
theorem dX7_ends_97 : decode cX7_ends 97 = .ok (.ireturn, 1) := by decide +kernel
theorem dX7_isVan_0 : decode cX7_isVan 0 = .ok (.iload_n 1, 1) := by decide +kernel
theorem dX7_isVan_1 : decode cX7_isVan 1 = .ok (.iconst 0, 1) := by decide +kernel
theorem dX7_isVan_2 : decode cX7_isVan 2 = .ok (.aload_n 0, 1) := by decide +kernel
theorem dX7_isVan_3 : decode cX7_isVan 3 = .ok (.getfield 7, 3) := by decide +kernel
theorem dX7_isVan_6 : decode cX7_isVan 6 = .ok (.iconst 0, 1) := by decide +kernel
theorem dX7_isVan_7 : decode cX7_isVan 7 = .ok (.iaload, 1) := by decide +kernel
theorem dX7_isVan_8 : decode cX7_isVan 8 = .ok (.iconst 1, 1) := by decide +kernel
theorem dX7_isVan_9 : decode cX7_isVan 9 = .ok (.isub, 1) := by decide +kernel
theorem dX7_isVan_10 : decode cX7_isVan 10 = .ok (.invokestatic 43, 3) := by decide +kernel
theorem dX7_isVan_13 : decode cX7_isVan 13 = .ok (.ireturn, 1) := by decide +kernel
theorem dX7_isZone_0 : decode cX7_isZone 0 = .ok (.iload_n 0, 1) := by decide +kernel
theorem dX7_isZone_1 : decode cX7_isZone 1 = .ok (.iconst 0, 1) := by decide +kernel
theorem dX7_isZone_2 : decode cX7_isZone 2 = .ok (.iconst 2, 1) := by decide +kernel
theorem dX7_isZone_3 : decode cX7_isZone 3 = .ok (.invokestatic 43, 3) := by decide +kernel
theorem dX7_isZone_6 : decode cX7_isZone 6 = .ok (.ireturn, 1) := by decide +kernel
theorem dX7_isPallet_0 : decode cX7_isPallet 0 = .ok (.iload_n 1, 1) := by decide +kernel
theorem dX7_isPallet_1 : decode cX7_isPallet 1 = .ok (.iconst 0, 1) := by decide +kernel
theorem dX7_isPallet_2 : decode cX7_isPallet 2 = .ok (.aload_n 0, 1) := by decide +kernel
theorem dX7_isPallet_3 : decode cX7_isPallet 3 = .ok (.getfield 7, 3) := by decide +kernel
theorem dX7_isPallet_6 : decode cX7_isPallet 6 = .ok (.iconst 1, 1) := by decide +kernel
theorem dX7_isPallet_7 : decode cX7_isPallet 7 = .ok (.iaload, 1) := by decide +kernel
theorem dX7_isPallet_8 : decode cX7_isPallet 8 = .ok (.iconst 1, 1) := by decide +kernel
theorem dX7_isPallet_9 : decode cX7_isPallet 9 = .ok (.isub, 1) := by decide +kernel
theorem dX7_isPallet_10 : decode cX7_isPallet 10 = .ok (.invokestatic 43, 3) := by decide +kernel
theorem dX7_isPallet_13 : decode cX7_isPallet 13 = .ok (.ireturn, 1) := by decide +kernel
theorem dX7_of_0 : decode cX7_of 0 = .ok (.aload_n 0, 1) := by decide +kernel
theorem dX7_of_1 : decode cX7_of 1 = .ok (.getfield 7, 3) := by decide +kernel
theorem dX7_of_4 : decode cX7_of 4 = .ok (.bipush 6, 2) := by decide +kernel
theorem dX7_of_6 : decode cX7_of 6 = .ok (.bipush 19, 2) := by decide +kernel
theorem dX7_of_8 : decode cX7_of 8 = .ok (.iload_n 1, 1) := by decide +kernel
theorem dX7_of_9 : decode cX7_of 9 = .ok (.imul, 1) := by decide +kernel
theorem dX7_of_10 : decode cX7_of 10 = .ok (.iadd, 1) := by decide +kernel
theorem dX7_of_11 : decode cX7_of 11 = .ok (.iload_n 2, 1) := by decide +kernel
theorem dX7_of_12 : decode cX7_of 12 = .ok (.iadd, 1) := by decide +kernel
theorem dX7_of_13 : decode cX7_of 13 = .ok (.iaload, 1) := by decide +kernel
theorem dX7_of_14 : decode cX7_of 14 = .ok (.ireturn, 1) := by decide +kernel
theorem dX7_zoneSpot_0 : decode cX7_zoneSpot 0 = .ok (.bipush 6, 2) := by decide +kernel
theorem dX7_zoneSpot_2 : decode cX7_zoneSpot 2 = .ok (.bipush 19, 2) := by decide +kernel
theorem dX7_zoneSpot_4 : decode cX7_zoneSpot 4 = .ok (.iload_n 0, 1) := by decide +kernel
theorem dX7_zoneSpot_5 : decode cX7_zoneSpot 5 = .ok (.imul, 1) := by decide +kernel
theorem dX7_zoneSpot_6 : decode cX7_zoneSpot 6 = .ok (.iadd, 1) := by decide +kernel
theorem dX7_zoneSpot_7 : decode cX7_zoneSpot 7 = .ok (.iconst 4, 1) := by decide +kernel
theorem dX7_zoneSpot_8 : decode cX7_zoneSpot 8 = .ok (.iadd, 1) := by decide +kernel
theorem dX7_zoneSpot_9 : decode cX7_zoneSpot 9 = .ok (.iconst 5, 1) := by decide +kernel
theorem dX7_zoneSpot_10 : decode cX7_zoneSpot 10 = .ok (.iload_n 1, 1) := by decide +kernel
theorem dX7_zoneSpot_11 : decode cX7_zoneSpot 11 = .ok (.imul, 1) := by decide +kernel
theorem dX7_zoneSpot_12 : decode cX7_zoneSpot 12 = .ok (.iadd, 1) := by decide +kernel
theorem dX7_zoneSpot_13 : decode cX7_zoneSpot 13 = .ok (.ireturn, 1) := by decide +kernel
theorem dX7_at_0 : decode cX7_at 0 = .ok (.aload_n 0, 1) := by decide +kernel
theorem dX7_at_1 : decode cX7_at 1 = .ok (.getfield 7, 3) := by decide +kernel
theorem dX7_at_4 : decode cX7_at 4 = .ok (.iload_n 1, 1) := by decide +kernel
theorem dX7_at_5 : decode cX7_at 5 = .ok (.iload_n 2, 1) := by decide +kernel
theorem dX7_at_6 : decode cX7_at 6 = .ok (.invokestatic 47, 3) := by decide +kernel
theorem dX7_at_9 : decode cX7_at 9 = .ok (.iload_n 3, 1) := by decide +kernel
theorem dX7_at_10 : decode cX7_at 10 = .ok (.iadd, 1) := by decide +kernel
theorem dX7_at_11 : decode cX7_at 11 = .ok (.iaload, 1) := by decide +kernel
theorem dX7_at_12 : decode cX7_at 12 = .ok (.ireturn, 1) := by decide +kernel
theorem dX7_palletSpot_0 : decode cX7_palletSpot 0 = .ok (.bipush 63, 2) := by decide +kernel
theorem dX7_palletSpot_2 : decode cX7_palletSpot 2 = .ok (.bipush 10, 2) := by decide +kernel
theorem dX7_palletSpot_4 : decode cX7_palletSpot 4 = .ok (.iload_n 0, 1) := by decide +kernel
theorem dX7_palletSpot_5 : decode cX7_palletSpot 5 = .ok (.imul, 1) := by decide +kernel
theorem dX7_palletSpot_6 : decode cX7_palletSpot 6 = .ok (.iadd, 1) := by decide +kernel
theorem dX7_palletSpot_7 : decode cX7_palletSpot 7 = .ok (.ireturn, 1) := by decide +kernel
theorem dX7_its_0 : decode cX7_its 0 = .ok (.aload_n 0, 1) := by decide +kernel
theorem dX7_its_1 : decode cX7_its 1 = .ok (.getfield 7, 3) := by decide +kernel
theorem dX7_its_4 : decode cX7_its 4 = .ok (.iload_n 1, 1) := by decide +kernel
theorem dX7_its_5 : decode cX7_its 5 = .ok (.invokestatic 51, 3) := by decide +kernel
theorem dX7_its_8 : decode cX7_its 8 = .ok (.iload_n 2, 1) := by decide +kernel
theorem dX7_its_9 : decode cX7_its 9 = .ok (.bipush 10, 2) := by decide +kernel
theorem dX7_its_11 : decode cX7_its 11 = .ok (.if_icmp .ne 8, 3) := by decide +kernel
theorem dX7_its_14 : decode cX7_its 14 = .ok (.bipush 9, 2) := by decide +kernel
theorem dX7_its_16 : decode cX7_its 16 = .ok (.goto 4, 3) := by decide +kernel
theorem dX7_its_19 : decode cX7_its 19 = .ok (.iload_n 2, 1) := by decide +kernel
theorem dX7_its_20 : decode cX7_its 20 = .ok (.iadd, 1) := by decide +kernel
theorem dX7_its_21 : decode cX7_its 21 = .ok (.iaload, 1) := by decide +kernel
theorem dX7_its_22 : decode cX7_its 22 = .ok (.ireturn, 1) := by decide +kernel
theorem dX7_reading_0 : decode cX7_reading 0 = .ok (.aload_n 0, 1) := by decide +kernel
theorem dX7_reading_1 : decode cX7_reading 1 = .ok (.iload_n 1, 1) := by decide +kernel
theorem dX7_reading_2 : decode cX7_reading 2 = .ok (.iload_n 2, 1) := by decide +kernel
theorem dX7_reading_3 : decode cX7_reading 3 = .ok (.iconst 1, 1) := by decide +kernel
theorem dX7_reading_4 : decode cX7_reading 4 = .ok (.invokevirtual 55, 3) := by decide +kernel
theorem dX7_reading_7 : decode cX7_reading 7 = .ok (.istore_n 3, 1) := by decide +kernel
theorem dX7_reading_8 : decode cX7_reading 8 = .ok (.iload_n 3, 1) := by decide +kernel
theorem dX7_reading_9 : decode cX7_reading 9 = .ok (.iconst 2, 1) := by decide +kernel
theorem dX7_reading_10 : decode cX7_reading 10 = .ok (.if_icmp .ne 13, 3) := by decide +kernel
theorem dX7_reading_13 : decode cX7_reading 13 = .ok (.aload_n 0, 1) := by decide +kernel
theorem dX7_reading_14 : decode cX7_reading 14 = .ok (.iload_n 1, 1) := by decide +kernel
theorem dX7_reading_15 : decode cX7_reading 15 = .ok (.iload_n 2, 1) := by decide +kernel
theorem dX7_reading_16 : decode cX7_reading 16 = .ok (.iconst 2, 1) := by decide +kernel
theorem dX7_reading_17 : decode cX7_reading 17 = .ok (.invokevirtual 55, 3) := by decide +kernel
theorem dX7_reading_20 : decode cX7_reading 20 = .ok (.goto 27, 3) := by decide +kernel
theorem dX7_reading_23 : decode cX7_reading 23 = .ok (.aload_n 0, 1) := by decide +kernel
theorem dX7_reading_24 : decode cX7_reading 24 = .ok (.iload_n 1, 1) := by decide +kernel
theorem dX7_reading_25 : decode cX7_reading 25 = .ok (.iload_n 2, 1) := by decide +kernel
theorem dX7_reading_26 : decode cX7_reading 26 = .ok (.iconst 0, 1) := by decide +kernel
theorem dX7_reading_27 : decode cX7_reading 27 = .ok (.invokevirtual 55, 3) := by decide +kernel
theorem dX7_reading_30 : decode cX7_reading 30 = .ok (.iload_n 3, 1) := by decide +kernel
theorem dX7_reading_31 : decode cX7_reading 31 = .ok (.iconst 1, 1) := by decide +kernel
theorem dX7_reading_32 : decode cX7_reading 32 = .ok (.if_icmp .ne 13, 3) := by decide +kernel
theorem dX7_reading_35 : decode cX7_reading 35 = .ok (.aload_n 0, 1) := by decide +kernel
theorem dX7_reading_36 : decode cX7_reading 36 = .ok (.iload_n 1, 1) := by decide +kernel
theorem dX7_reading_37 : decode cX7_reading 37 = .ok (.iload_n 2, 1) := by decide +kernel
theorem dX7_reading_38 : decode cX7_reading 38 = .ok (.iconst 2, 1) := by decide +kernel
theorem dX7_reading_39 : decode cX7_reading 39 = .ok (.invokevirtual 55, 3) := by decide +kernel
theorem dX7_reading_42 : decode cX7_reading 42 = .ok (.goto 4, 3) := by decide +kernel
theorem dX7_reading_45 : decode cX7_reading 45 = .ok (.iconst 0, 1) := by decide +kernel
theorem dX7_reading_46 : decode cX7_reading 46 = .ok (.iadd, 1) := by decide +kernel
theorem dX7_reading_47 : decode cX7_reading 47 = .ok (.ireturn, 1) := by decide +kernel
theorem dX7_told_0 : decode cX7_told 0 = .ok (.aload_n 0, 1) := by decide +kernel
theorem dX7_told_1 : decode cX7_told 1 = .ok (.iload_n 1, 1) := by decide +kernel
theorem dX7_told_2 : decode cX7_told 2 = .ok (.iload_n 2, 1) := by decide +kernel
theorem dX7_told_3 : decode cX7_told 3 = .ok (.iconst 3, 1) := by decide +kernel
theorem dX7_told_4 : decode cX7_told 4 = .ok (.invokevirtual 55, 3) := by decide +kernel
theorem dX7_told_7 : decode cX7_told 7 = .ok (.ifCond .ne 10, 3) := by decide +kernel
theorem dX7_told_10 : decode cX7_told 10 = .ok (.aload_n 0, 1) := by decide +kernel
theorem dX7_told_11 : decode cX7_told 11 = .ok (.iload_n 1, 1) := by decide +kernel
theorem dX7_told_12 : decode cX7_told 12 = .ok (.iload_n 2, 1) := by decide +kernel
theorem dX7_told_13 : decode cX7_told 13 = .ok (.invokevirtual 59, 3) := by decide +kernel
theorem dX7_told_16 : decode cX7_told 16 = .ok (.ireturn, 1) := by decide +kernel
theorem dX7_told_17 : decode cX7_told 17 = .ok (.aload_n 0, 1) := by decide +kernel
theorem dX7_told_18 : decode cX7_told 18 = .ok (.iload_n 1, 1) := by decide +kernel
theorem dX7_told_19 : decode cX7_told 19 = .ok (.iload_n 2, 1) := by decide +kernel
theorem dX7_told_20 : decode cX7_told 20 = .ok (.iconst 1, 1) := by decide +kernel
theorem dX7_told_21 : decode cX7_told 21 = .ok (.iadd, 1) := by decide +kernel
theorem dX7_told_22 : decode cX7_told 22 = .ok (.iconst 3, 1) := by decide +kernel
theorem dX7_told_23 : decode cX7_told 23 = .ok (.irem, 1) := by decide +kernel
theorem dX7_told_24 : decode cX7_told 24 = .ok (.invokevirtual 59, 3) := by decide +kernel
theorem dX7_told_27 : decode cX7_told 27 = .ok (.aload_n 0, 1) := by decide +kernel
theorem dX7_told_28 : decode cX7_told 28 = .ok (.iload_n 1, 1) := by decide +kernel
theorem dX7_told_29 : decode cX7_told 29 = .ok (.iload_n 2, 1) := by decide +kernel
theorem dX7_told_30 : decode cX7_told 30 = .ok (.iconst 2, 1) := by decide +kernel
theorem dX7_told_31 : decode cX7_told 31 = .ok (.iadd, 1) := by decide +kernel
theorem dX7_told_32 : decode cX7_told 32 = .ok (.iconst 3, 1) := by decide +kernel
theorem dX7_told_33 : decode cX7_told 33 = .ok (.irem, 1) := by decide +kernel
theorem dX7_told_34 : decode cX7_told 34 = .ok (.invokevirtual 59, 3) := by decide +kernel
theorem dX7_told_37 : decode cX7_told 37 = .ok (.iadd, 1) := by decide +kernel
theorem dX7_told_38 : decode cX7_told 38 = .ok (.istore_n 3, 1) := by decide +kernel
theorem dX7_told_39 : decode cX7_told 39 = .ok (.iload_n 3, 1) := by decide +kernel
theorem dX7_told_40 : decode cX7_told 40 = .ok (.iconst 1, 1) := by decide +kernel
theorem dX7_told_41 : decode cX7_told 41 = .ok (.ishr, 1) := by decide +kernel
theorem dX7_told_42 : decode cX7_told 42 = .ok (.ireturn, 1) := by decide +kernel
theorem dX7_apart_0 : decode cX7_apart 0 = .ok (.iload_n 0, 1) := by decide +kernel
theorem dX7_apart_1 : decode cX7_apart 1 = .ok (.iload_n 1, 1) := by decide +kernel
theorem dX7_apart_2 : decode cX7_apart 2 = .ok (.if_icmp .ge 9, 3) := by decide +kernel
theorem dX7_apart_5 : decode cX7_apart 5 = .ok (.iload_n 1, 1) := by decide +kernel
theorem dX7_apart_6 : decode cX7_apart 6 = .ok (.iload_n 0, 1) := by decide +kernel
theorem dX7_apart_7 : decode cX7_apart 7 = .ok (.isub, 1) := by decide +kernel
theorem dX7_apart_8 : decode cX7_apart 8 = .ok (.goto 6, 3) := by decide +kernel
theorem dX7_apart_11 : decode cX7_apart 11 = .ok (.iload_n 0, 1) := by decide +kernel
theorem dX7_apart_12 : decode cX7_apart 12 = .ok (.iload_n 1, 1) := by decide +kernel
theorem dX7_apart_13 : decode cX7_apart 13 = .ok (.isub, 1) := by decide +kernel
theorem dX7_apart_14 : decode cX7_apart 14 = .ok (.ireturn, 1) := by decide +kernel
theorem dX7_isOdd_0 : decode cX7_isOdd 0 = .ok (.aload_n 0, 1) := by decide +kernel
theorem dX7_isOdd_1 : decode cX7_isOdd 1 = .ok (.iload_n 1, 1) := by decide +kernel
theorem dX7_isOdd_2 : decode cX7_isOdd 2 = .ok (.iload_n 2, 1) := by decide +kernel
theorem dX7_isOdd_3 : decode cX7_isOdd 3 = .ok (.invokevirtual 59, 3) := by decide +kernel
theorem dX7_isOdd_6 : decode cX7_isOdd 6 = .ok (.istore_n 3, 1) := by decide +kernel
theorem dX7_isOdd_7 : decode cX7_isOdd 7 = .ok (.aload_n 0, 1) := by decide +kernel
theorem dX7_isOdd_8 : decode cX7_isOdd 8 = .ok (.iload_n 1, 1) := by decide +kernel
theorem dX7_isOdd_9 : decode cX7_isOdd 9 = .ok (.iload_n 2, 1) := by decide +kernel
theorem dX7_isOdd_10 : decode cX7_isOdd 10 = .ok (.iconst 1, 1) := by decide +kernel
theorem dX7_isOdd_11 : decode cX7_isOdd 11 = .ok (.iadd, 1) := by decide +kernel
theorem dX7_isOdd_12 : decode cX7_isOdd 12 = .ok (.iconst 3, 1) := by decide +kernel
theorem dX7_isOdd_13 : decode cX7_isOdd 13 = .ok (.irem, 1) := by decide +kernel
theorem dX7_isOdd_14 : decode cX7_isOdd 14 = .ok (.invokevirtual 59, 3) := by decide +kernel
theorem dX7_isOdd_17 : decode cX7_isOdd 17 = .ok (.istore 4, 2) := by decide +kernel
theorem dX7_isOdd_19 : decode cX7_isOdd 19 = .ok (.aload_n 0, 1) := by decide +kernel
theorem dX7_isOdd_20 : decode cX7_isOdd 20 = .ok (.iload_n 1, 1) := by decide +kernel
theorem dX7_isOdd_21 : decode cX7_isOdd 21 = .ok (.iload_n 2, 1) := by decide +kernel
theorem dX7_isOdd_22 : decode cX7_isOdd 22 = .ok (.iconst 2, 1) := by decide +kernel
theorem dX7_isOdd_23 : decode cX7_isOdd 23 = .ok (.iadd, 1) := by decide +kernel
theorem dX7_isOdd_24 : decode cX7_isOdd 24 = .ok (.iconst 3, 1) := by decide +kernel
theorem dX7_isOdd_25 : decode cX7_isOdd 25 = .ok (.irem, 1) := by decide +kernel
theorem dX7_isOdd_26 : decode cX7_isOdd 26 = .ok (.invokevirtual 59, 3) := by decide +kernel
theorem dX7_isOdd_29 : decode cX7_isOdd 29 = .ok (.istore 5, 2) := by decide +kernel
theorem dX7_isOdd_31 : decode cX7_isOdd 31 = .ok (.iload_n 3, 1) := by decide +kernel
theorem dX7_isOdd_32 : decode cX7_isOdd 32 = .ok (.iload 4, 2) := by decide +kernel
theorem dX7_isOdd_34 : decode cX7_isOdd 34 = .ok (.invokestatic 62, 3) := by decide +kernel
theorem dX7_isOdd_37 : decode cX7_isOdd 37 = .ok (.aload_n 0, 1) := by decide +kernel
theorem dX7_isOdd_38 : decode cX7_isOdd 38 = .ok (.getfield 7, 3) := by decide +kernel
theorem dX7_isOdd_41 : decode cX7_isOdd 41 = .ok (.iconst 4, 1) := by decide +kernel
theorem dX7_isOdd_42 : decode cX7_isOdd 42 = .ok (.iaload, 1) := by decide +kernel
theorem dX7_isOdd_43 : decode cX7_isOdd 43 = .ok (.if_icmp .le 38, 3) := by decide +kernel
theorem dX7_isOdd_46 : decode cX7_isOdd 46 = .ok (.iload_n 3, 1) := by decide +kernel
theorem dX7_isOdd_47 : decode cX7_isOdd 47 = .ok (.iload 5, 2) := by decide +kernel
theorem dX7_isOdd_49 : decode cX7_isOdd 49 = .ok (.invokestatic 62, 3) := by decide +kernel
theorem dX7_isOdd_52 : decode cX7_isOdd 52 = .ok (.aload_n 0, 1) := by decide +kernel
theorem dX7_isOdd_53 : decode cX7_isOdd 53 = .ok (.getfield 7, 3) := by decide +kernel
theorem dX7_isOdd_56 : decode cX7_isOdd 56 = .ok (.iconst 4, 1) := by decide +kernel
theorem dX7_isOdd_57 : decode cX7_isOdd 57 = .ok (.iaload, 1) := by decide +kernel
theorem dX7_isOdd_58 : decode cX7_isOdd 58 = .ok (.if_icmp .le 23, 3) := by decide +kernel
theorem dX7_isOdd_61 : decode cX7_isOdd 61 = .ok (.iload 4, 2) := by decide +kernel
theorem dX7_isOdd_63 : decode cX7_isOdd 63 = .ok (.iload 5, 2) := by decide +kernel
theorem dX7_isOdd_65 : decode cX7_isOdd 65 = .ok (.invokestatic 62, 3) := by decide +kernel
theorem dX7_isOdd_68 : decode cX7_isOdd 68 = .ok (.aload_n 0, 1) := by decide +kernel
theorem dX7_isOdd_69 : decode cX7_isOdd 69 = .ok (.getfield 7, 3) := by decide +kernel
theorem dX7_isOdd_72 : decode cX7_isOdd 72 = .ok (.iconst 4, 1) := by decide +kernel
theorem dX7_isOdd_73 : decode cX7_isOdd 73 = .ok (.iaload, 1) := by decide +kernel
theorem dX7_isOdd_74 : decode cX7_isOdd 74 = .ok (.if_icmp .gt 7, 3) := by decide +kernel
theorem dX7_isOdd_77 : decode cX7_isOdd 77 = .ok (.iconst 1, 1) := by decide +kernel
theorem dX7_isOdd_78 : decode cX7_isOdd 78 = .ok (.goto 4, 3) := by decide +kernel
theorem dX7_isOdd_81 : decode cX7_isOdd 81 = .ok (.iconst 0, 1) := by decide +kernel
theorem dX7_isOdd_82 : decode cX7_isOdd 82 = .ok (.ireturn, 1) := by decide +kernel
theorem dX7_heats_0 : decode cX7_heats 0 = .ok (.iconst 0, 1) := by decide +kernel
theorem dX7_heats_1 : decode cX7_heats 1 = .ok (.istore_n 2, 1) := by decide +kernel
theorem dX7_heats_2 : decode cX7_heats 2 = .ok (.iload_n 2, 1) := by decide +kernel
theorem dX7_heats_3 : decode cX7_heats 3 = .ok (.iconst 3, 1) := by decide +kernel
theorem dX7_heats_4 : decode cX7_heats 4 = .ok (.if_icmp .ge 144, 3) := by decide +kernel
theorem dX7_heats_7 : decode cX7_heats 7 = .ok (.iload_n 1, 1) := by decide +kernel
theorem dX7_heats_8 : decode cX7_heats 8 = .ok (.iload_n 2, 1) := by decide +kernel
theorem dX7_heats_9 : decode cX7_heats 9 = .ok (.invokestatic 47, 3) := by decide +kernel
theorem dX7_heats_12 : decode cX7_heats 12 = .ok (.istore_n 3, 1) := by decide +kernel
theorem dX7_heats_13 : decode cX7_heats 13 = .ok (.aload_n 0, 1) := by decide +kernel
theorem dX7_heats_14 : decode cX7_heats 14 = .ok (.getfield 7, 3) := by decide +kernel
theorem dX7_heats_17 : decode cX7_heats 17 = .ok (.iload_n 3, 1) := by decide +kernel
theorem dX7_heats_18 : decode cX7_heats 18 = .ok (.iaload, 1) := by decide +kernel
theorem dX7_heats_19 : decode cX7_heats 19 = .ok (.istore 4, 2) := by decide +kernel
theorem dX7_heats_21 : decode cX7_heats 21 = .ok (.aload_n 0, 1) := by decide +kernel
theorem dX7_heats_22 : decode cX7_heats 22 = .ok (.iload_n 1, 1) := by decide +kernel
theorem dX7_heats_23 : decode cX7_heats 23 = .ok (.iconst 0, 1) := by decide +kernel
theorem dX7_heats_24 : decode cX7_heats 24 = .ok (.invokevirtual 65, 3) := by decide +kernel
theorem dX7_heats_27 : decode cX7_heats 27 = .ok (.istore 5, 2) := by decide +kernel
theorem dX7_heats_29 : decode cX7_heats 29 = .ok (.iload_n 2, 1) := by decide +kernel
theorem dX7_heats_30 : decode cX7_heats 30 = .ok (.ifCond .ne 7, 3) := by decide +kernel
theorem dX7_heats_33 : decode cX7_heats 33 = .ok (.iconst 3, 1) := by decide +kernel
theorem dX7_heats_34 : decode cX7_heats 34 = .ok (.goto 15, 3) := by decide +kernel
theorem dX7_heats_37 : decode cX7_heats 37 = .ok (.iload_n 2, 1) := by decide +kernel
theorem dX7_heats_38 : decode cX7_heats 38 = .ok (.iconst 1, 1) := by decide +kernel
theorem dX7_heats_39 : decode cX7_heats 39 = .ok (.if_icmp .ne 8, 3) := by decide +kernel
theorem dX7_heats_42 : decode cX7_heats 42 = .ok (.bipush 6, 2) := by decide +kernel
theorem dX7_heats_44 : decode cX7_heats 44 = .ok (.goto 5, 3) := by decide +kernel
theorem dX7_heats_47 : decode cX7_heats 47 = .ok (.bipush 12, 2) := by decide +kernel
theorem dX7_heats_49 : decode cX7_heats 49 = .ok (.istore 6, 2) := by decide +kernel
theorem dX7_heats_51 : decode cX7_heats 51 = .ok (.aload_n 0, 1) := by decide +kernel
theorem dX7_heats_52 : decode cX7_heats 52 = .ok (.iload_n 1, 1) := by decide +kernel
theorem dX7_heats_53 : decode cX7_heats 53 = .ok (.iconst 2, 1) := by decide +kernel
theorem dX7_heats_54 : decode cX7_heats 54 = .ok (.invokevirtual 65, 3) := by decide +kernel
theorem dX7_heats_57 : decode cX7_heats 57 = .ok (.iconst 1, 1) := by decide +kernel
theorem dX7_heats_58 : decode cX7_heats 58 = .ok (.if_icmp .ne 26, 3) := by decide +kernel
theorem dX7_heats_61 : decode cX7_heats 61 = .ok (.iload 4, 2) := by decide +kernel
theorem dX7_heats_63 : decode cX7_heats 63 = .ok (.aload_n 0, 1) := by decide +kernel
theorem dX7_heats_64 : decode cX7_heats 64 = .ok (.getfield 7, 3) := by decide +kernel
theorem dX7_heats_67 : decode cX7_heats 67 = .ok (.iconst 3, 1) := by decide +kernel
theorem dX7_heats_68 : decode cX7_heats 68 = .ok (.iaload, 1) := by decide +kernel
theorem dX7_heats_69 : decode cX7_heats 69 = .ok (.iload 4, 2) := by decide +kernel
theorem dX7_heats_71 : decode cX7_heats 71 = .ok (.isub, 1) := by decide +kernel
theorem dX7_heats_72 : decode cX7_heats 72 = .ok (.iload 6, 2) := by decide +kernel
theorem dX7_heats_74 : decode cX7_heats 74 = .ok (.imul, 1) := by decide +kernel
theorem dX7_heats_75 : decode cX7_heats 75 = .ok (.bipush 100, 2) := by decide +kernel
theorem dX7_heats_77 : decode cX7_heats 77 = .ok (.idiv, 1) := by decide +kernel
theorem dX7_heats_78 : decode cX7_heats 78 = .ok (.iadd, 1) := by decide +kernel
theorem dX7_heats_79 : decode cX7_heats 79 = .ok (.istore 4, 2) := by decide +kernel
theorem dX7_heats_81 : decode cX7_heats 81 = .ok (.goto 53, 3) := by decide +kernel
theorem dX7_heats_84 : decode cX7_heats 84 = .ok (.iload 4, 2) := by decide +kernel
theorem dX7_heats_86 : decode cX7_heats 86 = .ok (.iload 5, 2) := by decide +kernel
theorem dX7_heats_88 : decode cX7_heats 88 = .ok (.if_icmp .le 36, 3) := by decide +kernel
theorem dX7_heats_91 : decode cX7_heats 91 = .ok (.iload 4, 2) := by decide +kernel
theorem dX7_heats_93 : decode cX7_heats 93 = .ok (.aload_n 0, 1) := by decide +kernel
theorem dX7_heats_94 : decode cX7_heats 94 = .ok (.iload_n 1, 1) := by decide +kernel
theorem dX7_heats_95 : decode cX7_heats 95 = .ok (.iconst 1, 1) := by decide +kernel
theorem dX7_heats_96 : decode cX7_heats 96 = .ok (.invokevirtual 65, 3) := by decide +kernel
theorem dX7_heats_99 : decode cX7_heats 99 = .ok (.isub, 1) := by decide +kernel
theorem dX7_heats_100 : decode cX7_heats 100 = .ok (.iload 5, 2) := by decide +kernel
theorem dX7_heats_102 : decode cX7_heats 102 = .ok (.if_icmp .ge 8, 3) := by decide +kernel
theorem dX7_heats_105 : decode cX7_heats 105 = .ok (.iload 5, 2) := by decide +kernel
theorem dX7_heats_107 : decode cX7_heats 107 = .ok (.goto 12, 3) := by decide +kernel
theorem dX7_heats_110 : decode cX7_heats 110 = .ok (.iload 4, 2) := by decide +kernel
theorem dX7_heats_112 : decode cX7_heats 112 = .ok (.aload_n 0, 1) := by decide +kernel
theorem dX7_heats_113 : decode cX7_heats 113 = .ok (.iload_n 1, 1) := by decide +kernel
theorem dX7_heats_114 : decode cX7_heats 114 = .ok (.iconst 1, 1) := by decide +kernel
theorem dX7_heats_115 : decode cX7_heats 115 = .ok (.invokevirtual 65, 3) := by decide +kernel
theorem dX7_heats_118 : decode cX7_heats 118 = .ok (.isub, 1) := by decide +kernel
theorem dX7_heats_119 : decode cX7_heats 119 = .ok (.istore 4, 2) := by decide +kernel
theorem dX7_heats_121 : decode cX7_heats 121 = .ok (.goto 13, 3) := by decide +kernel
theorem dX7_heats_124 : decode cX7_heats 124 = .ok (.iload 4, 2) := by decide +kernel
theorem dX7_heats_126 : decode cX7_heats 126 = .ok (.iload 5, 2) := by decide +kernel
theorem dX7_heats_128 : decode cX7_heats 128 = .ok (.if_icmp .ge 6, 3) := by decide +kernel
theorem dX7_heats_131 : decode cX7_heats 131 = .ok (.iinc 4 1, 3) := by decide +kernel
theorem dX7_heats_134 : decode cX7_heats 134 = .ok (.aload_n 0, 1) := by decide +kernel
theorem dX7_heats_135 : decode cX7_heats 135 = .ok (.getfield 7, 3) := by decide +kernel
theorem dX7_heats_138 : decode cX7_heats 138 = .ok (.iload_n 3, 1) := by decide +kernel
theorem dX7_heats_139 : decode cX7_heats 139 = .ok (.iload 4, 2) := by decide +kernel
theorem dX7_heats_141 : decode cX7_heats 141 = .ok (.iastore, 1) := by decide +kernel
theorem dX7_heats_142 : decode cX7_heats 142 = .ok (.iinc 2 1, 3) := by decide +kernel
theorem dX7_heats_145 : decode cX7_heats 145 = .ok (.goto (-143), 3) := by decide +kernel
theorem dX7_heats_148 : decode cX7_heats 148 = .ok (.iconst 0, 1) := by decide +kernel
theorem dX7_heats_149 : decode cX7_heats 149 = .ok (.istore_n 2, 1) := by decide +kernel
theorem dX7_heats_150 : decode cX7_heats 150 = .ok (.iload_n 2, 1) := by decide +kernel
theorem dX7_heats_151 : decode cX7_heats 151 = .ok (.iconst 2, 1) := by decide +kernel
theorem dX7_heats_152 : decode cX7_heats 152 = .ok (.if_icmp .ge 60, 3) := by decide +kernel
theorem dX7_heats_155 : decode cX7_heats 155 = .ok (.aload_n 0, 1) := by decide +kernel
theorem dX7_heats_156 : decode cX7_heats 156 = .ok (.iload_n 1, 1) := by decide +kernel
theorem dX7_heats_157 : decode cX7_heats 157 = .ok (.iload_n 2, 1) := by decide +kernel
theorem dX7_heats_158 : decode cX7_heats 158 = .ok (.iconst 0, 1) := by decide +kernel
theorem dX7_heats_159 : decode cX7_heats 159 = .ok (.invokevirtual 55, 3) := by decide +kernel
theorem dX7_heats_162 : decode cX7_heats 162 = .ok (.aload_n 0, 1) := by decide +kernel
theorem dX7_heats_163 : decode cX7_heats 163 = .ok (.iload_n 1, 1) := by decide +kernel
theorem dX7_heats_164 : decode cX7_heats 164 = .ok (.iload_n 2, 1) := by decide +kernel
theorem dX7_heats_165 : decode cX7_heats 165 = .ok (.iconst 1, 1) := by decide +kernel
theorem dX7_heats_166 : decode cX7_heats 166 = .ok (.iadd, 1) := by decide +kernel
theorem dX7_heats_167 : decode cX7_heats 167 = .ok (.iconst 0, 1) := by decide +kernel
theorem dX7_heats_168 : decode cX7_heats 168 = .ok (.invokevirtual 55, 3) := by decide +kernel
theorem dX7_heats_171 : decode cX7_heats 171 = .ok (.isub, 1) := by decide +kernel
theorem dX7_heats_172 : decode cX7_heats 172 = .ok (.bipush 10, 2) := by decide +kernel
theorem dX7_heats_174 : decode cX7_heats 174 = .ok (.idiv, 1) := by decide +kernel
theorem dX7_heats_175 : decode cX7_heats 175 = .ok (.istore_n 3, 1) := by decide +kernel
theorem dX7_heats_176 : decode cX7_heats 176 = .ok (.aload_n 0, 1) := by decide +kernel
theorem dX7_heats_177 : decode cX7_heats 177 = .ok (.getfield 7, 3) := by decide +kernel
theorem dX7_heats_180 : decode cX7_heats 180 = .ok (.iload_n 1, 1) := by decide +kernel
theorem dX7_heats_181 : decode cX7_heats 181 = .ok (.iload_n 2, 1) := by decide +kernel
theorem dX7_heats_182 : decode cX7_heats 182 = .ok (.invokestatic 47, 3) := by decide +kernel
theorem dX7_heats_185 : decode cX7_heats 185 = .ok (.dup2, 1) := by decide +kernel
theorem dX7_heats_186 : decode cX7_heats 186 = .ok (.iaload, 1) := by decide +kernel
theorem dX7_heats_187 : decode cX7_heats 187 = .ok (.iload_n 3, 1) := by decide +kernel
theorem dX7_heats_188 : decode cX7_heats 188 = .ok (.isub, 1) := by decide +kernel
theorem dX7_heats_189 : decode cX7_heats 189 = .ok (.iastore, 1) := by decide +kernel
theorem dX7_heats_190 : decode cX7_heats 190 = .ok (.aload_n 0, 1) := by decide +kernel
theorem dX7_heats_191 : decode cX7_heats 191 = .ok (.getfield 7, 3) := by decide +kernel
theorem dX7_heats_194 : decode cX7_heats 194 = .ok (.iload_n 1, 1) := by decide +kernel
theorem dX7_heats_195 : decode cX7_heats 195 = .ok (.iload_n 2, 1) := by decide +kernel
theorem dX7_heats_196 : decode cX7_heats 196 = .ok (.iconst 1, 1) := by decide +kernel
theorem dX7_heats_197 : decode cX7_heats 197 = .ok (.iadd, 1) := by decide +kernel
theorem dX7_heats_198 : decode cX7_heats 198 = .ok (.invokestatic 47, 3) := by decide +kernel
theorem dX7_heats_201 : decode cX7_heats 201 = .ok (.dup2, 1) := by decide +kernel
theorem dX7_heats_202 : decode cX7_heats 202 = .ok (.iaload, 1) := by decide +kernel
theorem dX7_heats_203 : decode cX7_heats 203 = .ok (.iload_n 3, 1) := by decide +kernel
theorem dX7_heats_204 : decode cX7_heats 204 = .ok (.iadd, 1) := by decide +kernel
theorem dX7_heats_205 : decode cX7_heats 205 = .ok (.iastore, 1) := by decide +kernel
theorem dX7_heats_206 : decode cX7_heats 206 = .ok (.iinc 2 1, 3) := by decide +kernel
theorem dX7_heats_209 : decode cX7_heats 209 = .ok (.goto (-59), 3) := by decide +kernel
theorem dX7_heats_212 : decode cX7_heats 212 = .ok (.return_, 1) := by decide +kernel
theorem dX7_reads_0 : decode cX7_reads 0 = .ok (.iconst 0, 1) := by decide +kernel
theorem dX7_reads_1 : decode cX7_reads 1 = .ok (.istore_n 2, 1) := by decide +kernel
theorem dX7_reads_2 : decode cX7_reads 2 = .ok (.iconst 0, 1) := by decide +kernel
theorem dX7_reads_3 : decode cX7_reads 3 = .ok (.istore_n 3, 1) := by decide +kernel
theorem dX7_reads_4 : decode cX7_reads 4 = .ok (.iload_n 3, 1) := by decide +kernel
theorem dX7_reads_5 : decode cX7_reads 5 = .ok (.iconst 3, 1) := by decide +kernel
theorem dX7_reads_6 : decode cX7_reads 6 = .ok (.if_icmp .ge 104, 3) := by decide +kernel
theorem dX7_reads_9 : decode cX7_reads 9 = .ok (.iload_n 1, 1) := by decide +kernel
theorem dX7_reads_10 : decode cX7_reads 10 = .ok (.iload_n 3, 1) := by decide +kernel
theorem dX7_reads_11 : decode cX7_reads 11 = .ok (.invokestatic 47, 3) := by decide +kernel
theorem dX7_reads_14 : decode cX7_reads 14 = .ok (.istore 4, 2) := by decide +kernel
theorem dX7_reads_16 : decode cX7_reads 16 = .ok (.aload_n 0, 1) := by decide +kernel
theorem dX7_reads_17 : decode cX7_reads 17 = .ok (.getfield 7, 3) := by decide +kernel
theorem dX7_reads_20 : decode cX7_reads 20 = .ok (.iload 4, 2) := by decide +kernel
theorem dX7_reads_22 : decode cX7_reads 22 = .ok (.iconst 4, 1) := by decide +kernel
theorem dX7_reads_23 : decode cX7_reads 23 = .ok (.iadd, 1) := by decide +kernel
theorem dX7_reads_24 : decode cX7_reads 24 = .ok (.aload_n 0, 1) := by decide +kernel
theorem dX7_reads_25 : decode cX7_reads 25 = .ok (.iload_n 1, 1) := by decide +kernel
theorem dX7_reads_26 : decode cX7_reads 26 = .ok (.iload_n 3, 1) := by decide +kernel
theorem dX7_reads_27 : decode cX7_reads 27 = .ok (.invokevirtual 68, 3) := by decide +kernel
theorem dX7_reads_30 : decode cX7_reads 30 = .ok (.ifCond .eq 17, 3) := by decide +kernel
theorem dX7_reads_33 : decode cX7_reads 33 = .ok (.aload_n 0, 1) := by decide +kernel
theorem dX7_reads_34 : decode cX7_reads 34 = .ok (.getfield 7, 3) := by decide +kernel
theorem dX7_reads_37 : decode cX7_reads 37 = .ok (.iload 4, 2) := by decide +kernel
theorem dX7_reads_39 : decode cX7_reads 39 = .ok (.iconst 4, 1) := by decide +kernel
theorem dX7_reads_40 : decode cX7_reads 40 = .ok (.iadd, 1) := by decide +kernel
theorem dX7_reads_41 : decode cX7_reads 41 = .ok (.iaload, 1) := by decide +kernel
theorem dX7_reads_42 : decode cX7_reads 42 = .ok (.iconst 1, 1) := by decide +kernel
theorem dX7_reads_43 : decode cX7_reads 43 = .ok (.iadd, 1) := by decide +kernel
theorem dX7_reads_44 : decode cX7_reads 44 = .ok (.goto 4, 3) := by decide +kernel
theorem dX7_reads_47 : decode cX7_reads 47 = .ok (.iconst 0, 1) := by decide +kernel
theorem dX7_reads_48 : decode cX7_reads 48 = .ok (.iastore, 1) := by decide +kernel
theorem dX7_reads_49 : decode cX7_reads 49 = .ok (.aload_n 0, 1) := by decide +kernel
theorem dX7_reads_50 : decode cX7_reads 50 = .ok (.getfield 7, 3) := by decide +kernel
theorem dX7_reads_53 : decode cX7_reads 53 = .ok (.iload 4, 2) := by decide +kernel
theorem dX7_reads_55 : decode cX7_reads 55 = .ok (.iconst 4, 1) := by decide +kernel
theorem dX7_reads_56 : decode cX7_reads 56 = .ok (.iadd, 1) := by decide +kernel
theorem dX7_reads_57 : decode cX7_reads 57 = .ok (.iaload, 1) := by decide +kernel
theorem dX7_reads_58 : decode cX7_reads 58 = .ok (.aload_n 0, 1) := by decide +kernel
theorem dX7_reads_59 : decode cX7_reads 59 = .ok (.getfield 7, 3) := by decide +kernel
theorem dX7_reads_62 : decode cX7_reads 62 = .ok (.iconst 5, 1) := by decide +kernel
theorem dX7_reads_63 : decode cX7_reads 63 = .ok (.iaload, 1) := by decide +kernel
theorem dX7_reads_64 : decode cX7_reads 64 = .ok (.if_icmp .lt 40, 3) := by decide +kernel
theorem dX7_reads_67 : decode cX7_reads 67 = .ok (.aload_n 0, 1) := by decide +kernel
theorem dX7_reads_68 : decode cX7_reads 68 = .ok (.getfield 7, 3) := by decide +kernel
theorem dX7_reads_71 : decode cX7_reads 71 = .ok (.iload 4, 2) := by decide +kernel
theorem dX7_reads_73 : decode cX7_reads 73 = .ok (.iconst 4, 1) := by decide +kernel
theorem dX7_reads_74 : decode cX7_reads 74 = .ok (.iadd, 1) := by decide +kernel
theorem dX7_reads_75 : decode cX7_reads 75 = .ok (.iaload, 1) := by decide +kernel
theorem dX7_reads_76 : decode cX7_reads 76 = .ok (.ifCond .le 28, 3) := by decide +kernel
theorem dX7_reads_79 : decode cX7_reads 79 = .ok (.aload_n 0, 1) := by decide +kernel
theorem dX7_reads_80 : decode cX7_reads 80 = .ok (.getfield 7, 3) := by decide +kernel
theorem dX7_reads_83 : decode cX7_reads 83 = .ok (.iload 4, 2) := by decide +kernel
theorem dX7_reads_85 : decode cX7_reads 85 = .ok (.iconst 3, 1) := by decide +kernel
theorem dX7_reads_86 : decode cX7_reads 86 = .ok (.iadd, 1) := by decide +kernel
theorem dX7_reads_87 : decode cX7_reads 87 = .ok (.iaload, 1) := by decide +kernel
theorem dX7_reads_88 : decode cX7_reads 88 = .ok (.ifCond .ne 16, 3) := by decide +kernel
theorem dX7_reads_91 : decode cX7_reads 91 = .ok (.aload_n 0, 1) := by decide +kernel
theorem dX7_reads_92 : decode cX7_reads 92 = .ok (.getfield 7, 3) := by decide +kernel
theorem dX7_reads_95 : decode cX7_reads 95 = .ok (.iload 4, 2) := by decide +kernel
theorem dX7_reads_97 : decode cX7_reads 97 = .ok (.iconst 3, 1) := by decide +kernel
theorem dX7_reads_98 : decode cX7_reads 98 = .ok (.iadd, 1) := by decide +kernel
theorem dX7_reads_99 : decode cX7_reads 99 = .ok (.iconst 1, 1) := by decide +kernel
theorem dX7_reads_100 : decode cX7_reads 100 = .ok (.iastore, 1) := by decide +kernel
theorem dX7_reads_101 : decode cX7_reads 101 = .ok (.iinc 2 1, 3) := by decide +kernel
theorem dX7_reads_104 : decode cX7_reads 104 = .ok (.iinc 3 1, 3) := by decide +kernel
theorem dX7_reads_107 : decode cX7_reads 107 = .ok (.goto (-103), 3) := by decide +kernel
theorem dX7_reads_110 : decode cX7_reads 110 = .ok (.iload_n 2, 1) := by decide +kernel
theorem dX7_reads_111 : decode cX7_reads 111 = .ok (.ireturn, 1) := by decide +kernel
theorem dX7_warms_0 : decode cX7_warms 0 = .ok (.iconst 0, 1) := by decide +kernel
theorem dX7_warms_1 : decode cX7_warms 1 = .ok (.istore_n 2, 1) := by decide +kernel
theorem dX7_warms_2 : decode cX7_warms 2 = .ok (.iload_n 2, 1) := by decide +kernel
theorem dX7_warms_3 : decode cX7_warms 3 = .ok (.aload_n 0, 1) := by decide +kernel
theorem dX7_warms_4 : decode cX7_warms 4 = .ok (.getfield 7, 3) := by decide +kernel
theorem dX7_warms_7 : decode cX7_warms 7 = .ok (.iconst 1, 1) := by decide +kernel
theorem dX7_warms_8 : decode cX7_warms 8 = .ok (.iaload, 1) := by decide +kernel
theorem dX7_warms_9 : decode cX7_warms 9 = .ok (.if_icmp .ge 135, 3) := by decide +kernel
theorem dX7_warms_12 : decode cX7_warms 12 = .ok (.aload_n 0, 1) := by decide +kernel
theorem dX7_warms_13 : decode cX7_warms 13 = .ok (.iload_n 2, 1) := by decide +kernel
theorem dX7_warms_14 : decode cX7_warms 14 = .ok (.iconst 5, 1) := by decide +kernel
theorem dX7_warms_15 : decode cX7_warms 15 = .ok (.invokevirtual 72, 3) := by decide +kernel
theorem dX7_warms_18 : decode cX7_warms 18 = .ok (.ifCond .ne 120, 3) := by decide +kernel
theorem dX7_warms_21 : decode cX7_warms 21 = .ok (.aload_n 0, 1) := by decide +kernel
theorem dX7_warms_22 : decode cX7_warms 22 = .ok (.iload_n 2, 1) := by decide +kernel
theorem dX7_warms_23 : decode cX7_warms 23 = .ok (.iconst 0, 1) := by decide +kernel
theorem dX7_warms_24 : decode cX7_warms 24 = .ok (.invokevirtual 72, 3) := by decide +kernel
theorem dX7_warms_27 : decode cX7_warms 27 = .ok (.iload_n 1, 1) := by decide +kernel
theorem dX7_warms_28 : decode cX7_warms 28 = .ok (.if_icmp .ne 110, 3) := by decide +kernel
theorem dX7_warms_31 : decode cX7_warms 31 = .ok (.iload_n 2, 1) := by decide +kernel
theorem dX7_warms_32 : decode cX7_warms 32 = .ok (.invokestatic 51, 3) := by decide +kernel
theorem dX7_warms_35 : decode cX7_warms 35 = .ok (.istore_n 3, 1) := by decide +kernel
theorem dX7_warms_36 : decode cX7_warms 36 = .ok (.aload_n 0, 1) := by decide +kernel
theorem dX7_warms_37 : decode cX7_warms 37 = .ok (.iload_n 1, 1) := by decide +kernel
theorem dX7_warms_38 : decode cX7_warms 38 = .ok (.aload_n 0, 1) := by decide +kernel
theorem dX7_warms_39 : decode cX7_warms 39 = .ok (.iload_n 2, 1) := by decide +kernel
theorem dX7_warms_40 : decode cX7_warms 40 = .ok (.iconst 1, 1) := by decide +kernel
theorem dX7_warms_41 : decode cX7_warms 41 = .ok (.invokevirtual 72, 3) := by decide +kernel
theorem dX7_warms_44 : decode cX7_warms 44 = .ok (.iconst 0, 1) := by decide +kernel
theorem dX7_warms_45 : decode cX7_warms 45 = .ok (.invokevirtual 55, 3) := by decide +kernel
theorem dX7_warms_48 : decode cX7_warms 48 = .ok (.aload_n 0, 1) := by decide +kernel
theorem dX7_warms_49 : decode cX7_warms 49 = .ok (.iload_n 2, 1) := by decide +kernel
theorem dX7_warms_50 : decode cX7_warms 50 = .ok (.iconst 2, 1) := by decide +kernel
theorem dX7_warms_51 : decode cX7_warms 51 = .ok (.invokevirtual 72, 3) := by decide +kernel
theorem dX7_warms_54 : decode cX7_warms 54 = .ok (.if_icmp .le 7, 3) := by decide +kernel
theorem dX7_warms_57 : decode cX7_warms 57 = .ok (.iconst 1, 1) := by decide +kernel
theorem dX7_warms_58 : decode cX7_warms 58 = .ok (.goto 4, 3) := by decide +kernel
theorem dX7_warms_61 : decode cX7_warms 61 = .ok (.iconst 0, 1) := by decide +kernel
theorem dX7_warms_62 : decode cX7_warms 62 = .ok (.istore 4, 2) := by decide +kernel
theorem dX7_warms_64 : decode cX7_warms 64 = .ok (.aload_n 0, 1) := by decide +kernel
theorem dX7_warms_65 : decode cX7_warms 65 = .ok (.getfield 7, 3) := by decide +kernel
theorem dX7_warms_68 : decode cX7_warms 68 = .ok (.iload_n 3, 1) := by decide +kernel
theorem dX7_warms_69 : decode cX7_warms 69 = .ok (.aload_n 0, 1) := by decide +kernel
theorem dX7_warms_70 : decode cX7_warms 70 = .ok (.iload_n 1, 1) := by decide +kernel
theorem dX7_warms_71 : decode cX7_warms 71 = .ok (.iconst 2, 1) := by decide +kernel
theorem dX7_warms_72 : decode cX7_warms 72 = .ok (.invokevirtual 65, 3) := by decide +kernel
theorem dX7_warms_75 : decode cX7_warms 75 = .ok (.iconst 1, 1) := by decide +kernel
theorem dX7_warms_76 : decode cX7_warms 76 = .ok (.if_icmp .ne 8, 3) := by decide +kernel
theorem dX7_warms_79 : decode cX7_warms 79 = .ok (.bipush 6, 2) := by decide +kernel
theorem dX7_warms_81 : decode cX7_warms 81 = .ok (.goto 5, 3) := by decide +kernel
theorem dX7_warms_84 : decode cX7_warms 84 = .ok (.bipush 7, 2) := by decide +kernel
theorem dX7_warms_86 : decode cX7_warms 86 = .ok (.iadd, 1) := by decide +kernel
theorem dX7_warms_87 : decode cX7_warms 87 = .ok (.dup2, 1) := by decide +kernel
theorem dX7_warms_88 : decode cX7_warms 88 = .ok (.iaload, 1) := by decide +kernel
theorem dX7_warms_89 : decode cX7_warms 89 = .ok (.iload 4, 2) := by decide +kernel
theorem dX7_warms_91 : decode cX7_warms 91 = .ok (.ifCond .eq 7, 3) := by decide +kernel
theorem dX7_warms_94 : decode cX7_warms 94 = .ok (.iconst 1, 1) := by decide +kernel
theorem dX7_warms_95 : decode cX7_warms 95 = .ok (.goto 4, 3) := by decide +kernel
theorem dX7_warms_98 : decode cX7_warms 98 = .ok (.iconst 0, 1) := by decide +kernel
theorem dX7_warms_99 : decode cX7_warms 99 = .ok (.iadd, 1) := by decide +kernel
theorem dX7_warms_100 : decode cX7_warms 100 = .ok (.iastore, 1) := by decide +kernel
theorem dX7_warms_101 : decode cX7_warms 101 = .ok (.aload_n 0, 1) := by decide +kernel
theorem dX7_warms_102 : decode cX7_warms 102 = .ok (.getfield 7, 3) := by decide +kernel
theorem dX7_warms_105 : decode cX7_warms 105 = .ok (.iload_n 3, 1) := by decide +kernel
theorem dX7_warms_106 : decode cX7_warms 106 = .ok (.bipush 8, 2) := by decide +kernel
theorem dX7_warms_108 : decode cX7_warms 108 = .ok (.iadd, 1) := by decide +kernel
theorem dX7_warms_109 : decode cX7_warms 109 = .ok (.dup2, 1) := by decide +kernel
theorem dX7_warms_110 : decode cX7_warms 110 = .ok (.iaload, 1) := by decide +kernel
theorem dX7_warms_111 : decode cX7_warms 111 = .ok (.aload_n 0, 1) := by decide +kernel
theorem dX7_warms_112 : decode cX7_warms 112 = .ok (.iload_n 1, 1) := by decide +kernel
theorem dX7_warms_113 : decode cX7_warms 113 = .ok (.aload_n 0, 1) := by decide +kernel
theorem dX7_warms_114 : decode cX7_warms 114 = .ok (.iload_n 2, 1) := by decide +kernel
theorem dX7_warms_115 : decode cX7_warms 115 = .ok (.iconst 1, 1) := by decide +kernel
theorem dX7_warms_116 : decode cX7_warms 116 = .ok (.invokevirtual 72, 3) := by decide +kernel
theorem dX7_warms_119 : decode cX7_warms 119 = .ok (.invokevirtual 75, 3) := by decide +kernel
theorem dX7_warms_122 : decode cX7_warms 122 = .ok (.aload_n 0, 1) := by decide +kernel
theorem dX7_warms_123 : decode cX7_warms 123 = .ok (.iload_n 2, 1) := by decide +kernel
theorem dX7_warms_124 : decode cX7_warms 124 = .ok (.iconst 2, 1) := by decide +kernel
theorem dX7_warms_125 : decode cX7_warms 125 = .ok (.invokevirtual 72, 3) := by decide +kernel
theorem dX7_warms_128 : decode cX7_warms 128 = .ok (.if_icmp .le 7, 3) := by decide +kernel
theorem dX7_warms_131 : decode cX7_warms 131 = .ok (.iconst 1, 1) := by decide +kernel
theorem dX7_warms_132 : decode cX7_warms 132 = .ok (.goto 4, 3) := by decide +kernel
theorem dX7_warms_135 : decode cX7_warms 135 = .ok (.iconst 0, 1) := by decide +kernel
theorem dX7_warms_136 : decode cX7_warms 136 = .ok (.iadd, 1) := by decide +kernel
theorem dX7_warms_137 : decode cX7_warms 137 = .ok (.iastore, 1) := by decide +kernel
theorem dX7_warms_138 : decode cX7_warms 138 = .ok (.iinc 2 1, 3) := by decide +kernel
theorem dX7_warms_141 : decode cX7_warms 141 = .ok (.goto (-139), 3) := by decide +kernel
theorem dX7_warms_144 : decode cX7_warms 144 = .ok (.return_, 1) := by decide +kernel
theorem dX7_minute_0 : decode cX7_minute 0 = .ok (.iconst 0, 1) := by decide +kernel
theorem dX7_minute_1 : decode cX7_minute 1 = .ok (.istore_n 1, 1) := by decide +kernel
theorem dX7_minute_2 : decode cX7_minute 2 = .ok (.aload_n 0, 1) := by decide +kernel
theorem dX7_minute_3 : decode cX7_minute 3 = .ok (.getfield 7, 3) := by decide +kernel
theorem dX7_minute_6 : decode cX7_minute 6 = .ok (.iconst 2, 1) := by decide +kernel
theorem dX7_minute_7 : decode cX7_minute 7 = .ok (.dup2, 1) := by decide +kernel
theorem dX7_minute_8 : decode cX7_minute 8 = .ok (.iaload, 1) := by decide +kernel
theorem dX7_minute_9 : decode cX7_minute 9 = .ok (.iconst 1, 1) := by decide +kernel
theorem dX7_minute_10 : decode cX7_minute 10 = .ok (.iadd, 1) := by decide +kernel
theorem dX7_minute_11 : decode cX7_minute 11 = .ok (.iastore, 1) := by decide +kernel
theorem dX7_minute_12 : decode cX7_minute 12 = .ok (.iconst 0, 1) := by decide +kernel
theorem dX7_minute_13 : decode cX7_minute 13 = .ok (.istore_n 2, 1) := by decide +kernel
theorem dX7_minute_14 : decode cX7_minute 14 = .ok (.iload_n 2, 1) := by decide +kernel
theorem dX7_minute_15 : decode cX7_minute 15 = .ok (.aload_n 0, 1) := by decide +kernel
theorem dX7_minute_16 : decode cX7_minute 16 = .ok (.getfield 7, 3) := by decide +kernel
theorem dX7_minute_19 : decode cX7_minute 19 = .ok (.iconst 0, 1) := by decide +kernel
theorem dX7_minute_20 : decode cX7_minute 20 = .ok (.iaload, 1) := by decide +kernel
theorem dX7_minute_21 : decode cX7_minute 21 = .ok (.if_icmp .ge 98, 3) := by decide +kernel
theorem dX7_minute_24 : decode cX7_minute 24 = .ok (.aload_n 0, 1) := by decide +kernel
theorem dX7_minute_25 : decode cX7_minute 25 = .ok (.iload_n 2, 1) := by decide +kernel
theorem dX7_minute_26 : decode cX7_minute 26 = .ok (.invokevirtual 78, 3) := by decide +kernel
theorem dX7_minute_29 : decode cX7_minute 29 = .ok (.iload_n 1, 1) := by decide +kernel
theorem dX7_minute_30 : decode cX7_minute 30 = .ok (.aload_n 0, 1) := by decide +kernel
theorem dX7_minute_31 : decode cX7_minute 31 = .ok (.iload_n 2, 1) := by decide +kernel
theorem dX7_minute_32 : decode cX7_minute 32 = .ok (.invokevirtual 82, 3) := by decide +kernel
theorem dX7_minute_35 : decode cX7_minute 35 = .ok (.iadd, 1) := by decide +kernel
theorem dX7_minute_36 : decode cX7_minute 36 = .ok (.istore_n 1, 1) := by decide +kernel
theorem dX7_minute_37 : decode cX7_minute 37 = .ok (.aload_n 0, 1) := by decide +kernel
theorem dX7_minute_38 : decode cX7_minute 38 = .ok (.iload_n 2, 1) := by decide +kernel
theorem dX7_minute_39 : decode cX7_minute 39 = .ok (.invokevirtual 85, 3) := by decide +kernel
theorem dX7_minute_42 : decode cX7_minute 42 = .ok (.iconst 0, 1) := by decide +kernel
theorem dX7_minute_43 : decode cX7_minute 43 = .ok (.istore_n 3, 1) := by decide +kernel
theorem dX7_minute_44 : decode cX7_minute 44 = .ok (.iload_n 3, 1) := by decide +kernel
theorem dX7_minute_45 : decode cX7_minute 45 = .ok (.iconst 3, 1) := by decide +kernel
theorem dX7_minute_46 : decode cX7_minute 46 = .ok (.if_icmp .ge 67, 3) := by decide +kernel
theorem dX7_minute_49 : decode cX7_minute 49 = .ok (.aload_n 0, 1) := by decide +kernel
theorem dX7_minute_50 : decode cX7_minute 50 = .ok (.getfield 25, 3) := by decide +kernel
theorem dX7_minute_53 : decode cX7_minute 53 = .ok (.ifCond .eq 60, 3) := by decide +kernel
theorem dX7_minute_56 : decode cX7_minute 56 = .ok (.bipush 18, 2) := by decide +kernel
theorem dX7_minute_58 : decode cX7_minute 58 = .ok (.aload_n 0, 1) := by decide +kernel
theorem dX7_minute_59 : decode cX7_minute 59 = .ok (.getfield 7, 3) := by decide +kernel
theorem dX7_minute_62 : decode cX7_minute 62 = .ok (.iconst 2, 1) := by decide +kernel
theorem dX7_minute_63 : decode cX7_minute 63 = .ok (.iaload, 1) := by decide +kernel
theorem dX7_minute_64 : decode cX7_minute 64 = .ok (.iconst 1, 1) := by decide +kernel
theorem dX7_minute_65 : decode cX7_minute 65 = .ok (.isub, 1) := by decide +kernel
theorem dX7_minute_66 : decode cX7_minute 66 = .ok (.imul, 1) := by decide +kernel
theorem dX7_minute_67 : decode cX7_minute 67 = .ok (.bipush 6, 2) := by decide +kernel
theorem dX7_minute_69 : decode cX7_minute 69 = .ok (.iload_n 2, 1) := by decide +kernel
theorem dX7_minute_70 : decode cX7_minute 70 = .ok (.imul, 1) := by decide +kernel
theorem dX7_minute_71 : decode cX7_minute 71 = .ok (.iadd, 1) := by decide +kernel
theorem dX7_minute_72 : decode cX7_minute 72 = .ok (.iconst 2, 1) := by decide +kernel
theorem dX7_minute_73 : decode cX7_minute 73 = .ok (.iload_n 3, 1) := by decide +kernel
theorem dX7_minute_74 : decode cX7_minute 74 = .ok (.imul, 1) := by decide +kernel
theorem dX7_minute_75 : decode cX7_minute 75 = .ok (.iadd, 1) := by decide +kernel
theorem dX7_minute_76 : decode cX7_minute 76 = .ok (.istore 4, 2) := by decide +kernel
theorem dX7_minute_78 : decode cX7_minute 78 = .ok (.aload_n 0, 1) := by decide +kernel
theorem dX7_minute_79 : decode cX7_minute 79 = .ok (.getfield 22, 3) := by decide +kernel
theorem dX7_minute_82 : decode cX7_minute 82 = .ok (.iload 4, 2) := by decide +kernel
theorem dX7_minute_84 : decode cX7_minute 84 = .ok (.aload_n 0, 1) := by decide +kernel
theorem dX7_minute_85 : decode cX7_minute 85 = .ok (.iload_n 2, 1) := by decide +kernel
theorem dX7_minute_86 : decode cX7_minute 86 = .ok (.iload_n 3, 1) := by decide +kernel
theorem dX7_minute_87 : decode cX7_minute 87 = .ok (.iconst 0, 1) := by decide +kernel
theorem dX7_minute_88 : decode cX7_minute 88 = .ok (.invokevirtual 55, 3) := by decide +kernel
theorem dX7_minute_91 : decode cX7_minute 91 = .ok (.iastore, 1) := by decide +kernel
theorem dX7_minute_92 : decode cX7_minute 92 = .ok (.aload_n 0, 1) := by decide +kernel
theorem dX7_minute_93 : decode cX7_minute 93 = .ok (.getfield 22, 3) := by decide +kernel
theorem dX7_minute_96 : decode cX7_minute 96 = .ok (.iload 4, 2) := by decide +kernel
theorem dX7_minute_98 : decode cX7_minute 98 = .ok (.iconst 1, 1) := by decide +kernel
theorem dX7_minute_99 : decode cX7_minute 99 = .ok (.iadd, 1) := by decide +kernel
theorem dX7_minute_100 : decode cX7_minute 100 = .ok (.aload_n 0, 1) := by decide +kernel
theorem dX7_minute_101 : decode cX7_minute 101 = .ok (.iload_n 2, 1) := by decide +kernel
theorem dX7_minute_102 : decode cX7_minute 102 = .ok (.iload_n 3, 1) := by decide +kernel
theorem dX7_minute_103 : decode cX7_minute 103 = .ok (.invokevirtual 75, 3) := by decide +kernel
theorem dX7_minute_106 : decode cX7_minute 106 = .ok (.iastore, 1) := by decide +kernel
theorem dX7_minute_107 : decode cX7_minute 107 = .ok (.iinc 3 1, 3) := by decide +kernel
theorem dX7_minute_110 : decode cX7_minute 110 = .ok (.goto (-66), 3) := by decide +kernel
theorem dX7_minute_113 : decode cX7_minute 113 = .ok (.iinc 2 1, 3) := by decide +kernel
theorem dX7_minute_116 : decode cX7_minute 116 = .ok (.goto (-102), 3) := by decide +kernel
theorem dX7_minute_119 : decode cX7_minute 119 = .ok (.iload_n 1, 1) := by decide +kernel
theorem dX7_minute_120 : decode cX7_minute 120 = .ok (.ireturn, 1) := by decide +kernel
theorem dX7_inVan_0 : decode cX7_inVan 0 = .ok (.iconst 0, 1) := by decide +kernel
theorem dX7_inVan_1 : decode cX7_inVan 1 = .ok (.istore_n 2, 1) := by decide +kernel
theorem dX7_inVan_2 : decode cX7_inVan 2 = .ok (.iconst 0, 1) := by decide +kernel
theorem dX7_inVan_3 : decode cX7_inVan 3 = .ok (.istore_n 3, 1) := by decide +kernel
theorem dX7_inVan_4 : decode cX7_inVan 4 = .ok (.iload_n 3, 1) := by decide +kernel
theorem dX7_inVan_5 : decode cX7_inVan 5 = .ok (.aload_n 0, 1) := by decide +kernel
theorem dX7_inVan_6 : decode cX7_inVan 6 = .ok (.getfield 7, 3) := by decide +kernel
theorem dX7_inVan_9 : decode cX7_inVan 9 = .ok (.iconst 1, 1) := by decide +kernel
theorem dX7_inVan_10 : decode cX7_inVan 10 = .ok (.iaload, 1) := by decide +kernel
theorem dX7_inVan_11 : decode cX7_inVan 11 = .ok (.if_icmp .ge 38, 3) := by decide +kernel
theorem dX7_inVan_14 : decode cX7_inVan 14 = .ok (.iload_n 2, 1) := by decide +kernel
theorem dX7_inVan_15 : decode cX7_inVan 15 = .ok (.aload_n 0, 1) := by decide +kernel
theorem dX7_inVan_16 : decode cX7_inVan 16 = .ok (.iload_n 3, 1) := by decide +kernel
theorem dX7_inVan_17 : decode cX7_inVan 17 = .ok (.iconst 5, 1) := by decide +kernel
theorem dX7_inVan_18 : decode cX7_inVan 18 = .ok (.invokevirtual 72, 3) := by decide +kernel
theorem dX7_inVan_21 : decode cX7_inVan 21 = .ok (.ifCond .ne 19, 3) := by decide +kernel
theorem dX7_inVan_24 : decode cX7_inVan 24 = .ok (.aload_n 0, 1) := by decide +kernel
theorem dX7_inVan_25 : decode cX7_inVan 25 = .ok (.iload_n 3, 1) := by decide +kernel
theorem dX7_inVan_26 : decode cX7_inVan 26 = .ok (.iconst 0, 1) := by decide +kernel
theorem dX7_inVan_27 : decode cX7_inVan 27 = .ok (.invokevirtual 72, 3) := by decide +kernel
theorem dX7_inVan_30 : decode cX7_inVan 30 = .ok (.iload_n 1, 1) := by decide +kernel
theorem dX7_inVan_31 : decode cX7_inVan 31 = .ok (.if_icmp .ne 9, 3) := by decide +kernel
theorem dX7_inVan_34 : decode cX7_inVan 34 = .ok (.iconst 1, 1) := by decide +kernel
theorem dX7_inVan_35 : decode cX7_inVan 35 = .ok (.iload_n 3, 1) := by decide +kernel
theorem dX7_inVan_36 : decode cX7_inVan 36 = .ok (.ishl, 1) := by decide +kernel
theorem dX7_inVan_37 : decode cX7_inVan 37 = .ok (.goto 4, 3) := by decide +kernel
theorem dX7_inVan_40 : decode cX7_inVan 40 = .ok (.iconst 0, 1) := by decide +kernel
theorem dX7_inVan_41 : decode cX7_inVan 41 = .ok (.ior, 1) := by decide +kernel
theorem dX7_inVan_42 : decode cX7_inVan 42 = .ok (.istore_n 2, 1) := by decide +kernel
theorem dX7_inVan_43 : decode cX7_inVan 43 = .ok (.iinc 3 1, 3) := by decide +kernel
theorem dX7_inVan_46 : decode cX7_inVan 46 = .ok (.goto (-42), 3) := by decide +kernel
theorem dX7_inVan_49 : decode cX7_inVan 49 = .ok (.iload_n 2, 1) := by decide +kernel
theorem dX7_inVan_50 : decode cX7_inVan 50 = .ok (.ireturn, 1) := by decide +kernel
theorem dX7_bits_0 : decode cX7_bits 0 = .ok (.iconst 0, 1) := by decide +kernel
theorem dX7_bits_1 : decode cX7_bits 1 = .ok (.istore_n 1, 1) := by decide +kernel
theorem dX7_bits_2 : decode cX7_bits 2 = .ok (.iconst 0, 1) := by decide +kernel
theorem dX7_bits_3 : decode cX7_bits 3 = .ok (.istore_n 2, 1) := by decide +kernel
theorem dX7_bits_4 : decode cX7_bits 4 = .ok (.iload_n 2, 1) := by decide +kernel
theorem dX7_bits_5 : decode cX7_bits 5 = .ok (.bipush 12, 2) := by decide +kernel
theorem dX7_bits_7 : decode cX7_bits 7 = .ok (.if_icmp .ge 17, 3) := by decide +kernel
theorem dX7_bits_10 : decode cX7_bits 10 = .ok (.iload_n 1, 1) := by decide +kernel
theorem dX7_bits_11 : decode cX7_bits 11 = .ok (.iload_n 0, 1) := by decide +kernel
theorem dX7_bits_12 : decode cX7_bits 12 = .ok (.iload_n 2, 1) := by decide +kernel
theorem dX7_bits_13 : decode cX7_bits 13 = .ok (.ishr, 1) := by decide +kernel
theorem dX7_bits_14 : decode cX7_bits 14 = .ok (.iconst 1, 1) := by decide +kernel
theorem dX7_bits_15 : decode cX7_bits 15 = .ok (.iand, 1) := by decide +kernel
theorem dX7_bits_16 : decode cX7_bits 16 = .ok (.iadd, 1) := by decide +kernel
theorem dX7_bits_17 : decode cX7_bits 17 = .ok (.istore_n 1, 1) := by decide +kernel
theorem dX7_bits_18 : decode cX7_bits 18 = .ok (.iinc 2 1, 3) := by decide +kernel
theorem dX7_bits_21 : decode cX7_bits 21 = .ok (.goto (-17), 3) := by decide +kernel
theorem dX7_bits_24 : decode cX7_bits 24 = .ok (.iload_n 1, 1) := by decide +kernel
theorem dX7_bits_25 : decode cX7_bits 25 = .ok (.ireturn, 1) := by decide +kernel
theorem dX7_doors_0 : decode cX7_doors 0 = .ok (.aload_n 0, 1) := by decide +kernel
theorem dX7_doors_1 : decode cX7_doors 1 = .ok (.iload_n 1, 1) := by decide +kernel
theorem dX7_doors_2 : decode cX7_doors 2 = .ok (.invokevirtual 88, 3) := by decide +kernel
theorem dX7_doors_5 : decode cX7_doors 5 = .ok (.ifCond .eq 12, 3) := by decide +kernel
theorem dX7_doors_8 : decode cX7_doors 8 = .ok (.iload_n 2, 1) := by decide +kernel
theorem dX7_doors_9 : decode cX7_doors 9 = .ok (.iconst 0, 1) := by decide +kernel
theorem dX7_doors_10 : decode cX7_doors 10 = .ok (.iconst 1, 1) := by decide +kernel
theorem dX7_doors_11 : decode cX7_doors 11 = .ok (.invokestatic 43, 3) := by decide +kernel
theorem dX7_doors_14 : decode cX7_doors 14 = .ok (.ifCond .ne 6, 3) := by decide +kernel
theorem dX7_doors_17 : decode cX7_doors 17 = .ok (.ldc 92, 2) := by decide +kernel
theorem dX7_doors_19 : decode cX7_doors 19 = .ok (.ireturn, 1) := by decide +kernel
theorem dX7_doors_20 : decode cX7_doors 20 = .ok (.aload_n 0, 1) := by decide +kernel
theorem dX7_doors_21 : decode cX7_doors 21 = .ok (.iload_n 1, 1) := by decide +kernel
theorem dX7_doors_22 : decode cX7_doors 22 = .ok (.iconst 2, 1) := by decide +kernel
theorem dX7_doors_23 : decode cX7_doors 23 = .ok (.invokevirtual 65, 3) := by decide +kernel
theorem dX7_doors_26 : decode cX7_doors 26 = .ok (.iload_n 2, 1) := by decide +kernel
theorem dX7_doors_27 : decode cX7_doors 27 = .ok (.if_icmp .ne 6, 3) := by decide +kernel
theorem dX7_doors_30 : decode cX7_doors 30 = .ok (.ldc 93, 2) := by decide +kernel
theorem dX7_doors_32 : decode cX7_doors 32 = .ok (.ireturn, 1) := by decide +kernel
theorem dX7_doors_33 : decode cX7_doors 33 = .ok (.aload_n 0, 1) := by decide +kernel
theorem dX7_doors_34 : decode cX7_doors 34 = .ok (.getfield 7, 3) := by decide +kernel
theorem dX7_doors_37 : decode cX7_doors 37 = .ok (.bipush 6, 2) := by decide +kernel
theorem dX7_doors_39 : decode cX7_doors 39 = .ok (.bipush 19, 2) := by decide +kernel
theorem dX7_doors_41 : decode cX7_doors 41 = .ok (.iload_n 1, 1) := by decide +kernel
theorem dX7_doors_42 : decode cX7_doors 42 = .ok (.imul, 1) := by decide +kernel
theorem dX7_doors_43 : decode cX7_doors 43 = .ok (.iadd, 1) := by decide +kernel
theorem dX7_doors_44 : decode cX7_doors 44 = .ok (.iconst 2, 1) := by decide +kernel
theorem dX7_doors_45 : decode cX7_doors 45 = .ok (.iadd, 1) := by decide +kernel
theorem dX7_doors_46 : decode cX7_doors 46 = .ok (.iload_n 2, 1) := by decide +kernel
theorem dX7_doors_47 : decode cX7_doors 47 = .ok (.iastore, 1) := by decide +kernel
theorem dX7_doors_48 : decode cX7_doors 48 = .ok (.aload_n 0, 1) := by decide +kernel
theorem dX7_doors_49 : decode cX7_doors 49 = .ok (.iload_n 1, 1) := by decide +kernel
theorem dX7_doors_50 : decode cX7_doors 50 = .ok (.invokevirtual 94, 3) := by decide +kernel
theorem dX7_doors_53 : decode cX7_doors 53 = .ok (.invokestatic 97, 3) := by decide +kernel
theorem dX7_doors_56 : decode cX7_doors 56 = .ok (.ireturn, 1) := by decide +kernel
theorem dX7_passes_0 : decode cX7_passes 0 = .ok (.iload_n 1, 1) := by decide +kernel
theorem dX7_passes_1 : decode cX7_passes 1 = .ok (.iconst 1, 1) := by decide +kernel
theorem dX7_passes_2 : decode cX7_passes 2 = .ok (.sipush 300, 3) := by decide +kernel
theorem dX7_passes_5 : decode cX7_passes 5 = .ok (.invokestatic 43, 3) := by decide +kernel
theorem dX7_passes_8 : decode cX7_passes 8 = .ok (.ifCond .ne 6, 3) := by decide +kernel
theorem dX7_passes_11 : decode cX7_passes 11 = .ok (.ldc 92, 2) := by decide +kernel
theorem dX7_passes_13 : decode cX7_passes 13 = .ok (.ireturn, 1) := by decide +kernel
theorem dX7_passes_14 : decode cX7_passes 14 = .ok (.aload_n 0, 1) := by decide +kernel
theorem dX7_passes_15 : decode cX7_passes 15 = .ok (.getfield 7, 3) := by decide +kernel
theorem dX7_passes_18 : decode cX7_passes 18 = .ok (.iconst 2, 1) := by decide +kernel
theorem dX7_passes_19 : decode cX7_passes 19 = .ok (.iaload, 1) := by decide +kernel
theorem dX7_passes_20 : decode cX7_passes 20 = .ok (.iload_n 1, 1) := by decide +kernel
theorem dX7_passes_21 : decode cX7_passes 21 = .ok (.iadd, 1) := by decide +kernel
theorem dX7_passes_22 : decode cX7_passes 22 = .ok (.sipush 600, 3) := by decide +kernel
theorem dX7_passes_25 : decode cX7_passes 25 = .ok (.if_icmp .le 6, 3) := by decide +kernel
theorem dX7_passes_28 : decode cX7_passes 28 = .ok (.ldc 100, 2) := by decide +kernel
theorem dX7_passes_30 : decode cX7_passes 30 = .ok (.ireturn, 1) := by decide +kernel
theorem dX7_passes_31 : decode cX7_passes 31 = .ok (.iconst 0, 1) := by decide +kernel
theorem dX7_passes_32 : decode cX7_passes 32 = .ok (.istore_n 2, 1) := by decide +kernel
theorem dX7_passes_33 : decode cX7_passes 33 = .ok (.iconst 0, 1) := by decide +kernel
theorem dX7_passes_34 : decode cX7_passes 34 = .ok (.istore_n 3, 1) := by decide +kernel
theorem dX7_passes_35 : decode cX7_passes 35 = .ok (.iload_n 3, 1) := by decide +kernel
theorem dX7_passes_36 : decode cX7_passes 36 = .ok (.iload_n 1, 1) := by decide +kernel
theorem dX7_passes_37 : decode cX7_passes 37 = .ok (.if_icmp .ge 16, 3) := by decide +kernel
theorem dX7_passes_40 : decode cX7_passes 40 = .ok (.iload_n 2, 1) := by decide +kernel
theorem dX7_passes_41 : decode cX7_passes 41 = .ok (.aload_n 0, 1) := by decide +kernel
theorem dX7_passes_42 : decode cX7_passes 42 = .ok (.invokevirtual 101, 3) := by decide +kernel
theorem dX7_passes_45 : decode cX7_passes 45 = .ok (.iadd, 1) := by decide +kernel
theorem dX7_passes_46 : decode cX7_passes 46 = .ok (.istore_n 2, 1) := by decide +kernel
theorem dX7_passes_47 : decode cX7_passes 47 = .ok (.iinc 3 1, 3) := by decide +kernel
theorem dX7_passes_50 : decode cX7_passes 50 = .ok (.goto (-15), 3) := by decide +kernel
theorem dX7_passes_53 : decode cX7_passes 53 = .ok (.iload_n 2, 1) := by decide +kernel
theorem dX7_passes_54 : decode cX7_passes 54 = .ok (.ireturn, 1) := by decide +kernel
theorem dX7_delivers_0 : decode cX7_delivers 0 = .ok (.aload_n 0, 1) := by decide +kernel
theorem dX7_delivers_1 : decode cX7_delivers 1 = .ok (.iload_n 1, 1) := by decide +kernel
theorem dX7_delivers_2 : decode cX7_delivers 2 = .ok (.invokevirtual 105, 3) := by decide +kernel
theorem dX7_delivers_5 : decode cX7_delivers 5 = .ok (.ifCond .ne 6, 3) := by decide +kernel
theorem dX7_delivers_8 : decode cX7_delivers 8 = .ok (.ldc 92, 2) := by decide +kernel
theorem dX7_delivers_10 : decode cX7_delivers 10 = .ok (.ireturn, 1) := by decide +kernel
theorem dX7_delivers_11 : decode cX7_delivers 11 = .ok (.aload_n 0, 1) := by decide +kernel
theorem dX7_delivers_12 : decode cX7_delivers 12 = .ok (.iload_n 1, 1) := by decide +kernel
theorem dX7_delivers_13 : decode cX7_delivers 13 = .ok (.iconst 5, 1) := by decide +kernel
theorem dX7_delivers_14 : decode cX7_delivers 14 = .ok (.invokevirtual 72, 3) := by decide +kernel
theorem dX7_delivers_17 : decode cX7_delivers 17 = .ok (.ifCond .ne 17, 3) := by decide +kernel
theorem dX7_delivers_20 : decode cX7_delivers 20 = .ok (.aload_n 0, 1) := by decide +kernel
theorem dX7_delivers_21 : decode cX7_delivers 21 = .ok (.aload_n 0, 1) := by decide +kernel
theorem dX7_delivers_22 : decode cX7_delivers 22 = .ok (.iload_n 1, 1) := by decide +kernel
theorem dX7_delivers_23 : decode cX7_delivers 23 = .ok (.iconst 0, 1) := by decide +kernel
theorem dX7_delivers_24 : decode cX7_delivers 24 = .ok (.invokevirtual 72, 3) := by decide +kernel
theorem dX7_delivers_27 : decode cX7_delivers 27 = .ok (.iconst 2, 1) := by decide +kernel
theorem dX7_delivers_28 : decode cX7_delivers 28 = .ok (.invokevirtual 65, 3) := by decide +kernel
theorem dX7_delivers_31 : decode cX7_delivers 31 = .ok (.ifCond .ne 6, 3) := by decide +kernel
theorem dX7_delivers_34 : decode cX7_delivers 34 = .ok (.ldc 93, 2) := by decide +kernel
theorem dX7_delivers_36 : decode cX7_delivers 36 = .ok (.ireturn, 1) := by decide +kernel
theorem dX7_delivers_37 : decode cX7_delivers 37 = .ok (.aload_n 0, 1) := by decide +kernel
theorem dX7_delivers_38 : decode cX7_delivers 38 = .ok (.getfield 7, 3) := by decide +kernel
theorem dX7_delivers_41 : decode cX7_delivers 41 = .ok (.iload_n 1, 1) := by decide +kernel
theorem dX7_delivers_42 : decode cX7_delivers 42 = .ok (.invokestatic 51, 3) := by decide +kernel
theorem dX7_delivers_45 : decode cX7_delivers 45 = .ok (.iconst 5, 1) := by decide +kernel
theorem dX7_delivers_46 : decode cX7_delivers 46 = .ok (.iadd, 1) := by decide +kernel
theorem dX7_delivers_47 : decode cX7_delivers 47 = .ok (.aload_n 0, 1) := by decide +kernel
theorem dX7_delivers_48 : decode cX7_delivers 48 = .ok (.iload_n 1, 1) := by decide +kernel
theorem dX7_delivers_49 : decode cX7_delivers 49 = .ok (.bipush 8, 2) := by decide +kernel
theorem dX7_delivers_51 : decode cX7_delivers 51 = .ok (.invokevirtual 72, 3) := by decide +kernel
theorem dX7_delivers_54 : decode cX7_delivers 54 = .ok (.aload_n 0, 1) := by decide +kernel
theorem dX7_delivers_55 : decode cX7_delivers 55 = .ok (.iload_n 1, 1) := by decide +kernel
theorem dX7_delivers_56 : decode cX7_delivers 56 = .ok (.iconst 3, 1) := by decide +kernel
theorem dX7_delivers_57 : decode cX7_delivers 57 = .ok (.invokevirtual 72, 3) := by decide +kernel
theorem dX7_delivers_60 : decode cX7_delivers 60 = .ok (.if_icmp .le 7, 3) := by decide +kernel
theorem dX7_delivers_63 : decode cX7_delivers 63 = .ok (.iconst 2, 1) := by decide +kernel
theorem dX7_delivers_64 : decode cX7_delivers 64 = .ok (.goto 4, 3) := by decide +kernel
theorem dX7_delivers_67 : decode cX7_delivers 67 = .ok (.iconst 1, 1) := by decide +kernel
theorem dX7_delivers_68 : decode cX7_delivers 68 = .ok (.iastore, 1) := by decide +kernel
theorem dX7_delivers_69 : decode cX7_delivers 69 = .ok (.aload_n 0, 1) := by decide +kernel
theorem dX7_delivers_70 : decode cX7_delivers 70 = .ok (.iload_n 1, 1) := by decide +kernel
theorem dX7_delivers_71 : decode cX7_delivers 71 = .ok (.iconst 5, 1) := by decide +kernel
theorem dX7_delivers_72 : decode cX7_delivers 72 = .ok (.invokevirtual 72, 3) := by decide +kernel
theorem dX7_delivers_75 : decode cX7_delivers 75 = .ok (.ireturn, 1) := by decide +kernel
theorem dX7_repairs_0 : decode cX7_repairs 0 = .ok (.aload_n 0, 1) := by decide +kernel
theorem dX7_repairs_1 : decode cX7_repairs 1 = .ok (.iload_n 1, 1) := by decide +kernel
theorem dX7_repairs_2 : decode cX7_repairs 2 = .ok (.invokevirtual 88, 3) := by decide +kernel
theorem dX7_repairs_5 : decode cX7_repairs 5 = .ok (.ifCond .eq 10, 3) := by decide +kernel
theorem dX7_repairs_8 : decode cX7_repairs 8 = .ok (.iload_n 2, 1) := by decide +kernel
theorem dX7_repairs_9 : decode cX7_repairs 9 = .ok (.invokestatic 108, 3) := by decide +kernel
theorem dX7_repairs_12 : decode cX7_repairs 12 = .ok (.ifCond .ne 6, 3) := by decide +kernel
theorem dX7_repairs_15 : decode cX7_repairs 15 = .ok (.ldc 92, 2) := by decide +kernel
theorem dX7_repairs_17 : decode cX7_repairs 17 = .ok (.ireturn, 1) := by decide +kernel
theorem dX7_repairs_18 : decode cX7_repairs 18 = .ok (.iload_n 1, 1) := by decide +kernel
theorem dX7_repairs_19 : decode cX7_repairs 19 = .ok (.iload_n 2, 1) := by decide +kernel
theorem dX7_repairs_20 : decode cX7_repairs 20 = .ok (.invokestatic 47, 3) := by decide +kernel
theorem dX7_repairs_23 : decode cX7_repairs 23 = .ok (.istore_n 3, 1) := by decide +kernel
theorem dX7_repairs_24 : decode cX7_repairs 24 = .ok (.aload_n 0, 1) := by decide +kernel
theorem dX7_repairs_25 : decode cX7_repairs 25 = .ok (.getfield 7, 3) := by decide +kernel
theorem dX7_repairs_28 : decode cX7_repairs 28 = .ok (.iload_n 3, 1) := by decide +kernel
theorem dX7_repairs_29 : decode cX7_repairs 29 = .ok (.iconst 3, 1) := by decide +kernel
theorem dX7_repairs_30 : decode cX7_repairs 30 = .ok (.iadd, 1) := by decide +kernel
theorem dX7_repairs_31 : decode cX7_repairs 31 = .ok (.iaload, 1) := by decide +kernel
theorem dX7_repairs_32 : decode cX7_repairs 32 = .ok (.istore 4, 2) := by decide +kernel
theorem dX7_repairs_34 : decode cX7_repairs 34 = .ok (.aload_n 0, 1) := by decide +kernel
theorem dX7_repairs_35 : decode cX7_repairs 35 = .ok (.getfield 7, 3) := by decide +kernel
theorem dX7_repairs_38 : decode cX7_repairs 38 = .ok (.iload_n 3, 1) := by decide +kernel
theorem dX7_repairs_39 : decode cX7_repairs 39 = .ok (.iconst 1, 1) := by decide +kernel
theorem dX7_repairs_40 : decode cX7_repairs 40 = .ok (.iadd, 1) := by decide +kernel
theorem dX7_repairs_41 : decode cX7_repairs 41 = .ok (.iconst 0, 1) := by decide +kernel
theorem dX7_repairs_42 : decode cX7_repairs 42 = .ok (.iastore, 1) := by decide +kernel
theorem dX7_repairs_43 : decode cX7_repairs 43 = .ok (.aload_n 0, 1) := by decide +kernel
theorem dX7_repairs_44 : decode cX7_repairs 44 = .ok (.getfield 7, 3) := by decide +kernel
theorem dX7_repairs_47 : decode cX7_repairs 47 = .ok (.iload_n 3, 1) := by decide +kernel
theorem dX7_repairs_48 : decode cX7_repairs 48 = .ok (.iconst 2, 1) := by decide +kernel
theorem dX7_repairs_49 : decode cX7_repairs 49 = .ok (.iadd, 1) := by decide +kernel
theorem dX7_repairs_50 : decode cX7_repairs 50 = .ok (.iconst 0, 1) := by decide +kernel
theorem dX7_repairs_51 : decode cX7_repairs 51 = .ok (.iastore, 1) := by decide +kernel
theorem dX7_repairs_52 : decode cX7_repairs 52 = .ok (.aload_n 0, 1) := by decide +kernel
theorem dX7_repairs_53 : decode cX7_repairs 53 = .ok (.getfield 7, 3) := by decide +kernel
theorem dX7_repairs_56 : decode cX7_repairs 56 = .ok (.iload_n 3, 1) := by decide +kernel
theorem dX7_repairs_57 : decode cX7_repairs 57 = .ok (.iconst 3, 1) := by decide +kernel
theorem dX7_repairs_58 : decode cX7_repairs 58 = .ok (.iadd, 1) := by decide +kernel
theorem dX7_repairs_59 : decode cX7_repairs 59 = .ok (.iconst 0, 1) := by decide +kernel
theorem dX7_repairs_60 : decode cX7_repairs 60 = .ok (.iastore, 1) := by decide +kernel
theorem dX7_repairs_61 : decode cX7_repairs 61 = .ok (.aload_n 0, 1) := by decide +kernel
theorem dX7_repairs_62 : decode cX7_repairs 62 = .ok (.getfield 7, 3) := by decide +kernel
theorem dX7_repairs_65 : decode cX7_repairs 65 = .ok (.iload_n 3, 1) := by decide +kernel
theorem dX7_repairs_66 : decode cX7_repairs 66 = .ok (.iconst 4, 1) := by decide +kernel
theorem dX7_repairs_67 : decode cX7_repairs 67 = .ok (.iadd, 1) := by decide +kernel
theorem dX7_repairs_68 : decode cX7_repairs 68 = .ok (.iconst 0, 1) := by decide +kernel
theorem dX7_repairs_69 : decode cX7_repairs 69 = .ok (.iastore, 1) := by decide +kernel
theorem dX7_repairs_70 : decode cX7_repairs 70 = .ok (.iload 4, 2) := by decide +kernel
theorem dX7_repairs_72 : decode cX7_repairs 72 = .ok (.ireturn, 1) := by decide +kernel
theorem dX7_done_0 : decode cX7_done 0 = .ok (.iload_n 1, 1) := by decide +kernel
theorem dX7_done_1 : decode cX7_done 1 = .ok (.ifCond .ge 7, 3) := by decide +kernel
theorem dX7_done_4 : decode cX7_done 4 = .ok (.iload_n 1, 1) := by decide +kernel
theorem dX7_done_5 : decode cX7_done 5 = .ok (.goto 8, 3) := by decide +kernel
theorem dX7_done_8 : decode cX7_done 8 = .ok (.aload_n 0, 1) := by decide +kernel
theorem dX7_done_9 : decode cX7_done 9 = .ok (.iload_n 1, 1) := by decide +kernel
theorem dX7_done_10 : decode cX7_done 10 = .ok (.invokevirtual 111, 3) := by decide +kernel
theorem dX7_done_13 : decode cX7_done 13 = .ok (.ireturn, 1) := by decide +kernel
theorem dX7_isCold_0 : decode cX7_isCold 0 = .ok (.iload_n 0, 1) := by decide +kernel
theorem dX7_isCold_1 : decode cX7_isCold 1 = .ok (.sipush (-300), 3) := by decide +kernel
theorem dX7_isCold_4 : decode cX7_isCold 4 = .ok (.bipush 100, 2) := by decide +kernel
theorem dX7_isCold_6 : decode cX7_isCold 6 = .ok (.invokestatic 43, 3) := by decide +kernel
theorem dX7_isCold_9 : decode cX7_isCold 9 = .ok (.ifCond .eq 17, 3) := by decide +kernel
theorem dX7_isCold_12 : decode cX7_isCold 12 = .ok (.iload_n 1, 1) := by decide +kernel
theorem dX7_isCold_13 : decode cX7_isCold 13 = .ok (.iconst 0, 1) := by decide +kernel
theorem dX7_isCold_14 : decode cX7_isCold 14 = .ok (.bipush 30, 2) := by decide +kernel
theorem dX7_isCold_16 : decode cX7_isCold 16 = .ok (.invokestatic 43, 3) := by decide +kernel
theorem dX7_isCold_19 : decode cX7_isCold 19 = .ok (.ifCond .eq 7, 3) := by decide +kernel
theorem dX7_isCold_22 : decode cX7_isCold 22 = .ok (.iconst 1, 1) := by decide +kernel
theorem dX7_isCold_23 : decode cX7_isCold 23 = .ok (.goto 4, 3) := by decide +kernel
theorem dX7_isCold_26 : decode cX7_isCold 26 = .ok (.iconst 0, 1) := by decide +kernel
theorem dX7_isCold_27 : decode cX7_isCold 27 = .ok (.ireturn, 1) := by decide +kernel
theorem dX7_addVan_0 : decode cX7_addVan 0 = .ok (.iload_n 1, 1) := by decide +kernel
theorem dX7_addVan_1 : decode cX7_addVan 1 = .ok (.iload_n 2, 1) := by decide +kernel
theorem dX7_addVan_2 : decode cX7_addVan 2 = .ok (.invokestatic 114, 3) := by decide +kernel
theorem dX7_addVan_5 : decode cX7_addVan 5 = .ok (.ifCond .ne 6, 3) := by decide +kernel
theorem dX7_addVan_8 : decode cX7_addVan 8 = .ok (.ldc 92, 2) := by decide +kernel
theorem dX7_addVan_10 : decode cX7_addVan 10 = .ok (.ireturn, 1) := by decide +kernel
theorem dX7_addVan_11 : decode cX7_addVan 11 = .ok (.aload_n 0, 1) := by decide +kernel
theorem dX7_addVan_12 : decode cX7_addVan 12 = .ok (.getfield 7, 3) := by decide +kernel
theorem dX7_addVan_15 : decode cX7_addVan 15 = .ok (.iconst 0, 1) := by decide +kernel
theorem dX7_addVan_16 : decode cX7_addVan 16 = .ok (.iaload, 1) := by decide +kernel
theorem dX7_addVan_17 : decode cX7_addVan 17 = .ok (.iconst 3, 1) := by decide +kernel
theorem dX7_addVan_18 : decode cX7_addVan 18 = .ok (.if_icmp .ne 6, 3) := by decide +kernel
theorem dX7_addVan_21 : decode cX7_addVan 21 = .ok (.ldc 100, 2) := by decide +kernel
theorem dX7_addVan_23 : decode cX7_addVan 23 = .ok (.ireturn, 1) := by decide +kernel
theorem dX7_addVan_24 : decode cX7_addVan 24 = .ok (.aload_n 0, 1) := by decide +kernel
theorem dX7_addVan_25 : decode cX7_addVan 25 = .ok (.invokevirtual 117, 3) := by decide +kernel
theorem dX7_addVan_28 : decode cX7_addVan 28 = .ok (.aload_n 0, 1) := by decide +kernel
theorem dX7_addVan_29 : decode cX7_addVan 29 = .ok (.getfield 7, 3) := by decide +kernel
theorem dX7_addVan_32 : decode cX7_addVan 32 = .ok (.iconst 0, 1) := by decide +kernel
theorem dX7_addVan_33 : decode cX7_addVan 33 = .ok (.iaload, 1) := by decide +kernel
theorem dX7_addVan_34 : decode cX7_addVan 34 = .ok (.istore_n 3, 1) := by decide +kernel
theorem dX7_addVan_35 : decode cX7_addVan 35 = .ok (.iconst 0, 1) := by decide +kernel
theorem dX7_addVan_36 : decode cX7_addVan 36 = .ok (.istore 4, 2) := by decide +kernel
theorem dX7_addVan_38 : decode cX7_addVan 38 = .ok (.iload 4, 2) := by decide +kernel
theorem dX7_addVan_40 : decode cX7_addVan 40 = .ok (.bipush 19, 2) := by decide +kernel
theorem dX7_addVan_42 : decode cX7_addVan 42 = .ok (.if_icmp .ge 25, 3) := by decide +kernel
theorem dX7_addVan_45 : decode cX7_addVan 45 = .ok (.aload_n 0, 1) := by decide +kernel
theorem dX7_addVan_46 : decode cX7_addVan 46 = .ok (.getfield 7, 3) := by decide +kernel
theorem dX7_addVan_49 : decode cX7_addVan 49 = .ok (.bipush 6, 2) := by decide +kernel
theorem dX7_addVan_51 : decode cX7_addVan 51 = .ok (.bipush 19, 2) := by decide +kernel
theorem dX7_addVan_53 : decode cX7_addVan 53 = .ok (.iload_n 3, 1) := by decide +kernel
theorem dX7_addVan_54 : decode cX7_addVan 54 = .ok (.imul, 1) := by decide +kernel
theorem dX7_addVan_55 : decode cX7_addVan 55 = .ok (.iadd, 1) := by decide +kernel
theorem dX7_addVan_56 : decode cX7_addVan 56 = .ok (.iload 4, 2) := by decide +kernel
theorem dX7_addVan_58 : decode cX7_addVan 58 = .ok (.iadd, 1) := by decide +kernel
theorem dX7_addVan_59 : decode cX7_addVan 59 = .ok (.iconst 0, 1) := by decide +kernel
theorem dX7_addVan_60 : decode cX7_addVan 60 = .ok (.iastore, 1) := by decide +kernel
theorem dX7_addVan_61 : decode cX7_addVan 61 = .ok (.iinc 4 1, 3) := by decide +kernel
theorem dX7_addVan_64 : decode cX7_addVan 64 = .ok (.goto (-26), 3) := by decide +kernel
theorem dX7_addVan_67 : decode cX7_addVan 67 = .ok (.aload_n 0, 1) := by decide +kernel
theorem dX7_addVan_68 : decode cX7_addVan 68 = .ok (.getfield 7, 3) := by decide +kernel
theorem dX7_addVan_71 : decode cX7_addVan 71 = .ok (.bipush 6, 2) := by decide +kernel
theorem dX7_addVan_73 : decode cX7_addVan 73 = .ok (.bipush 19, 2) := by decide +kernel
theorem dX7_addVan_75 : decode cX7_addVan 75 = .ok (.iload_n 3, 1) := by decide +kernel
theorem dX7_addVan_76 : decode cX7_addVan 76 = .ok (.imul, 1) := by decide +kernel
theorem dX7_addVan_77 : decode cX7_addVan 77 = .ok (.iadd, 1) := by decide +kernel
theorem dX7_addVan_78 : decode cX7_addVan 78 = .ok (.iconst 0, 1) := by decide +kernel
theorem dX7_addVan_79 : decode cX7_addVan 79 = .ok (.iadd, 1) := by decide +kernel
theorem dX7_addVan_80 : decode cX7_addVan 80 = .ok (.iload_n 1, 1) := by decide +kernel
theorem dX7_addVan_81 : decode cX7_addVan 81 = .ok (.iastore, 1) := by decide +kernel
theorem dX7_addVan_82 : decode cX7_addVan 82 = .ok (.aload_n 0, 1) := by decide +kernel
theorem dX7_addVan_83 : decode cX7_addVan 83 = .ok (.getfield 7, 3) := by decide +kernel
theorem dX7_addVan_86 : decode cX7_addVan 86 = .ok (.bipush 6, 2) := by decide +kernel
theorem dX7_addVan_88 : decode cX7_addVan 88 = .ok (.bipush 19, 2) := by decide +kernel
theorem dX7_addVan_90 : decode cX7_addVan 90 = .ok (.iload_n 3, 1) := by decide +kernel
theorem dX7_addVan_91 : decode cX7_addVan 91 = .ok (.imul, 1) := by decide +kernel
theorem dX7_addVan_92 : decode cX7_addVan 92 = .ok (.iadd, 1) := by decide +kernel
theorem dX7_addVan_93 : decode cX7_addVan 93 = .ok (.iconst 1, 1) := by decide +kernel
theorem dX7_addVan_94 : decode cX7_addVan 94 = .ok (.iadd, 1) := by decide +kernel
theorem dX7_addVan_95 : decode cX7_addVan 95 = .ok (.iload_n 2, 1) := by decide +kernel
theorem dX7_addVan_96 : decode cX7_addVan 96 = .ok (.iastore, 1) := by decide +kernel
theorem dX7_addVan_97 : decode cX7_addVan 97 = .ok (.aload_n 0, 1) := by decide +kernel
theorem dX7_addVan_98 : decode cX7_addVan 98 = .ok (.getfield 7, 3) := by decide +kernel
theorem dX7_addVan_101 : decode cX7_addVan 101 = .ok (.bipush 6, 2) := by decide +kernel
theorem dX7_addVan_103 : decode cX7_addVan 103 = .ok (.bipush 19, 2) := by decide +kernel
theorem dX7_addVan_105 : decode cX7_addVan 105 = .ok (.iload_n 3, 1) := by decide +kernel
theorem dX7_addVan_106 : decode cX7_addVan 106 = .ok (.imul, 1) := by decide +kernel
theorem dX7_addVan_107 : decode cX7_addVan 107 = .ok (.iadd, 1) := by decide +kernel
theorem dX7_addVan_108 : decode cX7_addVan 108 = .ok (.iconst 3, 1) := by decide +kernel
theorem dX7_addVan_109 : decode cX7_addVan 109 = .ok (.iadd, 1) := by decide +kernel
theorem dX7_addVan_110 : decode cX7_addVan 110 = .ok (.aload_n 0, 1) := by decide +kernel
theorem dX7_addVan_111 : decode cX7_addVan 111 = .ok (.getfield 7, 3) := by decide +kernel
theorem dX7_addVan_114 : decode cX7_addVan 114 = .ok (.iconst 2, 1) := by decide +kernel
theorem dX7_addVan_115 : decode cX7_addVan 115 = .ok (.iaload, 1) := by decide +kernel
theorem dX7_addVan_116 : decode cX7_addVan 116 = .ok (.iastore, 1) := by decide +kernel
theorem dX7_addVan_117 : decode cX7_addVan 117 = .ok (.iconst 0, 1) := by decide +kernel
theorem dX7_addVan_118 : decode cX7_addVan 118 = .ok (.istore 4, 2) := by decide +kernel
theorem dX7_addVan_120 : decode cX7_addVan 120 = .ok (.iload 4, 2) := by decide +kernel
theorem dX7_addVan_122 : decode cX7_addVan 122 = .ok (.iconst 3, 1) := by decide +kernel
theorem dX7_addVan_123 : decode cX7_addVan 123 = .ok (.if_icmp .ge 21, 3) := by decide +kernel
theorem dX7_addVan_126 : decode cX7_addVan 126 = .ok (.aload_n 0, 1) := by decide +kernel
theorem dX7_addVan_127 : decode cX7_addVan 127 = .ok (.getfield 7, 3) := by decide +kernel
theorem dX7_addVan_130 : decode cX7_addVan 130 = .ok (.iload_n 3, 1) := by decide +kernel
theorem dX7_addVan_131 : decode cX7_addVan 131 = .ok (.iload 4, 2) := by decide +kernel
theorem dX7_addVan_133 : decode cX7_addVan 133 = .ok (.invokestatic 47, 3) := by decide +kernel
theorem dX7_addVan_136 : decode cX7_addVan 136 = .ok (.iload_n 1, 1) := by decide +kernel
theorem dX7_addVan_137 : decode cX7_addVan 137 = .ok (.iastore, 1) := by decide +kernel
theorem dX7_addVan_138 : decode cX7_addVan 138 = .ok (.iinc 4 1, 3) := by decide +kernel
theorem dX7_addVan_141 : decode cX7_addVan 141 = .ok (.goto (-21), 3) := by decide +kernel
theorem dX7_addVan_144 : decode cX7_addVan 144 = .ok (.aload_n 0, 1) := by decide +kernel
theorem dX7_addVan_145 : decode cX7_addVan 145 = .ok (.getfield 7, 3) := by decide +kernel
theorem dX7_addVan_148 : decode cX7_addVan 148 = .ok (.iconst 0, 1) := by decide +kernel
theorem dX7_addVan_149 : decode cX7_addVan 149 = .ok (.dup2, 1) := by decide +kernel
theorem dX7_addVan_150 : decode cX7_addVan 150 = .ok (.iaload, 1) := by decide +kernel
theorem dX7_addVan_151 : decode cX7_addVan 151 = .ok (.iconst 1, 1) := by decide +kernel
theorem dX7_addVan_152 : decode cX7_addVan 152 = .ok (.iadd, 1) := by decide +kernel
theorem dX7_addVan_153 : decode cX7_addVan 153 = .ok (.iastore, 1) := by decide +kernel
theorem dX7_addVan_154 : decode cX7_addVan 154 = .ok (.aload_n 0, 1) := by decide +kernel
theorem dX7_addVan_155 : decode cX7_addVan 155 = .ok (.iload_n 3, 1) := by decide +kernel
theorem dX7_addVan_156 : decode cX7_addVan 156 = .ok (.invokevirtual 111, 3) := by decide +kernel
theorem dX7_addVan_159 : decode cX7_addVan 159 = .ok (.ireturn, 1) := by decide +kernel
theorem dX7_isNumber_0 : decode cX7_isNumber 0 = .ok (.iload_n 0, 1) := by decide +kernel
theorem dX7_isNumber_1 : decode cX7_isNumber 1 = .ok (.tableswitch 54 0 2 #[27, 38, 46], 27) := by decide +kernel
theorem dX7_isNumber_28 : decode cX7_isNumber 28 = .ok (.iload_n 1, 1) := by decide +kernel
theorem dX7_isNumber_29 : decode cX7_isNumber 29 = .ok (.sipush (-200), 3) := by decide +kernel
theorem dX7_isNumber_32 : decode cX7_isNumber 32 = .ok (.sipush 450, 3) := by decide +kernel
theorem dX7_isNumber_35 : decode cX7_isNumber 35 = .ok (.invokestatic 43, 3) := by decide +kernel
theorem dX7_isNumber_38 : decode cX7_isNumber 38 = .ok (.ireturn, 1) := by decide +kernel
theorem dX7_isNumber_39 : decode cX7_isNumber 39 = .ok (.iload_n 1, 1) := by decide +kernel
theorem dX7_isNumber_40 : decode cX7_isNumber 40 = .ok (.iconst 5, 1) := by decide +kernel
theorem dX7_isNumber_41 : decode cX7_isNumber 41 = .ok (.bipush 100, 2) := by decide +kernel
theorem dX7_isNumber_43 : decode cX7_isNumber 43 = .ok (.invokestatic 43, 3) := by decide +kernel
theorem dX7_isNumber_46 : decode cX7_isNumber 46 = .ok (.ireturn, 1) := by decide +kernel
theorem dX7_isNumber_47 : decode cX7_isNumber 47 = .ok (.iload_n 1, 1) := by decide +kernel
theorem dX7_isNumber_48 : decode cX7_isNumber 48 = .ok (.iconst 1, 1) := by decide +kernel
theorem dX7_isNumber_49 : decode cX7_isNumber 49 = .ok (.bipush 30, 2) := by decide +kernel
theorem dX7_isNumber_51 : decode cX7_isNumber 51 = .ok (.invokestatic 43, 3) := by decide +kernel
theorem dX7_isNumber_54 : decode cX7_isNumber 54 = .ok (.ireturn, 1) := by decide +kernel
theorem dX7_isNumber_55 : decode cX7_isNumber 55 = .ok (.iconst 0, 1) := by decide +kernel
theorem dX7_isNumber_56 : decode cX7_isNumber 56 = .ok (.ireturn, 1) := by decide +kernel
theorem dX7_setNumber_0 : decode cX7_setNumber 0 = .ok (.iload_n 1, 1) := by decide +kernel
theorem dX7_setNumber_1 : decode cX7_setNumber 1 = .ok (.iload_n 2, 1) := by decide +kernel
theorem dX7_setNumber_2 : decode cX7_setNumber 2 = .ok (.invokestatic 120, 3) := by decide +kernel
theorem dX7_setNumber_5 : decode cX7_setNumber 5 = .ok (.ifCond .ne 6, 3) := by decide +kernel
theorem dX7_setNumber_8 : decode cX7_setNumber 8 = .ok (.ldc 92, 2) := by decide +kernel
theorem dX7_setNumber_10 : decode cX7_setNumber 10 = .ok (.ireturn, 1) := by decide +kernel
theorem dX7_setNumber_11 : decode cX7_setNumber 11 = .ok (.aload_n 0, 1) := by decide +kernel
theorem dX7_setNumber_12 : decode cX7_setNumber 12 = .ok (.invokevirtual 117, 3) := by decide +kernel
theorem dX7_setNumber_15 : decode cX7_setNumber 15 = .ok (.aload_n 0, 1) := by decide +kernel
theorem dX7_setNumber_16 : decode cX7_setNumber 16 = .ok (.getfield 7, 3) := by decide +kernel
theorem dX7_setNumber_19 : decode cX7_setNumber 19 = .ok (.iconst 3, 1) := by decide +kernel
theorem dX7_setNumber_20 : decode cX7_setNumber 20 = .ok (.iload_n 1, 1) := by decide +kernel
theorem dX7_setNumber_21 : decode cX7_setNumber 21 = .ok (.iadd, 1) := by decide +kernel
theorem dX7_setNumber_22 : decode cX7_setNumber 22 = .ok (.iaload, 1) := by decide +kernel
theorem dX7_setNumber_23 : decode cX7_setNumber 23 = .ok (.istore_n 3, 1) := by decide +kernel
theorem dX7_setNumber_24 : decode cX7_setNumber 24 = .ok (.aload_n 0, 1) := by decide +kernel
theorem dX7_setNumber_25 : decode cX7_setNumber 25 = .ok (.getfield 7, 3) := by decide +kernel
theorem dX7_setNumber_28 : decode cX7_setNumber 28 = .ok (.iconst 3, 1) := by decide +kernel
theorem dX7_setNumber_29 : decode cX7_setNumber 29 = .ok (.iload_n 1, 1) := by decide +kernel
theorem dX7_setNumber_30 : decode cX7_setNumber 30 = .ok (.iadd, 1) := by decide +kernel
theorem dX7_setNumber_31 : decode cX7_setNumber 31 = .ok (.iload_n 2, 1) := by decide +kernel
theorem dX7_setNumber_32 : decode cX7_setNumber 32 = .ok (.iastore, 1) := by decide +kernel
theorem dX7_setNumber_33 : decode cX7_setNumber 33 = .ok (.aload_n 0, 1) := by decide +kernel
theorem dX7_setNumber_34 : decode cX7_setNumber 34 = .ok (.iload_n 3, 1) := by decide +kernel
theorem dX7_setNumber_35 : decode cX7_setNumber 35 = .ok (.invokevirtual 111, 3) := by decide +kernel
theorem dX7_setNumber_38 : decode cX7_setNumber 38 = .ok (.ireturn, 1) := by decide +kernel
theorem dX7_setVan_0 : decode cX7_setVan 0 = .ok (.aload_n 0, 1) := by decide +kernel
theorem dX7_setVan_1 : decode cX7_setVan 1 = .ok (.iload_n 1, 1) := by decide +kernel
theorem dX7_setVan_2 : decode cX7_setVan 2 = .ok (.invokevirtual 88, 3) := by decide +kernel
theorem dX7_setVan_5 : decode cX7_setVan 5 = .ok (.ifCond .eq 11, 3) := by decide +kernel
theorem dX7_setVan_8 : decode cX7_setVan 8 = .ok (.iload_n 2, 1) := by decide +kernel
theorem dX7_setVan_9 : decode cX7_setVan 9 = .ok (.iload_n 3, 1) := by decide +kernel
theorem dX7_setVan_10 : decode cX7_setVan 10 = .ok (.invokestatic 114, 3) := by decide +kernel
theorem dX7_setVan_13 : decode cX7_setVan 13 = .ok (.ifCond .ne 6, 3) := by decide +kernel
theorem dX7_setVan_16 : decode cX7_setVan 16 = .ok (.ldc 92, 2) := by decide +kernel
theorem dX7_setVan_18 : decode cX7_setVan 18 = .ok (.ireturn, 1) := by decide +kernel
theorem dX7_setVan_19 : decode cX7_setVan 19 = .ok (.aload_n 0, 1) := by decide +kernel
theorem dX7_setVan_20 : decode cX7_setVan 20 = .ok (.invokevirtual 117, 3) := by decide +kernel
theorem dX7_setVan_23 : decode cX7_setVan 23 = .ok (.aload_n 0, 1) := by decide +kernel
theorem dX7_setVan_24 : decode cX7_setVan 24 = .ok (.iload_n 1, 1) := by decide +kernel
theorem dX7_setVan_25 : decode cX7_setVan 25 = .ok (.iconst 0, 1) := by decide +kernel
theorem dX7_setVan_26 : decode cX7_setVan 26 = .ok (.invokevirtual 65, 3) := by decide +kernel
theorem dX7_setVan_29 : decode cX7_setVan 29 = .ok (.istore 4, 2) := by decide +kernel
theorem dX7_setVan_31 : decode cX7_setVan 31 = .ok (.aload_n 0, 1) := by decide +kernel
theorem dX7_setVan_32 : decode cX7_setVan 32 = .ok (.getfield 7, 3) := by decide +kernel
theorem dX7_setVan_35 : decode cX7_setVan 35 = .ok (.bipush 6, 2) := by decide +kernel
theorem dX7_setVan_37 : decode cX7_setVan 37 = .ok (.bipush 19, 2) := by decide +kernel
theorem dX7_setVan_39 : decode cX7_setVan 39 = .ok (.iload_n 1, 1) := by decide +kernel
theorem dX7_setVan_40 : decode cX7_setVan 40 = .ok (.imul, 1) := by decide +kernel
theorem dX7_setVan_41 : decode cX7_setVan 41 = .ok (.iadd, 1) := by decide +kernel
theorem dX7_setVan_42 : decode cX7_setVan 42 = .ok (.iconst 0, 1) := by decide +kernel
theorem dX7_setVan_43 : decode cX7_setVan 43 = .ok (.iadd, 1) := by decide +kernel
theorem dX7_setVan_44 : decode cX7_setVan 44 = .ok (.iload_n 2, 1) := by decide +kernel
theorem dX7_setVan_45 : decode cX7_setVan 45 = .ok (.iastore, 1) := by decide +kernel
theorem dX7_setVan_46 : decode cX7_setVan 46 = .ok (.aload_n 0, 1) := by decide +kernel
theorem dX7_setVan_47 : decode cX7_setVan 47 = .ok (.getfield 7, 3) := by decide +kernel
theorem dX7_setVan_50 : decode cX7_setVan 50 = .ok (.bipush 6, 2) := by decide +kernel
theorem dX7_setVan_52 : decode cX7_setVan 52 = .ok (.bipush 19, 2) := by decide +kernel
theorem dX7_setVan_54 : decode cX7_setVan 54 = .ok (.iload_n 1, 1) := by decide +kernel
theorem dX7_setVan_55 : decode cX7_setVan 55 = .ok (.imul, 1) := by decide +kernel
theorem dX7_setVan_56 : decode cX7_setVan 56 = .ok (.iadd, 1) := by decide +kernel
theorem dX7_setVan_57 : decode cX7_setVan 57 = .ok (.iconst 1, 1) := by decide +kernel
theorem dX7_setVan_58 : decode cX7_setVan 58 = .ok (.iadd, 1) := by decide +kernel
theorem dX7_setVan_59 : decode cX7_setVan 59 = .ok (.iload_n 3, 1) := by decide +kernel
theorem dX7_setVan_60 : decode cX7_setVan 60 = .ok (.iastore, 1) := by decide +kernel
theorem dX7_setVan_61 : decode cX7_setVan 61 = .ok (.aload_n 0, 1) := by decide +kernel
theorem dX7_setVan_62 : decode cX7_setVan 62 = .ok (.iload 4, 2) := by decide +kernel
theorem dX7_setVan_64 : decode cX7_setVan 64 = .ok (.invokevirtual 111, 3) := by decide +kernel
theorem dX7_setVan_67 : decode cX7_setVan 67 = .ok (.ireturn, 1) := by decide +kernel
theorem dX7_isMode_0 : decode cX7_isMode 0 = .ok (.iload_n 0, 1) := by decide +kernel
theorem dX7_isMode_1 : decode cX7_isMode 1 = .ok (.tableswitch 59 0 2 #[27, 37, 48], 27) := by decide +kernel
theorem dX7_isMode_28 : decode cX7_isMode 28 = .ok (.iload_n 1, 1) := by decide +kernel
theorem dX7_isMode_29 : decode cX7_isMode 29 = .ok (.ifCond .ne 7, 3) := by decide +kernel
theorem dX7_isMode_32 : decode cX7_isMode 32 = .ok (.iconst 1, 1) := by decide +kernel
theorem dX7_isMode_33 : decode cX7_isMode 33 = .ok (.goto 4, 3) := by decide +kernel
theorem dX7_isMode_36 : decode cX7_isMode 36 = .ok (.iconst 0, 1) := by decide +kernel
theorem dX7_isMode_37 : decode cX7_isMode 37 = .ok (.ireturn, 1) := by decide +kernel
theorem dX7_isMode_38 : decode cX7_isMode 38 = .ok (.iload_n 1, 1) := by decide +kernel
theorem dX7_isMode_39 : decode cX7_isMode 39 = .ok (.sipush (-200), 3) := by decide +kernel
theorem dX7_isMode_42 : decode cX7_isMode 42 = .ok (.sipush 200, 3) := by decide +kernel
theorem dX7_isMode_45 : decode cX7_isMode 45 = .ok (.invokestatic 43, 3) := by decide +kernel
theorem dX7_isMode_48 : decode cX7_isMode 48 = .ok (.ireturn, 1) := by decide +kernel
theorem dX7_isMode_49 : decode cX7_isMode 49 = .ok (.iload_n 1, 1) := by decide +kernel
theorem dX7_isMode_50 : decode cX7_isMode 50 = .ok (.sipush (-300), 3) := by decide +kernel
theorem dX7_isMode_53 : decode cX7_isMode 53 = .ok (.sipush 450, 3) := by decide +kernel
theorem dX7_isMode_56 : decode cX7_isMode 56 = .ok (.invokestatic 43, 3) := by decide +kernel
theorem dX7_isMode_59 : decode cX7_isMode 59 = .ok (.ireturn, 1) := by decide +kernel
theorem dX7_isMode_60 : decode cX7_isMode 60 = .ok (.iconst 0, 1) := by decide +kernel
theorem dX7_isMode_61 : decode cX7_isMode 61 = .ok (.ireturn, 1) := by decide +kernel
theorem dX7_setProbe_0 : decode cX7_setProbe 0 = .ok (.aload_n 0, 1) := by decide +kernel
theorem dX7_setProbe_1 : decode cX7_setProbe 1 = .ok (.iload_n 1, 1) := by decide +kernel
theorem dX7_setProbe_2 : decode cX7_setProbe 2 = .ok (.invokevirtual 88, 3) := by decide +kernel
theorem dX7_setProbe_5 : decode cX7_setProbe 5 = .ok (.ifCond .eq 19, 3) := by decide +kernel
theorem dX7_setProbe_8 : decode cX7_setProbe 8 = .ok (.iload_n 2, 1) := by decide +kernel
theorem dX7_setProbe_9 : decode cX7_setProbe 9 = .ok (.invokestatic 108, 3) := by decide +kernel
theorem dX7_setProbe_12 : decode cX7_setProbe 12 = .ok (.ifCond .eq 12, 3) := by decide +kernel
theorem dX7_setProbe_15 : decode cX7_setProbe 15 = .ok (.iload_n 3, 1) := by decide +kernel
theorem dX7_setProbe_16 : decode cX7_setProbe 16 = .ok (.iload 4, 2) := by decide +kernel
theorem dX7_setProbe_18 : decode cX7_setProbe 18 = .ok (.invokestatic 123, 3) := by decide +kernel
theorem dX7_setProbe_21 : decode cX7_setProbe 21 = .ok (.ifCond .ne 6, 3) := by decide +kernel
theorem dX7_setProbe_24 : decode cX7_setProbe 24 = .ok (.ldc 92, 2) := by decide +kernel
theorem dX7_setProbe_26 : decode cX7_setProbe 26 = .ok (.ireturn, 1) := by decide +kernel
theorem dX7_setProbe_27 : decode cX7_setProbe 27 = .ok (.aload_n 0, 1) := by decide +kernel
theorem dX7_setProbe_28 : decode cX7_setProbe 28 = .ok (.invokevirtual 117, 3) := by decide +kernel
theorem dX7_setProbe_31 : decode cX7_setProbe 31 = .ok (.aload_n 0, 1) := by decide +kernel
theorem dX7_setProbe_32 : decode cX7_setProbe 32 = .ok (.iload_n 1, 1) := by decide +kernel
theorem dX7_setProbe_33 : decode cX7_setProbe 33 = .ok (.iload_n 2, 1) := by decide +kernel
theorem dX7_setProbe_34 : decode cX7_setProbe 34 = .ok (.iconst 1, 1) := by decide +kernel
theorem dX7_setProbe_35 : decode cX7_setProbe 35 = .ok (.invokevirtual 55, 3) := by decide +kernel
theorem dX7_setProbe_38 : decode cX7_setProbe 38 = .ok (.istore 5, 2) := by decide +kernel
theorem dX7_setProbe_40 : decode cX7_setProbe 40 = .ok (.aload_n 0, 1) := by decide +kernel
theorem dX7_setProbe_41 : decode cX7_setProbe 41 = .ok (.getfield 7, 3) := by decide +kernel
theorem dX7_setProbe_44 : decode cX7_setProbe 44 = .ok (.iload_n 1, 1) := by decide +kernel
theorem dX7_setProbe_45 : decode cX7_setProbe 45 = .ok (.iload_n 2, 1) := by decide +kernel
theorem dX7_setProbe_46 : decode cX7_setProbe 46 = .ok (.invokestatic 47, 3) := by decide +kernel
theorem dX7_setProbe_49 : decode cX7_setProbe 49 = .ok (.iconst 1, 1) := by decide +kernel
theorem dX7_setProbe_50 : decode cX7_setProbe 50 = .ok (.iadd, 1) := by decide +kernel
theorem dX7_setProbe_51 : decode cX7_setProbe 51 = .ok (.iload_n 3, 1) := by decide +kernel
theorem dX7_setProbe_52 : decode cX7_setProbe 52 = .ok (.iastore, 1) := by decide +kernel
theorem dX7_setProbe_53 : decode cX7_setProbe 53 = .ok (.aload_n 0, 1) := by decide +kernel
theorem dX7_setProbe_54 : decode cX7_setProbe 54 = .ok (.getfield 7, 3) := by decide +kernel
theorem dX7_setProbe_57 : decode cX7_setProbe 57 = .ok (.iload_n 1, 1) := by decide +kernel
theorem dX7_setProbe_58 : decode cX7_setProbe 58 = .ok (.iload_n 2, 1) := by decide +kernel
theorem dX7_setProbe_59 : decode cX7_setProbe 59 = .ok (.invokestatic 47, 3) := by decide +kernel
theorem dX7_setProbe_62 : decode cX7_setProbe 62 = .ok (.iconst 2, 1) := by decide +kernel
theorem dX7_setProbe_63 : decode cX7_setProbe 63 = .ok (.iadd, 1) := by decide +kernel
theorem dX7_setProbe_64 : decode cX7_setProbe 64 = .ok (.iload 4, 2) := by decide +kernel
theorem dX7_setProbe_66 : decode cX7_setProbe 66 = .ok (.iastore, 1) := by decide +kernel
theorem dX7_setProbe_67 : decode cX7_setProbe 67 = .ok (.aload_n 0, 1) := by decide +kernel
theorem dX7_setProbe_68 : decode cX7_setProbe 68 = .ok (.iload 5, 2) := by decide +kernel
theorem dX7_setProbe_70 : decode cX7_setProbe 70 = .ok (.invokevirtual 111, 3) := by decide +kernel
theorem dX7_setProbe_73 : decode cX7_setProbe 73 = .ok (.ireturn, 1) := by decide +kernel
theorem dX7_repair_0 : decode cX7_repair 0 = .ok (.aload_n 0, 1) := by decide +kernel
theorem dX7_repair_1 : decode cX7_repair 1 = .ok (.invokevirtual 117, 3) := by decide +kernel
theorem dX7_repair_4 : decode cX7_repair 4 = .ok (.aload_n 0, 1) := by decide +kernel
theorem dX7_repair_5 : decode cX7_repair 5 = .ok (.aload_n 0, 1) := by decide +kernel
theorem dX7_repair_6 : decode cX7_repair 6 = .ok (.iload_n 1, 1) := by decide +kernel
theorem dX7_repair_7 : decode cX7_repair 7 = .ok (.iload_n 2, 1) := by decide +kernel
theorem dX7_repair_8 : decode cX7_repair 8 = .ok (.invokevirtual 126, 3) := by decide +kernel
theorem dX7_repair_11 : decode cX7_repair 11 = .ok (.invokevirtual 129, 3) := by decide +kernel
theorem dX7_repair_14 : decode cX7_repair 14 = .ok (.ireturn, 1) := by decide +kernel
theorem dX7_manyIn_0 : decode cX7_manyIn 0 = .ok (.iconst 0, 1) := by decide +kernel
theorem dX7_manyIn_1 : decode cX7_manyIn 1 = .ok (.istore_n 3, 1) := by decide +kernel
theorem dX7_manyIn_2 : decode cX7_manyIn 2 = .ok (.iconst 0, 1) := by decide +kernel
theorem dX7_manyIn_3 : decode cX7_manyIn 3 = .ok (.istore 4, 2) := by decide +kernel
theorem dX7_manyIn_5 : decode cX7_manyIn 5 = .ok (.iload 4, 2) := by decide +kernel
theorem dX7_manyIn_7 : decode cX7_manyIn 7 = .ok (.aload_n 0, 1) := by decide +kernel
theorem dX7_manyIn_8 : decode cX7_manyIn 8 = .ok (.getfield 7, 3) := by decide +kernel
theorem dX7_manyIn_11 : decode cX7_manyIn 11 = .ok (.iconst 1, 1) := by decide +kernel
theorem dX7_manyIn_12 : decode cX7_manyIn 12 = .ok (.iaload, 1) := by decide +kernel
theorem dX7_manyIn_13 : decode cX7_manyIn 13 = .ok (.if_icmp .ge 49, 3) := by decide +kernel
theorem dX7_manyIn_16 : decode cX7_manyIn 16 = .ok (.iload_n 3, 1) := by decide +kernel
theorem dX7_manyIn_17 : decode cX7_manyIn 17 = .ok (.aload_n 0, 1) := by decide +kernel
theorem dX7_manyIn_18 : decode cX7_manyIn 18 = .ok (.iload 4, 2) := by decide +kernel
theorem dX7_manyIn_20 : decode cX7_manyIn 20 = .ok (.iconst 5, 1) := by decide +kernel
theorem dX7_manyIn_21 : decode cX7_manyIn 21 = .ok (.invokevirtual 72, 3) := by decide +kernel
theorem dX7_manyIn_24 : decode cX7_manyIn 24 = .ok (.ifCond .ne 29, 3) := by decide +kernel
theorem dX7_manyIn_27 : decode cX7_manyIn 27 = .ok (.aload_n 0, 1) := by decide +kernel
theorem dX7_manyIn_28 : decode cX7_manyIn 28 = .ok (.iload 4, 2) := by decide +kernel
theorem dX7_manyIn_30 : decode cX7_manyIn 30 = .ok (.iconst 0, 1) := by decide +kernel
theorem dX7_manyIn_31 : decode cX7_manyIn 31 = .ok (.invokevirtual 72, 3) := by decide +kernel
theorem dX7_manyIn_34 : decode cX7_manyIn 34 = .ok (.iload_n 1, 1) := by decide +kernel
theorem dX7_manyIn_35 : decode cX7_manyIn 35 = .ok (.if_icmp .ne 18, 3) := by decide +kernel
theorem dX7_manyIn_38 : decode cX7_manyIn 38 = .ok (.aload_n 0, 1) := by decide +kernel
theorem dX7_manyIn_39 : decode cX7_manyIn 39 = .ok (.iload 4, 2) := by decide +kernel
theorem dX7_manyIn_41 : decode cX7_manyIn 41 = .ok (.iconst 1, 1) := by decide +kernel
theorem dX7_manyIn_42 : decode cX7_manyIn 42 = .ok (.invokevirtual 72, 3) := by decide +kernel
theorem dX7_manyIn_45 : decode cX7_manyIn 45 = .ok (.iload_n 2, 1) := by decide +kernel
theorem dX7_manyIn_46 : decode cX7_manyIn 46 = .ok (.if_icmp .ne 7, 3) := by decide +kernel
theorem dX7_manyIn_49 : decode cX7_manyIn 49 = .ok (.iconst 1, 1) := by decide +kernel
theorem dX7_manyIn_50 : decode cX7_manyIn 50 = .ok (.goto 4, 3) := by decide +kernel
theorem dX7_manyIn_53 : decode cX7_manyIn 53 = .ok (.iconst 0, 1) := by decide +kernel
theorem dX7_manyIn_54 : decode cX7_manyIn 54 = .ok (.iadd, 1) := by decide +kernel
theorem dX7_manyIn_55 : decode cX7_manyIn 55 = .ok (.istore_n 3, 1) := by decide +kernel
theorem dX7_manyIn_56 : decode cX7_manyIn 56 = .ok (.iinc 4 1, 3) := by decide +kernel
theorem dX7_manyIn_59 : decode cX7_manyIn 59 = .ok (.goto (-54), 3) := by decide +kernel
theorem dX7_manyIn_62 : decode cX7_manyIn 62 = .ok (.iload_n 3, 1) := by decide +kernel
theorem dX7_manyIn_63 : decode cX7_manyIn 63 = .ok (.ireturn, 1) := by decide +kernel
theorem dX7_loadPallet_0 : decode cX7_loadPallet 0 = .ok (.aload_n 0, 1) := by decide +kernel
theorem dX7_loadPallet_1 : decode cX7_loadPallet 1 = .ok (.iload_n 1, 1) := by decide +kernel
theorem dX7_loadPallet_2 : decode cX7_loadPallet 2 = .ok (.invokevirtual 88, 3) := by decide +kernel
theorem dX7_loadPallet_5 : decode cX7_loadPallet 5 = .ok (.ifCond .eq 47, 3) := by decide +kernel
theorem dX7_loadPallet_8 : decode cX7_loadPallet 8 = .ok (.iload_n 2, 1) := by decide +kernel
theorem dX7_loadPallet_9 : decode cX7_loadPallet 9 = .ok (.invokestatic 108, 3) := by decide +kernel
theorem dX7_loadPallet_12 : decode cX7_loadPallet 12 = .ok (.ifCond .eq 40, 3) := by decide +kernel
theorem dX7_loadPallet_15 : decode cX7_loadPallet 15 = .ok (.iload_n 3, 1) := by decide +kernel
theorem dX7_loadPallet_16 : decode cX7_loadPallet 16 = .ok (.sipush (-300), 3) := by decide +kernel
theorem dX7_loadPallet_19 : decode cX7_loadPallet 19 = .ok (.sipush 300, 3) := by decide +kernel
theorem dX7_loadPallet_22 : decode cX7_loadPallet 22 = .ok (.invokestatic 43, 3) := by decide +kernel
theorem dX7_loadPallet_25 : decode cX7_loadPallet 25 = .ok (.ifCond .eq 27, 3) := by decide +kernel
theorem dX7_loadPallet_28 : decode cX7_loadPallet 28 = .ok (.iload 4, 2) := by decide +kernel
theorem dX7_loadPallet_30 : decode cX7_loadPallet 30 = .ok (.iconst 0, 1) := by decide +kernel
theorem dX7_loadPallet_31 : decode cX7_loadPallet 31 = .ok (.sipush 600, 3) := by decide +kernel
theorem dX7_loadPallet_34 : decode cX7_loadPallet 34 = .ok (.invokestatic 43, 3) := by decide +kernel
theorem dX7_loadPallet_37 : decode cX7_loadPallet 37 = .ok (.ifCond .eq 15, 3) := by decide +kernel
theorem dX7_loadPallet_40 : decode cX7_loadPallet 40 = .ok (.iload 5, 2) := by decide +kernel
theorem dX7_loadPallet_42 : decode cX7_loadPallet 42 = .ok (.iconst 0, 1) := by decide +kernel
theorem dX7_loadPallet_43 : decode cX7_loadPallet 43 = .ok (.sipush 9999, 3) := by decide +kernel
theorem dX7_loadPallet_46 : decode cX7_loadPallet 46 = .ok (.invokestatic 43, 3) := by decide +kernel
theorem dX7_loadPallet_49 : decode cX7_loadPallet 49 = .ok (.ifCond .ne 6, 3) := by decide +kernel
theorem dX7_loadPallet_52 : decode cX7_loadPallet 52 = .ok (.ldc 92, 2) := by decide +kernel
theorem dX7_loadPallet_54 : decode cX7_loadPallet 54 = .ok (.ireturn, 1) := by decide +kernel
theorem dX7_loadPallet_55 : decode cX7_loadPallet 55 = .ok (.aload_n 0, 1) := by decide +kernel
theorem dX7_loadPallet_56 : decode cX7_loadPallet 56 = .ok (.iload_n 1, 1) := by decide +kernel
theorem dX7_loadPallet_57 : decode cX7_loadPallet 57 = .ok (.iconst 2, 1) := by decide +kernel
theorem dX7_loadPallet_58 : decode cX7_loadPallet 58 = .ok (.invokevirtual 65, 3) := by decide +kernel
theorem dX7_loadPallet_61 : decode cX7_loadPallet 61 = .ok (.ifCond .ne 6, 3) := by decide +kernel
theorem dX7_loadPallet_64 : decode cX7_loadPallet 64 = .ok (.ldc 93, 2) := by decide +kernel
theorem dX7_loadPallet_66 : decode cX7_loadPallet 66 = .ok (.ireturn, 1) := by decide +kernel
theorem dX7_loadPallet_67 : decode cX7_loadPallet 67 = .ok (.aload_n 0, 1) := by decide +kernel
theorem dX7_loadPallet_68 : decode cX7_loadPallet 68 = .ok (.getfield 7, 3) := by decide +kernel
theorem dX7_loadPallet_71 : decode cX7_loadPallet 71 = .ok (.iconst 1, 1) := by decide +kernel
theorem dX7_loadPallet_72 : decode cX7_loadPallet 72 = .ok (.iaload, 1) := by decide +kernel
theorem dX7_loadPallet_73 : decode cX7_loadPallet 73 = .ok (.bipush 12, 2) := by decide +kernel
theorem dX7_loadPallet_75 : decode cX7_loadPallet 75 = .ok (.if_icmp .eq 13, 3) := by decide +kernel
theorem dX7_loadPallet_78 : decode cX7_loadPallet 78 = .ok (.aload_n 0, 1) := by decide +kernel
theorem dX7_loadPallet_79 : decode cX7_loadPallet 79 = .ok (.iload_n 1, 1) := by decide +kernel
theorem dX7_loadPallet_80 : decode cX7_loadPallet 80 = .ok (.iload_n 2, 1) := by decide +kernel
theorem dX7_loadPallet_81 : decode cX7_loadPallet 81 = .ok (.invokevirtual 132, 3) := by decide +kernel
theorem dX7_loadPallet_84 : decode cX7_loadPallet 84 = .ok (.iconst 3, 1) := by decide +kernel
theorem dX7_loadPallet_85 : decode cX7_loadPallet 85 = .ok (.if_icmp .ne 6, 3) := by decide +kernel
theorem dX7_loadPallet_88 : decode cX7_loadPallet 88 = .ok (.ldc 100, 2) := by decide +kernel
theorem dX7_loadPallet_90 : decode cX7_loadPallet 90 = .ok (.ireturn, 1) := by decide +kernel
theorem dX7_loadPallet_91 : decode cX7_loadPallet 91 = .ok (.aload_n 0, 1) := by decide +kernel
theorem dX7_loadPallet_92 : decode cX7_loadPallet 92 = .ok (.invokevirtual 117, 3) := by decide +kernel
theorem dX7_loadPallet_95 : decode cX7_loadPallet 95 = .ok (.aload_n 0, 1) := by decide +kernel
theorem dX7_loadPallet_96 : decode cX7_loadPallet 96 = .ok (.getfield 7, 3) := by decide +kernel
theorem dX7_loadPallet_99 : decode cX7_loadPallet 99 = .ok (.iconst 1, 1) := by decide +kernel
theorem dX7_loadPallet_100 : decode cX7_loadPallet 100 = .ok (.iaload, 1) := by decide +kernel
theorem dX7_loadPallet_101 : decode cX7_loadPallet 101 = .ok (.istore 6, 2) := by decide +kernel
theorem dX7_loadPallet_103 : decode cX7_loadPallet 103 = .ok (.iload 6, 2) := by decide +kernel
theorem dX7_loadPallet_105 : decode cX7_loadPallet 105 = .ok (.invokestatic 51, 3) := by decide +kernel
theorem dX7_loadPallet_108 : decode cX7_loadPallet 108 = .ok (.istore 7, 2) := by decide +kernel
theorem dX7_loadPallet_110 : decode cX7_loadPallet 110 = .ok (.iconst 0, 1) := by decide +kernel
theorem dX7_loadPallet_111 : decode cX7_loadPallet 111 = .ok (.istore 8, 2) := by decide +kernel
theorem dX7_loadPallet_113 : decode cX7_loadPallet 113 = .ok (.iload 8, 2) := by decide +kernel
theorem dX7_loadPallet_115 : decode cX7_loadPallet 115 = .ok (.bipush 10, 2) := by decide +kernel
theorem dX7_loadPallet_117 : decode cX7_loadPallet 117 = .ok (.if_icmp .ge 20, 3) := by decide +kernel
theorem dX7_loadPallet_120 : decode cX7_loadPallet 120 = .ok (.aload_n 0, 1) := by decide +kernel
theorem dX7_loadPallet_121 : decode cX7_loadPallet 121 = .ok (.getfield 7, 3) := by decide +kernel
theorem dX7_loadPallet_124 : decode cX7_loadPallet 124 = .ok (.iload 7, 2) := by decide +kernel
theorem dX7_loadPallet_126 : decode cX7_loadPallet 126 = .ok (.iload 8, 2) := by decide +kernel
theorem dX7_loadPallet_128 : decode cX7_loadPallet 128 = .ok (.iadd, 1) := by decide +kernel
theorem dX7_loadPallet_129 : decode cX7_loadPallet 129 = .ok (.iconst 0, 1) := by decide +kernel
theorem dX7_loadPallet_130 : decode cX7_loadPallet 130 = .ok (.iastore, 1) := by decide +kernel
theorem dX7_loadPallet_131 : decode cX7_loadPallet 131 = .ok (.iinc 8 1, 3) := by decide +kernel
theorem dX7_loadPallet_134 : decode cX7_loadPallet 134 = .ok (.goto (-21), 3) := by decide +kernel
theorem dX7_loadPallet_137 : decode cX7_loadPallet 137 = .ok (.aload_n 0, 1) := by decide +kernel
theorem dX7_loadPallet_138 : decode cX7_loadPallet 138 = .ok (.getfield 7, 3) := by decide +kernel
theorem dX7_loadPallet_141 : decode cX7_loadPallet 141 = .ok (.iload 7, 2) := by decide +kernel
theorem dX7_loadPallet_143 : decode cX7_loadPallet 143 = .ok (.iconst 0, 1) := by decide +kernel
theorem dX7_loadPallet_144 : decode cX7_loadPallet 144 = .ok (.iadd, 1) := by decide +kernel
theorem dX7_loadPallet_145 : decode cX7_loadPallet 145 = .ok (.iload_n 1, 1) := by decide +kernel
theorem dX7_loadPallet_146 : decode cX7_loadPallet 146 = .ok (.iastore, 1) := by decide +kernel
theorem dX7_loadPallet_147 : decode cX7_loadPallet 147 = .ok (.aload_n 0, 1) := by decide +kernel
theorem dX7_loadPallet_148 : decode cX7_loadPallet 148 = .ok (.getfield 7, 3) := by decide +kernel
theorem dX7_loadPallet_151 : decode cX7_loadPallet 151 = .ok (.iload 7, 2) := by decide +kernel
theorem dX7_loadPallet_153 : decode cX7_loadPallet 153 = .ok (.iconst 1, 1) := by decide +kernel
theorem dX7_loadPallet_154 : decode cX7_loadPallet 154 = .ok (.iadd, 1) := by decide +kernel
theorem dX7_loadPallet_155 : decode cX7_loadPallet 155 = .ok (.iload_n 2, 1) := by decide +kernel
theorem dX7_loadPallet_156 : decode cX7_loadPallet 156 = .ok (.iastore, 1) := by decide +kernel
theorem dX7_loadPallet_157 : decode cX7_loadPallet 157 = .ok (.aload_n 0, 1) := by decide +kernel
theorem dX7_loadPallet_158 : decode cX7_loadPallet 158 = .ok (.getfield 7, 3) := by decide +kernel
theorem dX7_loadPallet_161 : decode cX7_loadPallet 161 = .ok (.iload 7, 2) := by decide +kernel
theorem dX7_loadPallet_163 : decode cX7_loadPallet 163 = .ok (.iconst 2, 1) := by decide +kernel
theorem dX7_loadPallet_164 : decode cX7_loadPallet 164 = .ok (.iadd, 1) := by decide +kernel
theorem dX7_loadPallet_165 : decode cX7_loadPallet 165 = .ok (.iload_n 3, 1) := by decide +kernel
theorem dX7_loadPallet_166 : decode cX7_loadPallet 166 = .ok (.iastore, 1) := by decide +kernel
theorem dX7_loadPallet_167 : decode cX7_loadPallet 167 = .ok (.aload_n 0, 1) := by decide +kernel
theorem dX7_loadPallet_168 : decode cX7_loadPallet 168 = .ok (.getfield 7, 3) := by decide +kernel
theorem dX7_loadPallet_171 : decode cX7_loadPallet 171 = .ok (.iload 7, 2) := by decide +kernel
theorem dX7_loadPallet_173 : decode cX7_loadPallet 173 = .ok (.iconst 3, 1) := by decide +kernel
theorem dX7_loadPallet_174 : decode cX7_loadPallet 174 = .ok (.iadd, 1) := by decide +kernel
theorem dX7_loadPallet_175 : decode cX7_loadPallet 175 = .ok (.iload 4, 2) := by decide +kernel
theorem dX7_loadPallet_177 : decode cX7_loadPallet 177 = .ok (.iastore, 1) := by decide +kernel
theorem dX7_loadPallet_178 : decode cX7_loadPallet 178 = .ok (.aload_n 0, 1) := by decide +kernel
theorem dX7_loadPallet_179 : decode cX7_loadPallet 179 = .ok (.getfield 7, 3) := by decide +kernel
theorem dX7_loadPallet_182 : decode cX7_loadPallet 182 = .ok (.iload 7, 2) := by decide +kernel
theorem dX7_loadPallet_184 : decode cX7_loadPallet 184 = .ok (.iconst 4, 1) := by decide +kernel
theorem dX7_loadPallet_185 : decode cX7_loadPallet 185 = .ok (.iadd, 1) := by decide +kernel
theorem dX7_loadPallet_186 : decode cX7_loadPallet 186 = .ok (.iload 5, 2) := by decide +kernel
theorem dX7_loadPallet_188 : decode cX7_loadPallet 188 = .ok (.iastore, 1) := by decide +kernel
theorem dX7_loadPallet_189 : decode cX7_loadPallet 189 = .ok (.aload_n 0, 1) := by decide +kernel
theorem dX7_loadPallet_190 : decode cX7_loadPallet 190 = .ok (.getfield 7, 3) := by decide +kernel
theorem dX7_loadPallet_193 : decode cX7_loadPallet 193 = .ok (.iconst 1, 1) := by decide +kernel
theorem dX7_loadPallet_194 : decode cX7_loadPallet 194 = .ok (.dup2, 1) := by decide +kernel
theorem dX7_loadPallet_195 : decode cX7_loadPallet 195 = .ok (.iaload, 1) := by decide +kernel
theorem dX7_loadPallet_196 : decode cX7_loadPallet 196 = .ok (.iconst 1, 1) := by decide +kernel
theorem dX7_loadPallet_197 : decode cX7_loadPallet 197 = .ok (.iadd, 1) := by decide +kernel
theorem dX7_loadPallet_198 : decode cX7_loadPallet 198 = .ok (.iastore, 1) := by decide +kernel
theorem dX7_loadPallet_199 : decode cX7_loadPallet 199 = .ok (.aload_n 0, 1) := by decide +kernel
theorem dX7_loadPallet_200 : decode cX7_loadPallet 200 = .ok (.iload 6, 2) := by decide +kernel
theorem dX7_loadPallet_202 : decode cX7_loadPallet 202 = .ok (.invokevirtual 111, 3) := by decide +kernel
theorem dX7_loadPallet_205 : decode cX7_loadPallet 205 = .ok (.ireturn, 1) := by decide +kernel
theorem dX7_door_0 : decode cX7_door 0 = .ok (.aload_n 0, 1) := by decide +kernel
theorem dX7_door_1 : decode cX7_door 1 = .ok (.invokevirtual 117, 3) := by decide +kernel
theorem dX7_door_4 : decode cX7_door 4 = .ok (.aload_n 0, 1) := by decide +kernel
theorem dX7_door_5 : decode cX7_door 5 = .ok (.aload_n 0, 1) := by decide +kernel
theorem dX7_door_6 : decode cX7_door 6 = .ok (.iload_n 1, 1) := by decide +kernel
theorem dX7_door_7 : decode cX7_door 7 = .ok (.iload_n 2, 1) := by decide +kernel
theorem dX7_door_8 : decode cX7_door 8 = .ok (.invokevirtual 135, 3) := by decide +kernel
theorem dX7_door_11 : decode cX7_door 11 = .ok (.invokevirtual 129, 3) := by decide +kernel
theorem dX7_door_14 : decode cX7_door 14 = .ok (.ireturn, 1) := by decide +kernel
theorem dX7_pass_0 : decode cX7_pass 0 = .ok (.aload_n 0, 1) := by decide +kernel
theorem dX7_pass_1 : decode cX7_pass 1 = .ok (.invokevirtual 117, 3) := by decide +kernel
theorem dX7_pass_4 : decode cX7_pass 4 = .ok (.aload_n 0, 1) := by decide +kernel
theorem dX7_pass_5 : decode cX7_pass 5 = .ok (.aload_n 0, 1) := by decide +kernel
theorem dX7_pass_6 : decode cX7_pass 6 = .ok (.iload_n 1, 1) := by decide +kernel
theorem dX7_pass_7 : decode cX7_pass 7 = .ok (.invokevirtual 138, 3) := by decide +kernel
theorem dX7_pass_10 : decode cX7_pass 10 = .ok (.invokevirtual 129, 3) := by decide +kernel
theorem dX7_pass_13 : decode cX7_pass 13 = .ok (.ireturn, 1) := by decide +kernel
theorem dX7_deliver_0 : decode cX7_deliver 0 = .ok (.aload_n 0, 1) := by decide +kernel
theorem dX7_deliver_1 : decode cX7_deliver 1 = .ok (.invokevirtual 117, 3) := by decide +kernel
theorem dX7_deliver_4 : decode cX7_deliver 4 = .ok (.aload_n 0, 1) := by decide +kernel
theorem dX7_deliver_5 : decode cX7_deliver 5 = .ok (.aload_n 0, 1) := by decide +kernel
theorem dX7_deliver_6 : decode cX7_deliver 6 = .ok (.iload_n 1, 1) := by decide +kernel
theorem dX7_deliver_7 : decode cX7_deliver 7 = .ok (.invokevirtual 141, 3) := by decide +kernel
theorem dX7_deliver_10 : decode cX7_deliver 10 = .ok (.invokevirtual 129, 3) := by decide +kernel
theorem dX7_deliver_13 : decode cX7_deliver 13 = .ok (.ireturn, 1) := by decide +kernel
theorem dX7_detour_0 : decode cX7_detour 0 = .ok (.iload_n 1, 1) := by decide +kernel
theorem dX7_detour_1 : decode cX7_detour 1 = .ok (.ifCond .le 26, 3) := by decide +kernel
theorem dX7_detour_4 : decode cX7_detour 4 = .ok (.iload_n 1, 1) := by decide +kernel
theorem dX7_detour_5 : decode cX7_detour 5 = .ok (.iconst 1, 1) := by decide +kernel
theorem dX7_detour_6 : decode cX7_detour 6 = .ok (.aload_n 0, 1) := by decide +kernel
theorem dX7_detour_7 : decode cX7_detour 7 = .ok (.getfield 7, 3) := by decide +kernel
theorem dX7_detour_10 : decode cX7_detour 10 = .ok (.iconst 1, 1) := by decide +kernel
theorem dX7_detour_11 : decode cX7_detour 11 = .ok (.iaload, 1) := by decide +kernel
theorem dX7_detour_12 : decode cX7_detour 12 = .ok (.ishl, 1) := by decide +kernel
theorem dX7_detour_13 : decode cX7_detour 13 = .ok (.if_icmp .ge 14, 3) := by decide +kernel
theorem dX7_detour_16 : decode cX7_detour 16 = .ok (.iload_n 2, 1) := by decide +kernel
theorem dX7_detour_17 : decode cX7_detour 17 = .ok (.iconst 0, 1) := by decide +kernel
theorem dX7_detour_18 : decode cX7_detour 18 = .ok (.sipush 9999, 3) := by decide +kernel
theorem dX7_detour_21 : decode cX7_detour 21 = .ok (.invokestatic 43, 3) := by decide +kernel
theorem dX7_detour_24 : decode cX7_detour 24 = .ok (.ifCond .ne 6, 3) := by decide +kernel
theorem dX7_detour_27 : decode cX7_detour 27 = .ok (.ldc 92, 2) := by decide +kernel
theorem dX7_detour_29 : decode cX7_detour 29 = .ok (.ireturn, 1) := by decide +kernel
theorem dX7_detour_30 : decode cX7_detour 30 = .ok (.iconst 0, 1) := by decide +kernel
theorem dX7_detour_31 : decode cX7_detour 31 = .ok (.istore_n 3, 1) := by decide +kernel
theorem dX7_detour_32 : decode cX7_detour 32 = .ok (.iconst 1, 1) := by decide +kernel
theorem dX7_detour_33 : decode cX7_detour 33 = .ok (.istore 4, 2) := by decide +kernel
theorem dX7_detour_35 : decode cX7_detour 35 = .ok (.iconst 0, 1) := by decide +kernel
theorem dX7_detour_36 : decode cX7_detour 36 = .ok (.istore 5, 2) := by decide +kernel
theorem dX7_detour_38 : decode cX7_detour 38 = .ok (.iload 5, 2) := by decide +kernel
theorem dX7_detour_40 : decode cX7_detour 40 = .ok (.aload_n 0, 1) := by decide +kernel
theorem dX7_detour_41 : decode cX7_detour 41 = .ok (.getfield 7, 3) := by decide +kernel
theorem dX7_detour_44 : decode cX7_detour 44 = .ok (.iconst 1, 1) := by decide +kernel
theorem dX7_detour_45 : decode cX7_detour 45 = .ok (.iaload, 1) := by decide +kernel
theorem dX7_detour_46 : decode cX7_detour 46 = .ok (.if_icmp .ge 73, 3) := by decide +kernel
theorem dX7_detour_49 : decode cX7_detour 49 = .ok (.iload_n 1, 1) := by decide +kernel
theorem dX7_detour_50 : decode cX7_detour 50 = .ok (.iload 5, 2) := by decide +kernel
theorem dX7_detour_52 : decode cX7_detour 52 = .ok (.ishr, 1) := by decide +kernel
theorem dX7_detour_53 : decode cX7_detour 53 = .ok (.iconst 1, 1) := by decide +kernel
theorem dX7_detour_54 : decode cX7_detour 54 = .ok (.iand, 1) := by decide +kernel
theorem dX7_detour_55 : decode cX7_detour 55 = .ok (.iconst 1, 1) := by decide +kernel
theorem dX7_detour_56 : decode cX7_detour 56 = .ok (.if_icmp .ne 7, 3) := by decide +kernel
theorem dX7_detour_59 : decode cX7_detour 59 = .ok (.iconst 1, 1) := by decide +kernel
theorem dX7_detour_60 : decode cX7_detour 60 = .ok (.goto 4, 3) := by decide +kernel
theorem dX7_detour_63 : decode cX7_detour 63 = .ok (.iconst 0, 1) := by decide +kernel
theorem dX7_detour_64 : decode cX7_detour 64 = .ok (.istore 6, 2) := by decide +kernel
theorem dX7_detour_66 : decode cX7_detour 66 = .ok (.iload 4, 2) := by decide +kernel
theorem dX7_detour_68 : decode cX7_detour 68 = .ok (.ifCond .eq 23, 3) := by decide +kernel
theorem dX7_detour_71 : decode cX7_detour 71 = .ok (.iload 6, 2) := by decide +kernel
theorem dX7_detour_73 : decode cX7_detour 73 = .ok (.ifCond .eq 14, 3) := by decide +kernel
theorem dX7_detour_76 : decode cX7_detour 76 = .ok (.aload_n 0, 1) := by decide +kernel
theorem dX7_detour_77 : decode cX7_detour 77 = .ok (.iload 5, 2) := by decide +kernel
theorem dX7_detour_79 : decode cX7_detour 79 = .ok (.iconst 5, 1) := by decide +kernel
theorem dX7_detour_80 : decode cX7_detour 80 = .ok (.invokevirtual 72, 3) := by decide +kernel
theorem dX7_detour_83 : decode cX7_detour 83 = .ok (.iconst 2, 1) := by decide +kernel
theorem dX7_detour_84 : decode cX7_detour 84 = .ok (.if_icmp .ne 7, 3) := by decide +kernel
theorem dX7_detour_87 : decode cX7_detour 87 = .ok (.iconst 1, 1) := by decide +kernel
theorem dX7_detour_88 : decode cX7_detour 88 = .ok (.goto 4, 3) := by decide +kernel
theorem dX7_detour_91 : decode cX7_detour 91 = .ok (.iconst 0, 1) := by decide +kernel
theorem dX7_detour_92 : decode cX7_detour 92 = .ok (.istore 4, 2) := by decide +kernel
theorem dX7_detour_94 : decode cX7_detour 94 = .ok (.iload_n 3, 1) := by decide +kernel
theorem dX7_detour_95 : decode cX7_detour 95 = .ok (.iload 6, 2) := by decide +kernel
theorem dX7_detour_97 : decode cX7_detour 97 = .ok (.ifCond .eq 13, 3) := by decide +kernel
theorem dX7_detour_100 : decode cX7_detour 100 = .ok (.aload_n 0, 1) := by decide +kernel
theorem dX7_detour_101 : decode cX7_detour 101 = .ok (.iload 5, 2) := by decide +kernel
theorem dX7_detour_103 : decode cX7_detour 103 = .ok (.iconst 4, 1) := by decide +kernel
theorem dX7_detour_104 : decode cX7_detour 104 = .ok (.invokevirtual 72, 3) := by decide +kernel
theorem dX7_detour_107 : decode cX7_detour 107 = .ok (.goto 4, 3) := by decide +kernel
theorem dX7_detour_110 : decode cX7_detour 110 = .ok (.iconst 0, 1) := by decide +kernel
theorem dX7_detour_111 : decode cX7_detour 111 = .ok (.iadd, 1) := by decide +kernel
theorem dX7_detour_112 : decode cX7_detour 112 = .ok (.istore_n 3, 1) := by decide +kernel
theorem dX7_detour_113 : decode cX7_detour 113 = .ok (.iinc 5 1, 3) := by decide +kernel
theorem dX7_detour_116 : decode cX7_detour 116 = .ok (.goto (-78), 3) := by decide +kernel
theorem dX7_detour_119 : decode cX7_detour 119 = .ok (.iload 4, 2) := by decide +kernel
theorem dX7_detour_121 : decode cX7_detour 121 = .ok (.ifCond .ne 6, 3) := by decide +kernel
theorem dX7_detour_124 : decode cX7_detour 124 = .ok (.ldc 93, 2) := by decide +kernel
theorem dX7_detour_126 : decode cX7_detour 126 = .ok (.ireturn, 1) := by decide +kernel
theorem dX7_detour_127 : decode cX7_detour 127 = .ok (.aload_n 0, 1) := by decide +kernel
theorem dX7_detour_128 : decode cX7_detour 128 = .ok (.invokevirtual 117, 3) := by decide +kernel
theorem dX7_detour_131 : decode cX7_detour 131 = .ok (.iload_n 3, 1) := by decide +kernel
theorem dX7_detour_132 : decode cX7_detour 132 = .ok (.ifCond .ne 7, 3) := by decide +kernel
theorem dX7_detour_135 : decode cX7_detour 135 = .ok (.iconst 1, 1) := by decide +kernel
theorem dX7_detour_136 : decode cX7_detour 136 = .ok (.goto 4, 3) := by decide +kernel
theorem dX7_detour_139 : decode cX7_detour 139 = .ok (.iconst 0, 1) := by decide +kernel
theorem dX7_detour_140 : decode cX7_detour 140 = .ok (.istore 5, 2) := by decide +kernel
theorem dX7_detour_142 : decode cX7_detour 142 = .ok (.iload 5, 2) := by decide +kernel
theorem dX7_detour_144 : decode cX7_detour 144 = .ok (.ifCond .eq 10, 3) := by decide +kernel
theorem dX7_detour_147 : decode cX7_detour 147 = .ok (.iload_n 1, 1) := by decide +kernel
theorem dX7_detour_148 : decode cX7_detour 148 = .ok (.invokestatic 97, 3) := by decide +kernel
theorem dX7_detour_151 : decode cX7_detour 151 = .ok (.goto 4, 3) := by decide +kernel
theorem dX7_detour_154 : decode cX7_detour 154 = .ok (.iload_n 3, 1) := by decide +kernel
theorem dX7_detour_155 : decode cX7_detour 155 = .ok (.istore_n 3, 1) := by decide +kernel
theorem dX7_detour_156 : decode cX7_detour 156 = .ok (.iload_n 2, 1) := by decide +kernel
theorem dX7_detour_157 : decode cX7_detour 157 = .ok (.istore 6, 2) := by decide +kernel
theorem dX7_detour_159 : decode cX7_detour 159 = .ok (.iconst 0, 1) := by decide +kernel
theorem dX7_detour_160 : decode cX7_detour 160 = .ok (.istore 7, 2) := by decide +kernel
theorem dX7_detour_162 : decode cX7_detour 162 = .ok (.iload 7, 2) := by decide +kernel
theorem dX7_detour_164 : decode cX7_detour 164 = .ok (.aload_n 0, 1) := by decide +kernel
theorem dX7_detour_165 : decode cX7_detour 165 = .ok (.getfield 7, 3) := by decide +kernel
theorem dX7_detour_168 : decode cX7_detour 168 = .ok (.iconst 1, 1) := by decide +kernel
theorem dX7_detour_169 : decode cX7_detour 169 = .ok (.iaload, 1) := by decide +kernel
theorem dX7_detour_170 : decode cX7_detour 170 = .ok (.if_icmp .ge 76, 3) := by decide +kernel
theorem dX7_detour_173 : decode cX7_detour 173 = .ok (.iload_n 1, 1) := by decide +kernel
theorem dX7_detour_174 : decode cX7_detour 174 = .ok (.iload 7, 2) := by decide +kernel
theorem dX7_detour_176 : decode cX7_detour 176 = .ok (.ishr, 1) := by decide +kernel
theorem dX7_detour_177 : decode cX7_detour 177 = .ok (.iconst 1, 1) := by decide +kernel
theorem dX7_detour_178 : decode cX7_detour 178 = .ok (.iand, 1) := by decide +kernel
theorem dX7_detour_179 : decode cX7_detour 179 = .ok (.iconst 1, 1) := by decide +kernel
theorem dX7_detour_180 : decode cX7_detour 180 = .ok (.if_icmp .ne 60, 3) := by decide +kernel
theorem dX7_detour_183 : decode cX7_detour 183 = .ok (.iload_n 2, 1) := by decide +kernel
theorem dX7_detour_184 : decode cX7_detour 184 = .ok (.iload 5, 2) := by decide +kernel
theorem dX7_detour_186 : decode cX7_detour 186 = .ok (.ifCond .eq 7, 3) := by decide +kernel
theorem dX7_detour_189 : decode cX7_detour 189 = .ok (.iconst 1, 1) := by decide +kernel
theorem dX7_detour_190 : decode cX7_detour 190 = .ok (.goto 10, 3) := by decide +kernel
theorem dX7_detour_193 : decode cX7_detour 193 = .ok (.aload_n 0, 1) := by decide +kernel
theorem dX7_detour_194 : decode cX7_detour 194 = .ok (.iload 7, 2) := by decide +kernel
theorem dX7_detour_196 : decode cX7_detour 196 = .ok (.iconst 4, 1) := by decide +kernel
theorem dX7_detour_197 : decode cX7_detour 197 = .ok (.invokevirtual 72, 3) := by decide +kernel
theorem dX7_detour_200 : decode cX7_detour 200 = .ok (.imul, 1) := by decide +kernel
theorem dX7_detour_201 : decode cX7_detour 201 = .ok (.iload_n 3, 1) := by decide +kernel
theorem dX7_detour_202 : decode cX7_detour 202 = .ok (.idiv, 1) := by decide +kernel
theorem dX7_detour_203 : decode cX7_detour 203 = .ok (.istore 8, 2) := by decide +kernel
theorem dX7_detour_205 : decode cX7_detour 205 = .ok (.aload_n 0, 1) := by decide +kernel
theorem dX7_detour_206 : decode cX7_detour 206 = .ok (.getfield 7, 3) := by decide +kernel
theorem dX7_detour_209 : decode cX7_detour 209 = .ok (.iload 7, 2) := by decide +kernel
theorem dX7_detour_211 : decode cX7_detour 211 = .ok (.invokestatic 51, 3) := by decide +kernel
theorem dX7_detour_214 : decode cX7_detour 214 = .ok (.bipush 9, 2) := by decide +kernel
theorem dX7_detour_216 : decode cX7_detour 216 = .ok (.iadd, 1) := by decide +kernel
theorem dX7_detour_217 : decode cX7_detour 217 = .ok (.iload 8, 2) := by decide +kernel
theorem dX7_detour_219 : decode cX7_detour 219 = .ok (.iastore, 1) := by decide +kernel
theorem dX7_detour_220 : decode cX7_detour 220 = .ok (.aload_n 0, 1) := by decide +kernel
theorem dX7_detour_221 : decode cX7_detour 221 = .ok (.getfield 7, 3) := by decide +kernel
theorem dX7_detour_224 : decode cX7_detour 224 = .ok (.iload 7, 2) := by decide +kernel
theorem dX7_detour_226 : decode cX7_detour 226 = .ok (.invokestatic 51, 3) := by decide +kernel
theorem dX7_detour_229 : decode cX7_detour 229 = .ok (.iconst 5, 1) := by decide +kernel
theorem dX7_detour_230 : decode cX7_detour 230 = .ok (.iadd, 1) := by decide +kernel
theorem dX7_detour_231 : decode cX7_detour 231 = .ok (.iconst 3, 1) := by decide +kernel
theorem dX7_detour_232 : decode cX7_detour 232 = .ok (.iastore, 1) := by decide +kernel
theorem dX7_detour_233 : decode cX7_detour 233 = .ok (.iload 6, 2) := by decide +kernel
theorem dX7_detour_235 : decode cX7_detour 235 = .ok (.iload 8, 2) := by decide +kernel
theorem dX7_detour_237 : decode cX7_detour 237 = .ok (.isub, 1) := by decide +kernel
theorem dX7_detour_238 : decode cX7_detour 238 = .ok (.istore 6, 2) := by decide +kernel
theorem dX7_detour_240 : decode cX7_detour 240 = .ok (.iinc 7 1, 3) := by decide +kernel
theorem dX7_detour_243 : decode cX7_detour 243 = .ok (.goto (-81), 3) := by decide +kernel
theorem dX7_detour_246 : decode cX7_detour 246 = .ok (.iconst 0, 1) := by decide +kernel
theorem dX7_detour_247 : decode cX7_detour 247 = .ok (.istore 7, 2) := by decide +kernel
theorem dX7_detour_249 : decode cX7_detour 249 = .ok (.iconst 0, 1) := by decide +kernel
theorem dX7_detour_250 : decode cX7_detour 250 = .ok (.istore 8, 2) := by decide +kernel
theorem dX7_detour_252 : decode cX7_detour 252 = .ok (.iload 8, 2) := by decide +kernel
theorem dX7_detour_254 : decode cX7_detour 254 = .ok (.aload_n 0, 1) := by decide +kernel
theorem dX7_detour_255 : decode cX7_detour 255 = .ok (.getfield 7, 3) := by decide +kernel
theorem dX7_detour_258 : decode cX7_detour 258 = .ok (.iconst 1, 1) := by decide +kernel
theorem dX7_detour_259 : decode cX7_detour 259 = .ok (.iaload, 1) := by decide +kernel
theorem dX7_detour_260 : decode cX7_detour 260 = .ok (.if_icmp .ge 76, 3) := by decide +kernel
theorem dX7_detour_263 : decode cX7_detour 263 = .ok (.iload_n 1, 1) := by decide +kernel
theorem dX7_detour_264 : decode cX7_detour 264 = .ok (.iload 8, 2) := by decide +kernel
theorem dX7_detour_266 : decode cX7_detour 266 = .ok (.ishr, 1) := by decide +kernel
theorem dX7_detour_267 : decode cX7_detour 267 = .ok (.iconst 1, 1) := by decide +kernel
theorem dX7_detour_268 : decode cX7_detour 268 = .ok (.iand, 1) := by decide +kernel
theorem dX7_detour_269 : decode cX7_detour 269 = .ok (.iconst 1, 1) := by decide +kernel
theorem dX7_detour_270 : decode cX7_detour 270 = .ok (.if_icmp .ne 60, 3) := by decide +kernel
theorem dX7_detour_273 : decode cX7_detour 273 = .ok (.aload_n 0, 1) := by decide +kernel
theorem dX7_detour_274 : decode cX7_detour 274 = .ok (.getfield 7, 3) := by decide +kernel
theorem dX7_detour_277 : decode cX7_detour 277 = .ok (.iload 8, 2) := by decide +kernel
theorem dX7_detour_279 : decode cX7_detour 279 = .ok (.invokestatic 51, 3) := by decide +kernel
theorem dX7_detour_282 : decode cX7_detour 282 = .ok (.bipush 9, 2) := by decide +kernel
theorem dX7_detour_284 : decode cX7_detour 284 = .ok (.iadd, 1) := by decide +kernel
theorem dX7_detour_285 : decode cX7_detour 285 = .ok (.dup2, 1) := by decide +kernel
theorem dX7_detour_286 : decode cX7_detour 286 = .ok (.iaload, 1) := by decide +kernel
theorem dX7_detour_287 : decode cX7_detour 287 = .ok (.iload 6, 2) := by decide +kernel
theorem dX7_detour_289 : decode cX7_detour 289 = .ok (.ifCond .le 7, 3) := by decide +kernel
theorem dX7_detour_292 : decode cX7_detour 292 = .ok (.iconst 1, 1) := by decide +kernel
theorem dX7_detour_293 : decode cX7_detour 293 = .ok (.goto 4, 3) := by decide +kernel
theorem dX7_detour_296 : decode cX7_detour 296 = .ok (.iconst 0, 1) := by decide +kernel
theorem dX7_detour_297 : decode cX7_detour 297 = .ok (.iadd, 1) := by decide +kernel
theorem dX7_detour_298 : decode cX7_detour 298 = .ok (.iastore, 1) := by decide +kernel
theorem dX7_detour_299 : decode cX7_detour 299 = .ok (.iinc 6 (-1), 3) := by decide +kernel
theorem dX7_detour_302 : decode cX7_detour 302 = .ok (.aload_n 0, 1) := by decide +kernel
theorem dX7_detour_303 : decode cX7_detour 303 = .ok (.iload 8, 2) := by decide +kernel
theorem dX7_detour_305 : decode cX7_detour 305 = .ok (.bipush 10, 2) := by decide +kernel
theorem dX7_detour_307 : decode cX7_detour 307 = .ok (.invokevirtual 72, 3) := by decide +kernel
theorem dX7_detour_310 : decode cX7_detour 310 = .ok (.iload 7, 2) := by decide +kernel
theorem dX7_detour_312 : decode cX7_detour 312 = .ok (.if_icmp .le 14, 3) := by decide +kernel
theorem dX7_detour_315 : decode cX7_detour 315 = .ok (.aload_n 0, 1) := by decide +kernel
theorem dX7_detour_316 : decode cX7_detour 316 = .ok (.iload 8, 2) := by decide +kernel
theorem dX7_detour_318 : decode cX7_detour 318 = .ok (.bipush 10, 2) := by decide +kernel
theorem dX7_detour_320 : decode cX7_detour 320 = .ok (.invokevirtual 72, 3) := by decide +kernel
theorem dX7_detour_323 : decode cX7_detour 323 = .ok (.goto 5, 3) := by decide +kernel
theorem dX7_detour_326 : decode cX7_detour 326 = .ok (.iload 7, 2) := by decide +kernel
theorem dX7_detour_328 : decode cX7_detour 328 = .ok (.istore 7, 2) := by decide +kernel
theorem dX7_detour_330 : decode cX7_detour 330 = .ok (.iinc 8 1, 3) := by decide +kernel
theorem dX7_detour_333 : decode cX7_detour 333 = .ok (.goto (-81), 3) := by decide +kernel
theorem dX7_detour_336 : decode cX7_detour 336 = .ok (.aload_n 0, 1) := by decide +kernel
theorem dX7_detour_337 : decode cX7_detour 337 = .ok (.iload 7, 2) := by decide +kernel
theorem dX7_detour_339 : decode cX7_detour 339 = .ok (.invokevirtual 111, 3) := by decide +kernel
theorem dX7_detour_342 : decode cX7_detour 342 = .ok (.ireturn, 1) := by decide +kernel
theorem dX7_appendCharacter_0 : decode cX7_appendCharacter 0 = .ok (.iload_n 1, 1) := by decide +kernel
theorem dX7_appendCharacter_1 : decode cX7_appendCharacter 1 = .ok (.iconst 0, 1) := by decide +kernel
theorem dX7_appendCharacter_2 : decode cX7_appendCharacter 2 = .ok (.sipush 255, 3) := by decide +kernel
theorem dX7_appendCharacter_5 : decode cX7_appendCharacter 5 = .ok (.invokestatic 43, 3) := by decide +kernel
theorem dX7_appendCharacter_8 : decode cX7_appendCharacter 8 = .ok (.ifCond .ne 6, 3) := by decide +kernel
theorem dX7_appendCharacter_11 : decode cX7_appendCharacter 11 = .ok (.ldc 92, 2) := by decide +kernel
theorem dX7_appendCharacter_13 : decode cX7_appendCharacter 13 = .ok (.ireturn, 1) := by decide +kernel
theorem dX7_appendCharacter_14 : decode cX7_appendCharacter 14 = .ok (.aload_n 0, 1) := by decide +kernel
theorem dX7_appendCharacter_15 : decode cX7_appendCharacter 15 = .ok (.getfield 144, 3) := by decide +kernel
theorem dX7_appendCharacter_18 : decode cX7_appendCharacter 18 = .ok (.bipush 80, 2) := by decide +kernel
theorem dX7_appendCharacter_20 : decode cX7_appendCharacter 20 = .ok (.if_icmp .ne 6, 3) := by decide +kernel
theorem dX7_appendCharacter_23 : decode cX7_appendCharacter 23 = .ok (.ldc 100, 2) := by decide +kernel
theorem dX7_appendCharacter_25 : decode cX7_appendCharacter 25 = .ok (.ireturn, 1) := by decide +kernel
theorem dX7_appendCharacter_26 : decode cX7_appendCharacter 26 = .ok (.aload_n 0, 1) := by decide +kernel
theorem dX7_appendCharacter_27 : decode cX7_appendCharacter 27 = .ok (.getfield 29, 3) := by decide +kernel
theorem dX7_appendCharacter_30 : decode cX7_appendCharacter 30 = .ok (.aload_n 0, 1) := by decide +kernel
theorem dX7_appendCharacter_31 : decode cX7_appendCharacter 31 = .ok (.getfield 144, 3) := by decide +kernel
theorem dX7_appendCharacter_34 : decode cX7_appendCharacter 34 = .ok (.iload_n 1, 1) := by decide +kernel
theorem dX7_appendCharacter_35 : decode cX7_appendCharacter 35 = .ok (.iastore, 1) := by decide +kernel
theorem dX7_appendCharacter_36 : decode cX7_appendCharacter 36 = .ok (.aload_n 0, 1) := by decide +kernel
theorem dX7_appendCharacter_37 : decode cX7_appendCharacter 37 = .ok (.dup, 1) := by decide +kernel
theorem dX7_appendCharacter_38 : decode cX7_appendCharacter 38 = .ok (.getfield 144, 3) := by decide +kernel
theorem dX7_appendCharacter_41 : decode cX7_appendCharacter 41 = .ok (.iconst 1, 1) := by decide +kernel
theorem dX7_appendCharacter_42 : decode cX7_appendCharacter 42 = .ok (.iadd, 1) := by decide +kernel
theorem dX7_appendCharacter_43 : decode cX7_appendCharacter 43 = .ok (.putfield 144, 3) := by decide +kernel
theorem dX7_appendCharacter_46 : decode cX7_appendCharacter 46 = .ok (.aload_n 0, 1) := by decide +kernel
theorem dX7_appendCharacter_47 : decode cX7_appendCharacter 47 = .ok (.getfield 144, 3) := by decide +kernel
theorem dX7_appendCharacter_50 : decode cX7_appendCharacter 50 = .ok (.ireturn, 1) := by decide +kernel
theorem dX7_clearText_0 : decode cX7_clearText 0 = .ok (.aload_n 0, 1) := by decide +kernel
theorem dX7_clearText_1 : decode cX7_clearText 1 = .ok (.getfield 144, 3) := by decide +kernel
theorem dX7_clearText_4 : decode cX7_clearText 4 = .ok (.istore_n 1, 1) := by decide +kernel
theorem dX7_clearText_5 : decode cX7_clearText 5 = .ok (.aload_n 0, 1) := by decide +kernel
theorem dX7_clearText_6 : decode cX7_clearText 6 = .ok (.iconst 0, 1) := by decide +kernel
theorem dX7_clearText_7 : decode cX7_clearText 7 = .ok (.putfield 144, 3) := by decide +kernel
theorem dX7_clearText_10 : decode cX7_clearText 10 = .ok (.iload_n 1, 1) := by decide +kernel
theorem dX7_clearText_11 : decode cX7_clearText 11 = .ok (.ireturn, 1) := by decide +kernel
theorem dX7_isAt_0 : decode cX7_isAt 0 = .ok (.aload_n 0, 1) := by decide +kernel
theorem dX7_isAt_1 : decode cX7_isAt 1 = .ok (.getfield 147, 3) := by decide +kernel
theorem dX7_isAt_4 : decode cX7_isAt 4 = .ok (.aload_n 0, 1) := by decide +kernel
theorem dX7_isAt_5 : decode cX7_isAt 5 = .ok (.getfield 144, 3) := by decide +kernel
theorem dX7_isAt_8 : decode cX7_isAt 8 = .ok (.if_icmp .ge 24, 3) := by decide +kernel
theorem dX7_isAt_11 : decode cX7_isAt 11 = .ok (.aload_n 0, 1) := by decide +kernel
theorem dX7_isAt_12 : decode cX7_isAt 12 = .ok (.getfield 29, 3) := by decide +kernel
theorem dX7_isAt_15 : decode cX7_isAt 15 = .ok (.aload_n 0, 1) := by decide +kernel
theorem dX7_isAt_16 : decode cX7_isAt 16 = .ok (.getfield 147, 3) := by decide +kernel
theorem dX7_isAt_19 : decode cX7_isAt 19 = .ok (.iaload, 1) := by decide +kernel
theorem dX7_isAt_20 : decode cX7_isAt 20 = .ok (.iload_n 1, 1) := by decide +kernel
theorem dX7_isAt_21 : decode cX7_isAt 21 = .ok (.iload_n 2, 1) := by decide +kernel
theorem dX7_isAt_22 : decode cX7_isAt 22 = .ok (.invokestatic 43, 3) := by decide +kernel
theorem dX7_isAt_25 : decode cX7_isAt 25 = .ok (.ifCond .eq 7, 3) := by decide +kernel
theorem dX7_isAt_28 : decode cX7_isAt 28 = .ok (.iconst 1, 1) := by decide +kernel
theorem dX7_isAt_29 : decode cX7_isAt 29 = .ok (.goto 4, 3) := by decide +kernel
theorem dX7_isAt_32 : decode cX7_isAt 32 = .ok (.iconst 0, 1) := by decide +kernel
theorem dX7_isAt_33 : decode cX7_isAt 33 = .ok (.ireturn, 1) := by decide +kernel
theorem dX7_skips_0 : decode cX7_skips 0 = .ok (.aload_n 0, 1) := by decide +kernel
theorem dX7_skips_1 : decode cX7_skips 1 = .ok (.bipush 32, 2) := by decide +kernel
theorem dX7_skips_3 : decode cX7_skips 3 = .ok (.bipush 32, 2) := by decide +kernel
theorem dX7_skips_5 : decode cX7_skips 5 = .ok (.invokevirtual 150, 3) := by decide +kernel
theorem dX7_skips_8 : decode cX7_skips 8 = .ok (.ifCond .eq 16, 3) := by decide +kernel
theorem dX7_skips_11 : decode cX7_skips 11 = .ok (.aload_n 0, 1) := by decide +kernel
theorem dX7_skips_12 : decode cX7_skips 12 = .ok (.dup, 1) := by decide +kernel
theorem dX7_skips_13 : decode cX7_skips 13 = .ok (.getfield 147, 3) := by decide +kernel
theorem dX7_skips_16 : decode cX7_skips 16 = .ok (.iconst 1, 1) := by decide +kernel
theorem dX7_skips_17 : decode cX7_skips 17 = .ok (.iadd, 1) := by decide +kernel
theorem dX7_skips_18 : decode cX7_skips 18 = .ok (.putfield 147, 3) := by decide +kernel
theorem dX7_skips_21 : decode cX7_skips 21 = .ok (.goto (-21), 3) := by decide +kernel
theorem dX7_skips_24 : decode cX7_skips 24 = .ok (.return_, 1) := by decide +kernel
theorem dX7_takes_0 : decode cX7_takes 0 = .ok (.aload_n 0, 1) := by decide +kernel
theorem dX7_takes_1 : decode cX7_takes 1 = .ok (.invokevirtual 153, 3) := by decide +kernel
theorem dX7_takes_4 : decode cX7_takes 4 = .ok (.aload_n 0, 1) := by decide +kernel
theorem dX7_takes_5 : decode cX7_takes 5 = .ok (.iload_n 1, 1) := by decide +kernel
theorem dX7_takes_6 : decode cX7_takes 6 = .ok (.iload_n 1, 1) := by decide +kernel
theorem dX7_takes_7 : decode cX7_takes 7 = .ok (.invokevirtual 150, 3) := by decide +kernel
theorem dX7_takes_10 : decode cX7_takes 10 = .ok (.istore_n 2, 1) := by decide +kernel
theorem dX7_takes_11 : decode cX7_takes 11 = .ok (.aload_n 0, 1) := by decide +kernel
theorem dX7_takes_12 : decode cX7_takes 12 = .ok (.dup, 1) := by decide +kernel
theorem dX7_takes_13 : decode cX7_takes 13 = .ok (.getfield 147, 3) := by decide +kernel
theorem dX7_takes_16 : decode cX7_takes 16 = .ok (.iload_n 2, 1) := by decide +kernel
theorem dX7_takes_17 : decode cX7_takes 17 = .ok (.ifCond .eq 7, 3) := by decide +kernel
theorem dX7_takes_20 : decode cX7_takes 20 = .ok (.iconst 1, 1) := by decide +kernel
theorem dX7_takes_21 : decode cX7_takes 21 = .ok (.goto 4, 3) := by decide +kernel
theorem dX7_takes_24 : decode cX7_takes 24 = .ok (.iconst 0, 1) := by decide +kernel
theorem dX7_takes_25 : decode cX7_takes 25 = .ok (.iadd, 1) := by decide +kernel
theorem dX7_takes_26 : decode cX7_takes 26 = .ok (.putfield 147, 3) := by decide +kernel
theorem dX7_takes_29 : decode cX7_takes 29 = .ok (.iload_n 2, 1) := by decide +kernel
theorem dX7_takes_30 : decode cX7_takes 30 = .ok (.ireturn, 1) := by decide +kernel
theorem dX7_isFigure_0 : decode cX7_isFigure 0 = .ok (.aload_n 0, 1) := by decide +kernel
theorem dX7_isFigure_1 : decode cX7_isFigure 1 = .ok (.invokevirtual 153, 3) := by decide +kernel
theorem dX7_isFigure_4 : decode cX7_isFigure 4 = .ok (.aload_n 0, 1) := by decide +kernel
theorem dX7_isFigure_5 : decode cX7_isFigure 5 = .ok (.getfield 147, 3) := by decide +kernel
theorem dX7_isFigure_8 : decode cX7_isFigure 8 = .ok (.istore_n 2, 1) := by decide +kernel
theorem dX7_isFigure_9 : decode cX7_isFigure 9 = .ok (.aload_n 0, 1) := by decide +kernel
theorem dX7_isFigure_10 : decode cX7_isFigure 10 = .ok (.getfield 32, 3) := by decide +kernel
theorem dX7_isFigure_13 : decode cX7_isFigure 13 = .ok (.iload_n 1, 1) := by decide +kernel
theorem dX7_isFigure_14 : decode cX7_isFigure 14 = .ok (.iconst 0, 1) := by decide +kernel
theorem dX7_isFigure_15 : decode cX7_isFigure 15 = .ok (.iastore, 1) := by decide +kernel
theorem dX7_isFigure_16 : decode cX7_isFigure 16 = .ok (.aload_n 0, 1) := by decide +kernel
theorem dX7_isFigure_17 : decode cX7_isFigure 17 = .ok (.bipush 48, 2) := by decide +kernel
theorem dX7_isFigure_19 : decode cX7_isFigure 19 = .ok (.bipush 57, 2) := by decide +kernel
theorem dX7_isFigure_21 : decode cX7_isFigure 21 = .ok (.invokevirtual 150, 3) := by decide +kernel
theorem dX7_isFigure_24 : decode cX7_isFigure 24 = .ok (.ifCond .eq 58, 3) := by decide +kernel
theorem dX7_isFigure_27 : decode cX7_isFigure 27 = .ok (.aload_n 0, 1) := by decide +kernel
theorem dX7_isFigure_28 : decode cX7_isFigure 28 = .ok (.getfield 32, 3) := by decide +kernel
theorem dX7_isFigure_31 : decode cX7_isFigure 31 = .ok (.iload_n 1, 1) := by decide +kernel
theorem dX7_isFigure_32 : decode cX7_isFigure 32 = .ok (.aload_n 0, 1) := by decide +kernel
theorem dX7_isFigure_33 : decode cX7_isFigure 33 = .ok (.getfield 147, 3) := by decide +kernel
theorem dX7_isFigure_36 : decode cX7_isFigure 36 = .ok (.iload_n 2, 1) := by decide +kernel
theorem dX7_isFigure_37 : decode cX7_isFigure 37 = .ok (.isub, 1) := by decide +kernel
theorem dX7_isFigure_38 : decode cX7_isFigure 38 = .ok (.iconst 3, 1) := by decide +kernel
theorem dX7_isFigure_39 : decode cX7_isFigure 39 = .ok (.if_icmp .ge 28, 3) := by decide +kernel
theorem dX7_isFigure_42 : decode cX7_isFigure 42 = .ok (.bipush 10, 2) := by decide +kernel
theorem dX7_isFigure_44 : decode cX7_isFigure 44 = .ok (.aload_n 0, 1) := by decide +kernel
theorem dX7_isFigure_45 : decode cX7_isFigure 45 = .ok (.getfield 32, 3) := by decide +kernel
theorem dX7_isFigure_48 : decode cX7_isFigure 48 = .ok (.iload_n 1, 1) := by decide +kernel
theorem dX7_isFigure_49 : decode cX7_isFigure 49 = .ok (.iaload, 1) := by decide +kernel
theorem dX7_isFigure_50 : decode cX7_isFigure 50 = .ok (.imul, 1) := by decide +kernel
theorem dX7_isFigure_51 : decode cX7_isFigure 51 = .ok (.aload_n 0, 1) := by decide +kernel
theorem dX7_isFigure_52 : decode cX7_isFigure 52 = .ok (.getfield 29, 3) := by decide +kernel
theorem dX7_isFigure_55 : decode cX7_isFigure 55 = .ok (.aload_n 0, 1) := by decide +kernel
theorem dX7_isFigure_56 : decode cX7_isFigure 56 = .ok (.getfield 147, 3) := by decide +kernel
theorem dX7_isFigure_59 : decode cX7_isFigure 59 = .ok (.iaload, 1) := by decide +kernel
theorem dX7_isFigure_60 : decode cX7_isFigure 60 = .ok (.iadd, 1) := by decide +kernel
theorem dX7_isFigure_61 : decode cX7_isFigure 61 = .ok (.bipush 48, 2) := by decide +kernel
theorem dX7_isFigure_63 : decode cX7_isFigure 63 = .ok (.isub, 1) := by decide +kernel
theorem dX7_isFigure_64 : decode cX7_isFigure 64 = .ok (.goto 4, 3) := by decide +kernel
theorem dX7_isFigure_67 : decode cX7_isFigure 67 = .ok (.iconst 0, 1) := by decide +kernel
theorem dX7_isFigure_68 : decode cX7_isFigure 68 = .ok (.iastore, 1) := by decide +kernel
theorem dX7_isFigure_69 : decode cX7_isFigure 69 = .ok (.aload_n 0, 1) := by decide +kernel
theorem dX7_isFigure_70 : decode cX7_isFigure 70 = .ok (.dup, 1) := by decide +kernel
theorem dX7_isFigure_71 : decode cX7_isFigure 71 = .ok (.getfield 147, 3) := by decide +kernel
theorem dX7_isFigure_74 : decode cX7_isFigure 74 = .ok (.iconst 1, 1) := by decide +kernel
theorem dX7_isFigure_75 : decode cX7_isFigure 75 = .ok (.iadd, 1) := by decide +kernel
theorem dX7_isFigure_76 : decode cX7_isFigure 76 = .ok (.putfield 147, 3) := by decide +kernel
theorem dX7_isFigure_79 : decode cX7_isFigure 79 = .ok (.goto (-63), 3) := by decide +kernel
theorem dX7_isFigure_82 : decode cX7_isFigure 82 = .ok (.aload_n 0, 1) := by decide +kernel
theorem dX7_isFigure_83 : decode cX7_isFigure 83 = .ok (.getfield 147, 3) := by decide +kernel
theorem dX7_isFigure_86 : decode cX7_isFigure 86 = .ok (.iload_n 2, 1) := by decide +kernel
theorem dX7_isFigure_87 : decode cX7_isFigure 87 = .ok (.isub, 1) := by decide +kernel
theorem dX7_isFigure_88 : decode cX7_isFigure 88 = .ok (.istore_n 3, 1) := by decide +kernel
theorem dX7_isFigure_89 : decode cX7_isFigure 89 = .ok (.iload_n 3, 1) := by decide +kernel
theorem dX7_isFigure_90 : decode cX7_isFigure 90 = .ok (.ifCond .eq 24, 3) := by decide +kernel
theorem dX7_isFigure_93 : decode cX7_isFigure 93 = .ok (.iload_n 3, 1) := by decide +kernel
theorem dX7_isFigure_94 : decode cX7_isFigure 94 = .ok (.iconst 3, 1) := by decide +kernel
theorem dX7_isFigure_95 : decode cX7_isFigure 95 = .ok (.if_icmp .gt 19, 3) := by decide +kernel
theorem dX7_isFigure_98 : decode cX7_isFigure 98 = .ok (.iload_n 3, 1) := by decide +kernel
theorem dX7_isFigure_99 : decode cX7_isFigure 99 = .ok (.iconst 1, 1) := by decide +kernel
theorem dX7_isFigure_100 : decode cX7_isFigure 100 = .ok (.if_icmp .le 21, 3) := by decide +kernel
theorem dX7_isFigure_103 : decode cX7_isFigure 103 = .ok (.aload_n 0, 1) := by decide +kernel
theorem dX7_isFigure_104 : decode cX7_isFigure 104 = .ok (.getfield 29, 3) := by decide +kernel
theorem dX7_isFigure_107 : decode cX7_isFigure 107 = .ok (.iload_n 2, 1) := by decide +kernel
theorem dX7_isFigure_108 : decode cX7_isFigure 108 = .ok (.iaload, 1) := by decide +kernel
theorem dX7_isFigure_109 : decode cX7_isFigure 109 = .ok (.bipush 48, 2) := by decide +kernel
theorem dX7_isFigure_111 : decode cX7_isFigure 111 = .ok (.if_icmp .ne 10, 3) := by decide +kernel
theorem dX7_isFigure_114 : decode cX7_isFigure 114 = .ok (.aload_n 0, 1) := by decide +kernel
theorem dX7_isFigure_115 : decode cX7_isFigure 115 = .ok (.iload_n 2, 1) := by decide +kernel
theorem dX7_isFigure_116 : decode cX7_isFigure 116 = .ok (.putfield 147, 3) := by decide +kernel
theorem dX7_isFigure_119 : decode cX7_isFigure 119 = .ok (.iconst 0, 1) := by decide +kernel
theorem dX7_isFigure_120 : decode cX7_isFigure 120 = .ok (.ireturn, 1) := by decide +kernel
theorem dX7_isFigure_121 : decode cX7_isFigure 121 = .ok (.iconst 1, 1) := by decide +kernel
theorem dX7_isFigure_122 : decode cX7_isFigure 122 = .ok (.ireturn, 1) := by decide +kernel
theorem dX7_isCommand_0 : decode cX7_isCommand 0 = .ok (.aload_n 0, 1) := by decide +kernel
theorem dX7_isCommand_1 : decode cX7_isCommand 1 = .ok (.aload_n 0, 1) := by decide +kernel
theorem dX7_isCommand_2 : decode cX7_isCommand 2 = .ok (.getfield 29, 3) := by decide +kernel
theorem dX7_isCommand_5 : decode cX7_isCommand 5 = .ok (.aload_n 0, 1) := by decide +kernel
theorem dX7_isCommand_6 : decode cX7_isCommand 6 = .ok (.getfield 147, 3) := by decide +kernel
theorem dX7_isCommand_9 : decode cX7_isCommand 9 = .ok (.iaload, 1) := by decide +kernel
theorem dX7_isCommand_10 : decode cX7_isCommand 10 = .ok (.putfield 156, 3) := by decide +kernel
theorem dX7_isCommand_13 : decode cX7_isCommand 13 = .ok (.aload_n 0, 1) := by decide +kernel
theorem dX7_isCommand_14 : decode cX7_isCommand 14 = .ok (.getfield 156, 3) := by decide +kernel
theorem dX7_isCommand_17 : decode cX7_isCommand 17 = .ok (.bipush 111, 2) := by decide +kernel
theorem dX7_isCommand_19 : decode cX7_isCommand 19 = .ok (.if_icmp .eq 41, 3) := by decide +kernel
theorem dX7_isCommand_22 : decode cX7_isCommand 22 = .ok (.aload_n 0, 1) := by decide +kernel
theorem dX7_isCommand_23 : decode cX7_isCommand 23 = .ok (.getfield 156, 3) := by decide +kernel
theorem dX7_isCommand_26 : decode cX7_isCommand 26 = .ok (.bipush 99, 2) := by decide +kernel
theorem dX7_isCommand_28 : decode cX7_isCommand 28 = .ok (.if_icmp .eq 32, 3) := by decide +kernel
theorem dX7_isCommand_31 : decode cX7_isCommand 31 = .ok (.aload_n 0, 1) := by decide +kernel
theorem dX7_isCommand_32 : decode cX7_isCommand 32 = .ok (.getfield 156, 3) := by decide +kernel
theorem dX7_isCommand_35 : decode cX7_isCommand 35 = .ok (.bipush 119, 2) := by decide +kernel
theorem dX7_isCommand_37 : decode cX7_isCommand 37 = .ok (.if_icmp .eq 23, 3) := by decide +kernel
theorem dX7_isCommand_40 : decode cX7_isCommand 40 = .ok (.aload_n 0, 1) := by decide +kernel
theorem dX7_isCommand_41 : decode cX7_isCommand 41 = .ok (.getfield 156, 3) := by decide +kernel
theorem dX7_isCommand_44 : decode cX7_isCommand 44 = .ok (.bipush 100, 2) := by decide +kernel
theorem dX7_isCommand_46 : decode cX7_isCommand 46 = .ok (.if_icmp .eq 14, 3) := by decide +kernel
theorem dX7_isCommand_49 : decode cX7_isCommand 49 = .ok (.aload_n 0, 1) := by decide +kernel
theorem dX7_isCommand_50 : decode cX7_isCommand 50 = .ok (.getfield 156, 3) := by decide +kernel
theorem dX7_isCommand_53 : decode cX7_isCommand 53 = .ok (.bipush 114, 2) := by decide +kernel
theorem dX7_isCommand_55 : decode cX7_isCommand 55 = .ok (.if_icmp .eq 5, 3) := by decide +kernel
theorem dX7_isCommand_58 : decode cX7_isCommand 58 = .ok (.iconst 0, 1) := by decide +kernel
theorem dX7_isCommand_59 : decode cX7_isCommand 59 = .ok (.ireturn, 1) := by decide +kernel
theorem dX7_isCommand_60 : decode cX7_isCommand 60 = .ok (.aload_n 0, 1) := by decide +kernel
theorem dX7_isCommand_61 : decode cX7_isCommand 61 = .ok (.dup, 1) := by decide +kernel
theorem dX7_isCommand_62 : decode cX7_isCommand 62 = .ok (.getfield 147, 3) := by decide +kernel
theorem dX7_isCommand_65 : decode cX7_isCommand 65 = .ok (.iconst 1, 1) := by decide +kernel
theorem dX7_isCommand_66 : decode cX7_isCommand 66 = .ok (.iadd, 1) := by decide +kernel
theorem dX7_isCommand_67 : decode cX7_isCommand 67 = .ok (.putfield 147, 3) := by decide +kernel
theorem dX7_isCommand_70 : decode cX7_isCommand 70 = .ok (.aload_n 0, 1) := by decide +kernel
theorem dX7_isCommand_71 : decode cX7_isCommand 71 = .ok (.iconst 0, 1) := by decide +kernel
theorem dX7_isCommand_72 : decode cX7_isCommand 72 = .ok (.invokevirtual 159, 3) := by decide +kernel
theorem dX7_isCommand_75 : decode cX7_isCommand 75 = .ok (.ifCond .ne 5, 3) := by decide +kernel
theorem dX7_isCommand_78 : decode cX7_isCommand 78 = .ok (.iconst 0, 1) := by decide +kernel
theorem dX7_isCommand_79 : decode cX7_isCommand 79 = .ok (.ireturn, 1) := by decide +kernel
theorem dX7_isCommand_80 : decode cX7_isCommand 80 = .ok (.aload_n 0, 1) := by decide +kernel
theorem dX7_isCommand_81 : decode cX7_isCommand 81 = .ok (.getfield 156, 3) := by decide +kernel
theorem dX7_isCommand_84 : decode cX7_isCommand 84 = .ok (.bipush 114, 2) := by decide +kernel
theorem dX7_isCommand_86 : decode cX7_isCommand 86 = .ok (.if_icmp .ne 22, 3) := by decide +kernel
theorem dX7_isCommand_89 : decode cX7_isCommand 89 = .ok (.aload_n 0, 1) := by decide +kernel
theorem dX7_isCommand_90 : decode cX7_isCommand 90 = .ok (.bipush 46, 2) := by decide +kernel
theorem dX7_isCommand_92 : decode cX7_isCommand 92 = .ok (.invokevirtual 162, 3) := by decide +kernel
theorem dX7_isCommand_95 : decode cX7_isCommand 95 = .ok (.ifCond .eq 11, 3) := by decide +kernel
theorem dX7_isCommand_98 : decode cX7_isCommand 98 = .ok (.aload_n 0, 1) := by decide +kernel
theorem dX7_isCommand_99 : decode cX7_isCommand 99 = .ok (.iconst 1, 1) := by decide +kernel
theorem dX7_isCommand_100 : decode cX7_isCommand 100 = .ok (.invokevirtual 159, 3) := by decide +kernel
theorem dX7_isCommand_103 : decode cX7_isCommand 103 = .ok (.ifCond .ne 5, 3) := by decide +kernel
theorem dX7_isCommand_106 : decode cX7_isCommand 106 = .ok (.iconst 0, 1) := by decide +kernel
theorem dX7_isCommand_107 : decode cX7_isCommand 107 = .ok (.ireturn, 1) := by decide +kernel
theorem dX7_isCommand_108 : decode cX7_isCommand 108 = .ok (.aload_n 0, 1) := by decide +kernel
theorem dX7_isCommand_109 : decode cX7_isCommand 109 = .ok (.bipush 59, 2) := by decide +kernel
theorem dX7_isCommand_111 : decode cX7_isCommand 111 = .ok (.invokevirtual 162, 3) := by decide +kernel
theorem dX7_isCommand_114 : decode cX7_isCommand 114 = .ok (.ifCond .ne 5, 3) := by decide +kernel
theorem dX7_isCommand_117 : decode cX7_isCommand 117 = .ok (.iconst 0, 1) := by decide +kernel
theorem dX7_isCommand_118 : decode cX7_isCommand 118 = .ok (.ireturn, 1) := by decide +kernel
theorem dX7_isCommand_119 : decode cX7_isCommand 119 = .ok (.aload_n 0, 1) := by decide +kernel
theorem dX7_isCommand_120 : decode cX7_isCommand 120 = .ok (.invokevirtual 153, 3) := by decide +kernel
theorem dX7_isCommand_123 : decode cX7_isCommand 123 = .ok (.iconst 1, 1) := by decide +kernel
theorem dX7_isCommand_124 : decode cX7_isCommand 124 = .ok (.ireturn, 1) := by decide +kernel
theorem dX7_does_0 : decode cX7_does 0 = .ok (.aload_n 0, 1) := by decide +kernel
theorem dX7_does_1 : decode cX7_does 1 = .ok (.getfield 156, 3) := by decide +kernel
theorem dX7_does_4 : decode cX7_does 4 = .ok (.lookupswitch 90 #[(99, 56), (100, 79), (111, 44), (119, 68)], 44) := by decide +kernel
theorem dX7_does_48 : decode cX7_does 48 = .ok (.aload_n 0, 1) := by decide +kernel
theorem dX7_does_49 : decode cX7_does 49 = .ok (.aload_n 0, 1) := by decide +kernel
theorem dX7_does_50 : decode cX7_does 50 = .ok (.getfield 32, 3) := by decide +kernel
theorem dX7_does_53 : decode cX7_does 53 = .ok (.iconst 0, 1) := by decide +kernel
theorem dX7_does_54 : decode cX7_does 54 = .ok (.iaload, 1) := by decide +kernel
theorem dX7_does_55 : decode cX7_does 55 = .ok (.iconst 1, 1) := by decide +kernel
theorem dX7_does_56 : decode cX7_does 56 = .ok (.invokevirtual 135, 3) := by decide +kernel
theorem dX7_does_59 : decode cX7_does 59 = .ok (.ireturn, 1) := by decide +kernel
theorem dX7_does_60 : decode cX7_does 60 = .ok (.aload_n 0, 1) := by decide +kernel
theorem dX7_does_61 : decode cX7_does 61 = .ok (.aload_n 0, 1) := by decide +kernel
theorem dX7_does_62 : decode cX7_does 62 = .ok (.getfield 32, 3) := by decide +kernel
theorem dX7_does_65 : decode cX7_does 65 = .ok (.iconst 0, 1) := by decide +kernel
theorem dX7_does_66 : decode cX7_does 66 = .ok (.iaload, 1) := by decide +kernel
theorem dX7_does_67 : decode cX7_does 67 = .ok (.iconst 0, 1) := by decide +kernel
theorem dX7_does_68 : decode cX7_does 68 = .ok (.invokevirtual 135, 3) := by decide +kernel
theorem dX7_does_71 : decode cX7_does 71 = .ok (.ireturn, 1) := by decide +kernel
theorem dX7_does_72 : decode cX7_does 72 = .ok (.aload_n 0, 1) := by decide +kernel
theorem dX7_does_73 : decode cX7_does 73 = .ok (.aload_n 0, 1) := by decide +kernel
theorem dX7_does_74 : decode cX7_does 74 = .ok (.getfield 32, 3) := by decide +kernel
theorem dX7_does_77 : decode cX7_does 77 = .ok (.iconst 0, 1) := by decide +kernel
theorem dX7_does_78 : decode cX7_does 78 = .ok (.iaload, 1) := by decide +kernel
theorem dX7_does_79 : decode cX7_does 79 = .ok (.invokevirtual 138, 3) := by decide +kernel
theorem dX7_does_82 : decode cX7_does 82 = .ok (.ireturn, 1) := by decide +kernel
theorem dX7_does_83 : decode cX7_does 83 = .ok (.aload_n 0, 1) := by decide +kernel
theorem dX7_does_84 : decode cX7_does 84 = .ok (.aload_n 0, 1) := by decide +kernel
theorem dX7_does_85 : decode cX7_does 85 = .ok (.getfield 32, 3) := by decide +kernel
theorem dX7_does_88 : decode cX7_does 88 = .ok (.iconst 0, 1) := by decide +kernel
theorem dX7_does_89 : decode cX7_does 89 = .ok (.iaload, 1) := by decide +kernel
theorem dX7_does_90 : decode cX7_does 90 = .ok (.invokevirtual 141, 3) := by decide +kernel
theorem dX7_does_93 : decode cX7_does 93 = .ok (.ireturn, 1) := by decide +kernel
theorem dX7_does_94 : decode cX7_does 94 = .ok (.aload_n 0, 1) := by decide +kernel
theorem dX7_does_95 : decode cX7_does 95 = .ok (.aload_n 0, 1) := by decide +kernel
theorem dX7_does_96 : decode cX7_does 96 = .ok (.getfield 32, 3) := by decide +kernel
theorem dX7_does_99 : decode cX7_does 99 = .ok (.iconst 0, 1) := by decide +kernel
theorem dX7_does_100 : decode cX7_does 100 = .ok (.iaload, 1) := by decide +kernel
theorem dX7_does_101 : decode cX7_does 101 = .ok (.aload_n 0, 1) := by decide +kernel
theorem dX7_does_102 : decode cX7_does 102 = .ok (.getfield 32, 3) := by decide +kernel
theorem dX7_does_105 : decode cX7_does 105 = .ok (.iconst 1, 1) := by decide +kernel
theorem dX7_does_106 : decode cX7_does 106 = .ok (.iaload, 1) := by decide +kernel
theorem dX7_does_107 : decode cX7_does 107 = .ok (.invokevirtual 126, 3) := by decide +kernel
theorem dX7_does_110 : decode cX7_does 110 = .ok (.ireturn, 1) := by decide +kernel
theorem dX7_isScript_0 : decode cX7_isScript 0 = .ok (.aload_n 0, 1) := by decide +kernel
theorem dX7_isScript_1 : decode cX7_isScript 1 = .ok (.iconst 0, 1) := by decide +kernel
theorem dX7_isScript_2 : decode cX7_isScript 2 = .ok (.putfield 147, 3) := by decide +kernel
theorem dX7_isScript_5 : decode cX7_isScript 5 = .ok (.aload_n 0, 1) := by decide +kernel
theorem dX7_isScript_6 : decode cX7_isScript 6 = .ok (.invokevirtual 153, 3) := by decide +kernel
theorem dX7_isScript_9 : decode cX7_isScript 9 = .ok (.aload_n 0, 1) := by decide +kernel
theorem dX7_isScript_10 : decode cX7_isScript 10 = .ok (.getfield 147, 3) := by decide +kernel
theorem dX7_isScript_13 : decode cX7_isScript 13 = .ok (.aload_n 0, 1) := by decide +kernel
theorem dX7_isScript_14 : decode cX7_isScript 14 = .ok (.getfield 144, 3) := by decide +kernel
theorem dX7_isScript_17 : decode cX7_isScript 17 = .ok (.if_icmp .ge 12, 3) := by decide +kernel
theorem dX7_isScript_20 : decode cX7_isScript 20 = .ok (.aload_n 0, 1) := by decide +kernel
theorem dX7_isScript_21 : decode cX7_isScript 21 = .ok (.invokevirtual 165, 3) := by decide +kernel
theorem dX7_isScript_24 : decode cX7_isScript 24 = .ok (.ifCond .ne (-15), 3) := by decide +kernel
theorem dX7_isScript_27 : decode cX7_isScript 27 = .ok (.iconst 0, 1) := by decide +kernel
theorem dX7_isScript_28 : decode cX7_isScript 28 = .ok (.ireturn, 1) := by decide +kernel
theorem dX7_isScript_29 : decode cX7_isScript 29 = .ok (.iconst 1, 1) := by decide +kernel
theorem dX7_isScript_30 : decode cX7_isScript 30 = .ok (.ireturn, 1) := by decide +kernel
theorem dX7_runScript_0 : decode cX7_runScript 0 = .ok (.aload_n 0, 1) := by decide +kernel
theorem dX7_runScript_1 : decode cX7_runScript 1 = .ok (.invokevirtual 169, 3) := by decide +kernel
theorem dX7_runScript_4 : decode cX7_runScript 4 = .ok (.ifCond .ne 11, 3) := by decide +kernel
theorem dX7_runScript_7 : decode cX7_runScript 7 = .ok (.ldc 172, 2) := by decide +kernel
theorem dX7_runScript_9 : decode cX7_runScript 9 = .ok (.aload_n 0, 1) := by decide +kernel
theorem dX7_runScript_10 : decode cX7_runScript 10 = .ok (.getfield 147, 3) := by decide +kernel
theorem dX7_runScript_13 : decode cX7_runScript 13 = .ok (.isub, 1) := by decide +kernel
theorem dX7_runScript_14 : decode cX7_runScript 14 = .ok (.ireturn, 1) := by decide +kernel
theorem dX7_runScript_15 : decode cX7_runScript 15 = .ok (.aload_n 0, 1) := by decide +kernel
theorem dX7_runScript_16 : decode cX7_runScript 16 = .ok (.invokevirtual 117, 3) := by decide +kernel
theorem dX7_runScript_19 : decode cX7_runScript 19 = .ok (.aload_n 0, 1) := by decide +kernel
theorem dX7_runScript_20 : decode cX7_runScript 20 = .ok (.iconst 0, 1) := by decide +kernel
theorem dX7_runScript_21 : decode cX7_runScript 21 = .ok (.putfield 147, 3) := by decide +kernel
theorem dX7_runScript_24 : decode cX7_runScript 24 = .ok (.aload_n 0, 1) := by decide +kernel
theorem dX7_runScript_25 : decode cX7_runScript 25 = .ok (.invokevirtual 153, 3) := by decide +kernel
theorem dX7_runScript_28 : decode cX7_runScript 28 = .ok (.iconst 0, 1) := by decide +kernel
theorem dX7_runScript_29 : decode cX7_runScript 29 = .ok (.istore_n 1, 1) := by decide +kernel
theorem dX7_runScript_30 : decode cX7_runScript 30 = .ok (.aload_n 0, 1) := by decide +kernel
theorem dX7_runScript_31 : decode cX7_runScript 31 = .ok (.getfield 147, 3) := by decide +kernel
theorem dX7_runScript_34 : decode cX7_runScript 34 = .ok (.aload_n 0, 1) := by decide +kernel
theorem dX7_runScript_35 : decode cX7_runScript 35 = .ok (.getfield 144, 3) := by decide +kernel
theorem dX7_runScript_38 : decode cX7_runScript 38 = .ok (.if_icmp .ge 39, 3) := by decide +kernel
theorem dX7_runScript_41 : decode cX7_runScript 41 = .ok (.aload_n 0, 1) := by decide +kernel
theorem dX7_runScript_42 : decode cX7_runScript 42 = .ok (.invokevirtual 165, 3) := by decide +kernel
theorem dX7_runScript_45 : decode cX7_runScript 45 = .ok (.ifCond .eq 26, 3) := by decide +kernel
theorem dX7_runScript_48 : decode cX7_runScript 48 = .ok (.aload_n 0, 1) := by decide +kernel
theorem dX7_runScript_49 : decode cX7_runScript 49 = .ok (.invokevirtual 173, 3) := by decide +kernel
theorem dX7_runScript_52 : decode cX7_runScript 52 = .ok (.ifCond .ge 19, 3) := by decide +kernel
theorem dX7_runScript_55 : decode cX7_runScript 55 = .ok (.aload_n 0, 1) := by decide +kernel
theorem dX7_runScript_56 : decode cX7_runScript 56 = .ok (.getfield 7, 3) := by decide +kernel
theorem dX7_runScript_59 : decode cX7_runScript 59 = .ok (.aload_n 0, 1) := by decide +kernel
theorem dX7_runScript_60 : decode cX7_runScript 60 = .ok (.getfield 16, 3) := by decide +kernel
theorem dX7_runScript_63 : decode cX7_runScript 63 = .ok (.invokestatic 35, 3) := by decide +kernel
theorem dX7_runScript_66 : decode cX7_runScript 66 = .ok (.ldc 176, 2) := by decide +kernel
theorem dX7_runScript_68 : decode cX7_runScript 68 = .ok (.iload_n 1, 1) := by decide +kernel
theorem dX7_runScript_69 : decode cX7_runScript 69 = .ok (.isub, 1) := by decide +kernel
theorem dX7_runScript_70 : decode cX7_runScript 70 = .ok (.ireturn, 1) := by decide +kernel
theorem dX7_runScript_71 : decode cX7_runScript 71 = .ok (.iinc 1 1, 3) := by decide +kernel
theorem dX7_runScript_74 : decode cX7_runScript 74 = .ok (.goto (-44), 3) := by decide +kernel
theorem dX7_runScript_77 : decode cX7_runScript 77 = .ok (.aload_n 0, 1) := by decide +kernel
theorem dX7_runScript_78 : decode cX7_runScript 78 = .ok (.iconst 0, 1) := by decide +kernel
theorem dX7_runScript_79 : decode cX7_runScript 79 = .ok (.putfield 144, 3) := by decide +kernel
theorem dX7_runScript_82 : decode cX7_runScript 82 = .ok (.aload_n 0, 1) := by decide +kernel
theorem dX7_runScript_83 : decode cX7_runScript 83 = .ok (.iload_n 1, 1) := by decide +kernel
theorem dX7_runScript_84 : decode cX7_runScript 84 = .ok (.invokevirtual 111, 3) := by decide +kernel
theorem dX7_runScript_87 : decode cX7_runScript 87 = .ok (.ireturn, 1) := by decide +kernel
theorem dX7_count_0 : decode cX7_count 0 = .ok (.iconst 0, 1) := by decide +kernel
theorem dX7_count_1 : decode cX7_count 1 = .ok (.istore_n 2, 1) := by decide +kernel
theorem dX7_count_2 : decode cX7_count 2 = .ok (.iload_n 1, 1) := by decide +kernel
theorem dX7_count_3 : decode cX7_count 3 = .ok (.tableswitch 102 0 8 #[49, 49, 49, 49, 49, 49, 56, 61, 66], 49) := by decide +kernel
theorem dX7_count_52 : decode cX7_count 52 = .ok (.aload_n 0, 1) := by decide +kernel
theorem dX7_count_53 : decode cX7_count 53 = .ok (.getfield 7, 3) := by decide +kernel
theorem dX7_count_56 : decode cX7_count 56 = .ok (.iload_n 1, 1) := by decide +kernel
theorem dX7_count_57 : decode cX7_count 57 = .ok (.iaload, 1) := by decide +kernel
theorem dX7_count_58 : decode cX7_count 58 = .ok (.ireturn, 1) := by decide +kernel
theorem dX7_count_59 : decode cX7_count 59 = .ok (.aload_n 0, 1) := by decide +kernel
theorem dX7_count_60 : decode cX7_count 60 = .ok (.getfield 144, 3) := by decide +kernel
theorem dX7_count_63 : decode cX7_count 63 = .ok (.ireturn, 1) := by decide +kernel
theorem dX7_count_64 : decode cX7_count 64 = .ok (.aload_n 0, 1) := by decide +kernel
theorem dX7_count_65 : decode cX7_count 65 = .ok (.getfield 39, 3) := by decide +kernel
theorem dX7_count_68 : decode cX7_count 68 = .ok (.ireturn, 1) := by decide +kernel
theorem dX7_count_69 : decode cX7_count 69 = .ok (.iconst 0, 1) := by decide +kernel
theorem dX7_count_70 : decode cX7_count 70 = .ok (.istore_n 3, 1) := by decide +kernel
theorem dX7_count_71 : decode cX7_count 71 = .ok (.iload_n 3, 1) := by decide +kernel
theorem dX7_count_72 : decode cX7_count 72 = .ok (.iconst 3, 1) := by decide +kernel
theorem dX7_count_73 : decode cX7_count 73 = .ok (.aload_n 0, 1) := by decide +kernel
theorem dX7_count_74 : decode cX7_count 74 = .ok (.getfield 7, 3) := by decide +kernel
theorem dX7_count_77 : decode cX7_count 77 = .ok (.iconst 0, 1) := by decide +kernel
theorem dX7_count_78 : decode cX7_count 78 = .ok (.iaload, 1) := by decide +kernel
theorem dX7_count_79 : decode cX7_count 79 = .ok (.imul, 1) := by decide +kernel
theorem dX7_count_80 : decode cX7_count 80 = .ok (.if_icmp .ge 23, 3) := by decide +kernel
theorem dX7_count_83 : decode cX7_count 83 = .ok (.iload_n 2, 1) := by decide +kernel
theorem dX7_count_84 : decode cX7_count 84 = .ok (.aload_n 0, 1) := by decide +kernel
theorem dX7_count_85 : decode cX7_count 85 = .ok (.iload_n 3, 1) := by decide +kernel
theorem dX7_count_86 : decode cX7_count 86 = .ok (.iconst 3, 1) := by decide +kernel
theorem dX7_count_87 : decode cX7_count 87 = .ok (.idiv, 1) := by decide +kernel
theorem dX7_count_88 : decode cX7_count 88 = .ok (.iload_n 3, 1) := by decide +kernel
theorem dX7_count_89 : decode cX7_count 89 = .ok (.iconst 3, 1) := by decide +kernel
theorem dX7_count_90 : decode cX7_count 90 = .ok (.irem, 1) := by decide +kernel
theorem dX7_count_91 : decode cX7_count 91 = .ok (.iconst 3, 1) := by decide +kernel
theorem dX7_count_92 : decode cX7_count 92 = .ok (.invokevirtual 55, 3) := by decide +kernel
theorem dX7_count_95 : decode cX7_count 95 = .ok (.iadd, 1) := by decide +kernel
theorem dX7_count_96 : decode cX7_count 96 = .ok (.istore_n 2, 1) := by decide +kernel
theorem dX7_count_97 : decode cX7_count 97 = .ok (.iinc 3 1, 3) := by decide +kernel
theorem dX7_count_100 : decode cX7_count 100 = .ok (.goto (-29), 3) := by decide +kernel
theorem dX7_count_103 : decode cX7_count 103 = .ok (.iload_n 2, 1) := by decide +kernel
theorem dX7_count_104 : decode cX7_count 104 = .ok (.ireturn, 1) := by decide +kernel
theorem dX7_count_105 : decode cX7_count 105 = .ok (.ldc 92, 2) := by decide +kernel
theorem dX7_count_107 : decode cX7_count 107 = .ok (.ireturn, 1) := by decide +kernel
theorem dX7_van_0 : decode cX7_van 0 = .ok (.aload_n 0, 1) := by decide +kernel
theorem dX7_van_1 : decode cX7_van 1 = .ok (.iload_n 1, 1) := by decide +kernel
theorem dX7_van_2 : decode cX7_van 2 = .ok (.invokevirtual 88, 3) := by decide +kernel
theorem dX7_van_5 : decode cX7_van 5 = .ok (.ifCond .eq 12, 3) := by decide +kernel
theorem dX7_van_8 : decode cX7_van 8 = .ok (.iload_n 2, 1) := by decide +kernel
theorem dX7_van_9 : decode cX7_van 9 = .ok (.iconst 0, 1) := by decide +kernel
theorem dX7_van_10 : decode cX7_van 10 = .ok (.iconst 3, 1) := by decide +kernel
theorem dX7_van_11 : decode cX7_van 11 = .ok (.invokestatic 43, 3) := by decide +kernel
theorem dX7_van_14 : decode cX7_van 14 = .ok (.ifCond .ne 6, 3) := by decide +kernel
theorem dX7_van_17 : decode cX7_van 17 = .ok (.ldc 92, 2) := by decide +kernel
theorem dX7_van_19 : decode cX7_van 19 = .ok (.ireturn, 1) := by decide +kernel
theorem dX7_van_20 : decode cX7_van 20 = .ok (.iload_n 2, 1) := by decide +kernel
theorem dX7_van_21 : decode cX7_van 21 = .ok (.iconst 3, 1) := by decide +kernel
theorem dX7_van_22 : decode cX7_van 22 = .ok (.if_icmp .ge 12, 3) := by decide +kernel
theorem dX7_van_25 : decode cX7_van 25 = .ok (.aload_n 0, 1) := by decide +kernel
theorem dX7_van_26 : decode cX7_van 26 = .ok (.iload_n 1, 1) := by decide +kernel
theorem dX7_van_27 : decode cX7_van 27 = .ok (.iload_n 2, 1) := by decide +kernel
theorem dX7_van_28 : decode cX7_van 28 = .ok (.invokevirtual 65, 3) := by decide +kernel
theorem dX7_van_31 : decode cX7_van 31 = .ok (.goto 8, 3) := by decide +kernel
theorem dX7_van_34 : decode cX7_van 34 = .ok (.aload_n 0, 1) := by decide +kernel
theorem dX7_van_35 : decode cX7_van 35 = .ok (.iload_n 1, 1) := by decide +kernel
theorem dX7_van_36 : decode cX7_van 36 = .ok (.invokevirtual 94, 3) := by decide +kernel
theorem dX7_van_39 : decode cX7_van 39 = .ok (.ireturn, 1) := by decide +kernel
theorem dX7_zone_0 : decode cX7_zone 0 = .ok (.aload_n 0, 1) := by decide +kernel
theorem dX7_zone_1 : decode cX7_zone 1 = .ok (.iload_n 1, 1) := by decide +kernel
theorem dX7_zone_2 : decode cX7_zone 2 = .ok (.invokevirtual 88, 3) := by decide +kernel
theorem dX7_zone_5 : decode cX7_zone 5 = .ok (.ifCond .eq 10, 3) := by decide +kernel
theorem dX7_zone_8 : decode cX7_zone 8 = .ok (.iload_n 2, 1) := by decide +kernel
theorem dX7_zone_9 : decode cX7_zone 9 = .ok (.invokestatic 108, 3) := by decide +kernel
theorem dX7_zone_12 : decode cX7_zone 12 = .ok (.ifCond .ne 6, 3) := by decide +kernel
theorem dX7_zone_15 : decode cX7_zone 15 = .ok (.ldc 92, 2) := by decide +kernel
theorem dX7_zone_17 : decode cX7_zone 17 = .ok (.ireturn, 1) := by decide +kernel
theorem dX7_zone_18 : decode cX7_zone 18 = .ok (.iload_n 3, 1) := by decide +kernel
theorem dX7_zone_19 : decode cX7_zone 19 = .ok (.tableswitch 83 0 5 #[37, 45, 52, 59, 67, 75], 37) := by decide +kernel
theorem dX7_zone_56 : decode cX7_zone 56 = .ok (.aload_n 0, 1) := by decide +kernel
theorem dX7_zone_57 : decode cX7_zone 57 = .ok (.iload_n 1, 1) := by decide +kernel
theorem dX7_zone_58 : decode cX7_zone 58 = .ok (.iload_n 2, 1) := by decide +kernel
theorem dX7_zone_59 : decode cX7_zone 59 = .ok (.iconst 0, 1) := by decide +kernel
theorem dX7_zone_60 : decode cX7_zone 60 = .ok (.invokevirtual 55, 3) := by decide +kernel
theorem dX7_zone_63 : decode cX7_zone 63 = .ok (.ireturn, 1) := by decide +kernel
theorem dX7_zone_64 : decode cX7_zone 64 = .ok (.aload_n 0, 1) := by decide +kernel
theorem dX7_zone_65 : decode cX7_zone 65 = .ok (.iload_n 1, 1) := by decide +kernel
theorem dX7_zone_66 : decode cX7_zone 66 = .ok (.iload_n 2, 1) := by decide +kernel
theorem dX7_zone_67 : decode cX7_zone 67 = .ok (.invokevirtual 59, 3) := by decide +kernel
theorem dX7_zone_70 : decode cX7_zone 70 = .ok (.ireturn, 1) := by decide +kernel
theorem dX7_zone_71 : decode cX7_zone 71 = .ok (.aload_n 0, 1) := by decide +kernel
theorem dX7_zone_72 : decode cX7_zone 72 = .ok (.iload_n 1, 1) := by decide +kernel
theorem dX7_zone_73 : decode cX7_zone 73 = .ok (.iload_n 2, 1) := by decide +kernel
theorem dX7_zone_74 : decode cX7_zone 74 = .ok (.invokevirtual 75, 3) := by decide +kernel
theorem dX7_zone_77 : decode cX7_zone 77 = .ok (.ireturn, 1) := by decide +kernel
theorem dX7_zone_78 : decode cX7_zone 78 = .ok (.aload_n 0, 1) := by decide +kernel
theorem dX7_zone_79 : decode cX7_zone 79 = .ok (.iload_n 1, 1) := by decide +kernel
theorem dX7_zone_80 : decode cX7_zone 80 = .ok (.iload_n 2, 1) := by decide +kernel
theorem dX7_zone_81 : decode cX7_zone 81 = .ok (.iconst 1, 1) := by decide +kernel
theorem dX7_zone_82 : decode cX7_zone 82 = .ok (.invokevirtual 55, 3) := by decide +kernel
theorem dX7_zone_85 : decode cX7_zone 85 = .ok (.ireturn, 1) := by decide +kernel
theorem dX7_zone_86 : decode cX7_zone 86 = .ok (.aload_n 0, 1) := by decide +kernel
theorem dX7_zone_87 : decode cX7_zone 87 = .ok (.iload_n 1, 1) := by decide +kernel
theorem dX7_zone_88 : decode cX7_zone 88 = .ok (.iload_n 2, 1) := by decide +kernel
theorem dX7_zone_89 : decode cX7_zone 89 = .ok (.iconst 3, 1) := by decide +kernel
theorem dX7_zone_90 : decode cX7_zone 90 = .ok (.invokevirtual 55, 3) := by decide +kernel
theorem dX7_zone_93 : decode cX7_zone 93 = .ok (.ireturn, 1) := by decide +kernel
theorem dX7_zone_94 : decode cX7_zone 94 = .ok (.aload_n 0, 1) := by decide +kernel
theorem dX7_zone_95 : decode cX7_zone 95 = .ok (.iload_n 1, 1) := by decide +kernel
theorem dX7_zone_96 : decode cX7_zone 96 = .ok (.iload_n 2, 1) := by decide +kernel
theorem dX7_zone_97 : decode cX7_zone 97 = .ok (.iconst 4, 1) := by decide +kernel
theorem dX7_zone_98 : decode cX7_zone 98 = .ok (.invokevirtual 55, 3) := by decide +kernel
theorem dX7_zone_101 : decode cX7_zone 101 = .ok (.ireturn, 1) := by decide +kernel
theorem dX7_zone_102 : decode cX7_zone 102 = .ok (.ldc 92, 2) := by decide +kernel
theorem dX7_zone_104 : decode cX7_zone 104 = .ok (.ireturn, 1) := by decide +kernel
theorem dX7_cause_0 : decode cX7_cause 0 = .ok (.aload_n 0, 1) := by decide +kernel
theorem dX7_cause_1 : decode cX7_cause 1 = .ok (.iload_n 1, 1) := by decide +kernel
theorem dX7_cause_2 : decode cX7_cause 2 = .ok (.iconst 5, 1) := by decide +kernel
theorem dX7_cause_3 : decode cX7_cause 3 = .ok (.invokevirtual 72, 3) := by decide +kernel
theorem dX7_cause_6 : decode cX7_cause 6 = .ok (.iconst 2, 1) := by decide +kernel
theorem dX7_cause_7 : decode cX7_cause 7 = .ok (.if_icmp .ge 5, 3) := by decide +kernel
theorem dX7_cause_10 : decode cX7_cause 10 = .ok (.iconst 0, 1) := by decide +kernel
theorem dX7_cause_11 : decode cX7_cause 11 = .ok (.ireturn, 1) := by decide +kernel
theorem dX7_cause_12 : decode cX7_cause 12 = .ok (.aload_n 0, 1) := by decide +kernel
theorem dX7_cause_13 : decode cX7_cause 13 = .ok (.iload_n 1, 1) := by decide +kernel
theorem dX7_cause_14 : decode cX7_cause 14 = .ok (.bipush 6, 2) := by decide +kernel
theorem dX7_cause_16 : decode cX7_cause 16 = .ok (.invokevirtual 72, 3) := by decide +kernel
theorem dX7_cause_19 : decode cX7_cause 19 = .ok (.aload_n 0, 1) := by decide +kernel
theorem dX7_cause_20 : decode cX7_cause 20 = .ok (.iload_n 1, 1) := by decide +kernel
theorem dX7_cause_21 : decode cX7_cause 21 = .ok (.bipush 7, 2) := by decide +kernel
theorem dX7_cause_23 : decode cX7_cause 23 = .ok (.invokevirtual 72, 3) := by decide +kernel
theorem dX7_cause_26 : decode cX7_cause 26 = .ok (.iadd, 1) := by decide +kernel
theorem dX7_cause_27 : decode cX7_cause 27 = .ok (.aload_n 0, 1) := by decide +kernel
theorem dX7_cause_28 : decode cX7_cause 28 = .ok (.iload_n 1, 1) := by decide +kernel
theorem dX7_cause_29 : decode cX7_cause 29 = .ok (.iconst 3, 1) := by decide +kernel
theorem dX7_cause_30 : decode cX7_cause 30 = .ok (.invokevirtual 72, 3) := by decide +kernel
theorem dX7_cause_33 : decode cX7_cause 33 = .ok (.if_icmp .gt 5, 3) := by decide +kernel
theorem dX7_cause_36 : decode cX7_cause 36 = .ok (.iconst 3, 1) := by decide +kernel
theorem dX7_cause_37 : decode cX7_cause 37 = .ok (.ireturn, 1) := by decide +kernel
theorem dX7_cause_38 : decode cX7_cause 38 = .ok (.aload_n 0, 1) := by decide +kernel
theorem dX7_cause_39 : decode cX7_cause 39 = .ok (.iload_n 1, 1) := by decide +kernel
theorem dX7_cause_40 : decode cX7_cause 40 = .ok (.bipush 6, 2) := by decide +kernel
theorem dX7_cause_42 : decode cX7_cause 42 = .ok (.invokevirtual 72, 3) := by decide +kernel
theorem dX7_cause_45 : decode cX7_cause 45 = .ok (.aload_n 0, 1) := by decide +kernel
theorem dX7_cause_46 : decode cX7_cause 46 = .ok (.iload_n 1, 1) := by decide +kernel
theorem dX7_cause_47 : decode cX7_cause 47 = .ok (.bipush 7, 2) := by decide +kernel
theorem dX7_cause_49 : decode cX7_cause 49 = .ok (.invokevirtual 72, 3) := by decide +kernel
theorem dX7_cause_52 : decode cX7_cause 52 = .ok (.if_icmp .lt 7, 3) := by decide +kernel
theorem dX7_cause_55 : decode cX7_cause 55 = .ok (.iconst 1, 1) := by decide +kernel
theorem dX7_cause_56 : decode cX7_cause 56 = .ok (.goto 4, 3) := by decide +kernel
theorem dX7_cause_59 : decode cX7_cause 59 = .ok (.iconst 2, 1) := by decide +kernel
theorem dX7_cause_60 : decode cX7_cause 60 = .ok (.ireturn, 1) := by decide +kernel
theorem dX7_pallet_0 : decode cX7_pallet 0 = .ok (.aload_n 0, 1) := by decide +kernel
theorem dX7_pallet_1 : decode cX7_pallet 1 = .ok (.iload_n 1, 1) := by decide +kernel
theorem dX7_pallet_2 : decode cX7_pallet 2 = .ok (.invokevirtual 105, 3) := by decide +kernel
theorem dX7_pallet_5 : decode cX7_pallet 5 = .ok (.ifCond .eq 13, 3) := by decide +kernel
theorem dX7_pallet_8 : decode cX7_pallet 8 = .ok (.iload_n 2, 1) := by decide +kernel
theorem dX7_pallet_9 : decode cX7_pallet 9 = .ok (.iconst 0, 1) := by decide +kernel
theorem dX7_pallet_10 : decode cX7_pallet 10 = .ok (.bipush 10, 2) := by decide +kernel
theorem dX7_pallet_12 : decode cX7_pallet 12 = .ok (.invokestatic 43, 3) := by decide +kernel
theorem dX7_pallet_15 : decode cX7_pallet 15 = .ok (.ifCond .ne 6, 3) := by decide +kernel
theorem dX7_pallet_18 : decode cX7_pallet 18 = .ok (.ldc 92, 2) := by decide +kernel
theorem dX7_pallet_20 : decode cX7_pallet 20 = .ok (.ireturn, 1) := by decide +kernel
theorem dX7_pallet_21 : decode cX7_pallet 21 = .ok (.iload_n 2, 1) := by decide +kernel
theorem dX7_pallet_22 : decode cX7_pallet 22 = .ok (.bipush 9, 2) := by decide +kernel
theorem dX7_pallet_24 : decode cX7_pallet 24 = .ok (.if_icmp .ne 11, 3) := by decide +kernel
theorem dX7_pallet_27 : decode cX7_pallet 27 = .ok (.aload_n 0, 1) := by decide +kernel
theorem dX7_pallet_28 : decode cX7_pallet 28 = .ok (.iload_n 1, 1) := by decide +kernel
theorem dX7_pallet_29 : decode cX7_pallet 29 = .ok (.invokevirtual 177, 3) := by decide +kernel
theorem dX7_pallet_32 : decode cX7_pallet 32 = .ok (.goto 9, 3) := by decide +kernel
theorem dX7_pallet_35 : decode cX7_pallet 35 = .ok (.aload_n 0, 1) := by decide +kernel
theorem dX7_pallet_36 : decode cX7_pallet 36 = .ok (.iload_n 1, 1) := by decide +kernel
theorem dX7_pallet_37 : decode cX7_pallet 37 = .ok (.iload_n 2, 1) := by decide +kernel
theorem dX7_pallet_38 : decode cX7_pallet 38 = .ok (.invokevirtual 72, 3) := by decide +kernel
theorem dX7_pallet_41 : decode cX7_pallet 41 = .ok (.ireturn, 1) := by decide +kernel
theorem dX7_claim_0 : decode cX7_claim 0 = .ok (.aload_n 0, 1) := by decide +kernel
theorem dX7_claim_1 : decode cX7_claim 1 = .ok (.iload_n 1, 1) := by decide +kernel
theorem dX7_claim_2 : decode cX7_claim 2 = .ok (.invokevirtual 177, 3) := by decide +kernel
theorem dX7_claim_5 : decode cX7_claim 5 = .ok (.istore_n 3, 1) := by decide +kernel
theorem dX7_claim_6 : decode cX7_claim 6 = .ok (.iload_n 3, 1) := by decide +kernel
theorem dX7_claim_7 : decode cX7_claim 7 = .ok (.ifCond .ne 5, 3) := by decide +kernel
theorem dX7_claim_10 : decode cX7_claim 10 = .ok (.iconst 0, 1) := by decide +kernel
theorem dX7_claim_11 : decode cX7_claim 11 = .ok (.ireturn, 1) := by decide +kernel
theorem dX7_claim_12 : decode cX7_claim 12 = .ok (.aload_n 0, 1) := by decide +kernel
theorem dX7_claim_13 : decode cX7_claim 13 = .ok (.iload_n 1, 1) := by decide +kernel
theorem dX7_claim_14 : decode cX7_claim 14 = .ok (.iconst 4, 1) := by decide +kernel
theorem dX7_claim_15 : decode cX7_claim 15 = .ok (.invokevirtual 72, 3) := by decide +kernel
theorem dX7_claim_18 : decode cX7_claim 18 = .ok (.aload_n 0, 1) := by decide +kernel
theorem dX7_claim_19 : decode cX7_claim 19 = .ok (.iload_n 1, 1) := by decide +kernel
theorem dX7_claim_20 : decode cX7_claim 20 = .ok (.bipush 10, 2) := by decide +kernel
theorem dX7_claim_22 : decode cX7_claim 22 = .ok (.invokevirtual 72, 3) := by decide +kernel
theorem dX7_claim_25 : decode cX7_claim 25 = .ok (.iadd, 1) := by decide +kernel
theorem dX7_claim_26 : decode cX7_claim 26 = .ok (.istore 4, 2) := by decide +kernel
theorem dX7_claim_28 : decode cX7_claim 28 = .ok (.iload_n 2, 1) := by decide +kernel
theorem dX7_claim_29 : decode cX7_claim 29 = .ok (.ifCond .ne 6, 3) := by decide +kernel
theorem dX7_claim_32 : decode cX7_claim 32 = .ok (.iload 4, 2) := by decide +kernel
theorem dX7_claim_34 : decode cX7_claim 34 = .ok (.ireturn, 1) := by decide +kernel
theorem dX7_claim_35 : decode cX7_claim 35 = .ok (.iload_n 3, 1) := by decide +kernel
theorem dX7_claim_36 : decode cX7_claim 36 = .ok (.iconst 3, 1) := by decide +kernel
theorem dX7_claim_37 : decode cX7_claim 37 = .ok (.if_icmp .eq 8, 3) := by decide +kernel
theorem dX7_claim_40 : decode cX7_claim 40 = .ok (.iload_n 2, 1) := by decide +kernel
theorem dX7_claim_41 : decode cX7_claim 41 = .ok (.iconst 3, 1) := by decide +kernel
theorem dX7_claim_42 : decode cX7_claim 42 = .ok (.if_icmp .ne 15, 3) := by decide +kernel
theorem dX7_claim_45 : decode cX7_claim 45 = .ok (.iload_n 3, 1) := by decide +kernel
theorem dX7_claim_46 : decode cX7_claim 46 = .ok (.iload_n 2, 1) := by decide +kernel
theorem dX7_claim_47 : decode cX7_claim 47 = .ok (.if_icmp .ne 8, 3) := by decide +kernel
theorem dX7_claim_50 : decode cX7_claim 50 = .ok (.iload 4, 2) := by decide +kernel
theorem dX7_claim_52 : decode cX7_claim 52 = .ok (.goto 4, 3) := by decide +kernel
theorem dX7_claim_55 : decode cX7_claim 55 = .ok (.iconst 0, 1) := by decide +kernel
theorem dX7_claim_56 : decode cX7_claim 56 = .ok (.ireturn, 1) := by decide +kernel
theorem dX7_claim_57 : decode cX7_claim 57 = .ok (.iload 4, 2) := by decide +kernel
theorem dX7_claim_59 : decode cX7_claim 59 = .ok (.aload_n 0, 1) := by decide +kernel
theorem dX7_claim_60 : decode cX7_claim 60 = .ok (.iload_n 1, 1) := by decide +kernel
theorem dX7_claim_61 : decode cX7_claim 61 = .ok (.bipush 6, 2) := by decide +kernel
theorem dX7_claim_63 : decode cX7_claim 63 = .ok (.invokevirtual 72, 3) := by decide +kernel
theorem dX7_claim_66 : decode cX7_claim 66 = .ok (.imul, 1) := by decide +kernel
theorem dX7_claim_67 : decode cX7_claim 67 = .ok (.aload_n 0, 1) := by decide +kernel
theorem dX7_claim_68 : decode cX7_claim 68 = .ok (.iload_n 1, 1) := by decide +kernel
theorem dX7_claim_69 : decode cX7_claim 69 = .ok (.bipush 6, 2) := by decide +kernel
theorem dX7_claim_71 : decode cX7_claim 71 = .ok (.invokevirtual 72, 3) := by decide +kernel
theorem dX7_claim_74 : decode cX7_claim 74 = .ok (.aload_n 0, 1) := by decide +kernel
theorem dX7_claim_75 : decode cX7_claim 75 = .ok (.iload_n 1, 1) := by decide +kernel
theorem dX7_claim_76 : decode cX7_claim 76 = .ok (.bipush 7, 2) := by decide +kernel
theorem dX7_claim_78 : decode cX7_claim 78 = .ok (.invokevirtual 72, 3) := by decide +kernel
theorem dX7_claim_81 : decode cX7_claim 81 = .ok (.iadd, 1) := by decide +kernel
theorem dX7_claim_82 : decode cX7_claim 82 = .ok (.idiv, 1) := by decide +kernel
theorem dX7_claim_83 : decode cX7_claim 83 = .ok (.istore 5, 2) := by decide +kernel
theorem dX7_claim_85 : decode cX7_claim 85 = .ok (.iload_n 2, 1) := by decide +kernel
theorem dX7_claim_86 : decode cX7_claim 86 = .ok (.iconst 1, 1) := by decide +kernel
theorem dX7_claim_87 : decode cX7_claim 87 = .ok (.if_icmp .ne 8, 3) := by decide +kernel
theorem dX7_claim_90 : decode cX7_claim 90 = .ok (.iload 5, 2) := by decide +kernel
theorem dX7_claim_92 : decode cX7_claim 92 = .ok (.goto 8, 3) := by decide +kernel
theorem dX7_claim_95 : decode cX7_claim 95 = .ok (.iload 4, 2) := by decide +kernel
theorem dX7_claim_97 : decode cX7_claim 97 = .ok (.iload 5, 2) := by decide +kernel
theorem dX7_claim_99 : decode cX7_claim 99 = .ok (.isub, 1) := by decide +kernel
theorem dX7_claim_100 : decode cX7_claim 100 = .ok (.ireturn, 1) := by decide +kernel
theorem dX7_claims_0 : decode cX7_claims 0 = .ok (.iload_n 1, 1) := by decide +kernel
theorem dX7_claims_1 : decode cX7_claims 1 = .ok (.iconst 0, 1) := by decide +kernel
theorem dX7_claims_2 : decode cX7_claims 2 = .ok (.iconst 3, 1) := by decide +kernel
theorem dX7_claims_3 : decode cX7_claims 3 = .ok (.invokestatic 43, 3) := by decide +kernel
theorem dX7_claims_6 : decode cX7_claims 6 = .ok (.ifCond .ne 6, 3) := by decide +kernel
theorem dX7_claims_9 : decode cX7_claims 9 = .ok (.ldc 92, 2) := by decide +kernel
theorem dX7_claims_11 : decode cX7_claims 11 = .ok (.ireturn, 1) := by decide +kernel
theorem dX7_claims_12 : decode cX7_claims 12 = .ok (.iconst 0, 1) := by decide +kernel
theorem dX7_claims_13 : decode cX7_claims 13 = .ok (.istore_n 2, 1) := by decide +kernel
theorem dX7_claims_14 : decode cX7_claims 14 = .ok (.iconst 0, 1) := by decide +kernel
theorem dX7_claims_15 : decode cX7_claims 15 = .ok (.istore_n 3, 1) := by decide +kernel
theorem dX7_claims_16 : decode cX7_claims 16 = .ok (.iload_n 3, 1) := by decide +kernel
theorem dX7_claims_17 : decode cX7_claims 17 = .ok (.aload_n 0, 1) := by decide +kernel
theorem dX7_claims_18 : decode cX7_claims 18 = .ok (.getfield 7, 3) := by decide +kernel
theorem dX7_claims_21 : decode cX7_claims 21 = .ok (.iconst 1, 1) := by decide +kernel
theorem dX7_claims_22 : decode cX7_claims 22 = .ok (.iaload, 1) := by decide +kernel
theorem dX7_claims_23 : decode cX7_claims 23 = .ok (.if_icmp .ge 18, 3) := by decide +kernel
theorem dX7_claims_26 : decode cX7_claims 26 = .ok (.iload_n 2, 1) := by decide +kernel
theorem dX7_claims_27 : decode cX7_claims 27 = .ok (.aload_n 0, 1) := by decide +kernel
theorem dX7_claims_28 : decode cX7_claims 28 = .ok (.iload_n 3, 1) := by decide +kernel
theorem dX7_claims_29 : decode cX7_claims 29 = .ok (.iload_n 1, 1) := by decide +kernel
theorem dX7_claims_30 : decode cX7_claims 30 = .ok (.invokevirtual 180, 3) := by decide +kernel
theorem dX7_claims_33 : decode cX7_claims 33 = .ok (.iadd, 1) := by decide +kernel
theorem dX7_claims_34 : decode cX7_claims 34 = .ok (.istore_n 2, 1) := by decide +kernel
theorem dX7_claims_35 : decode cX7_claims 35 = .ok (.iinc 3 1, 3) := by decide +kernel
theorem dX7_claims_38 : decode cX7_claims 38 = .ok (.goto (-22), 3) := by decide +kernel
theorem dX7_claims_41 : decode cX7_claims 41 = .ok (.iload_n 2, 1) := by decide +kernel
theorem dX7_claims_42 : decode cX7_claims 42 = .ok (.ireturn, 1) := by decide +kernel
theorem dX7_entry_0 : decode cX7_entry 0 = .ok (.iload_n 3, 1) := by decide +kernel
theorem dX7_entry_1 : decode cX7_entry 1 = .ok (.aload_n 0, 1) := by decide +kernel
theorem dX7_entry_2 : decode cX7_entry 2 = .ok (.getfield 7, 3) := by decide +kernel
theorem dX7_entry_5 : decode cX7_entry 5 = .ok (.iconst 2, 1) := by decide +kernel
theorem dX7_entry_6 : decode cX7_entry 6 = .ok (.iaload, 1) := by decide +kernel
theorem dX7_entry_7 : decode cX7_entry 7 = .ok (.if_icmp .gt 13, 3) := by decide +kernel
theorem dX7_entry_10 : decode cX7_entry 10 = .ok (.iload_n 3, 1) := by decide +kernel
theorem dX7_entry_11 : decode cX7_entry 11 = .ok (.aload_n 0, 1) := by decide +kernel
theorem dX7_entry_12 : decode cX7_entry 12 = .ok (.iload_n 1, 1) := by decide +kernel
theorem dX7_entry_13 : decode cX7_entry 13 = .ok (.iconst 3, 1) := by decide +kernel
theorem dX7_entry_14 : decode cX7_entry 14 = .ok (.invokevirtual 65, 3) := by decide +kernel
theorem dX7_entry_17 : decode cX7_entry 17 = .ok (.if_icmp .gt 8, 3) := by decide +kernel
theorem dX7_entry_20 : decode cX7_entry 20 = .ok (.ldc 183, 2) := by decide +kernel
theorem dX7_entry_22 : decode cX7_entry 22 = .ok (.goto 26, 3) := by decide +kernel
theorem dX7_entry_25 : decode cX7_entry 25 = .ok (.aload_n 0, 1) := by decide +kernel
theorem dX7_entry_26 : decode cX7_entry 26 = .ok (.getfield 22, 3) := by decide +kernel
theorem dX7_entry_29 : decode cX7_entry 29 = .ok (.bipush 18, 2) := by decide +kernel
theorem dX7_entry_31 : decode cX7_entry 31 = .ok (.iload_n 3, 1) := by decide +kernel
theorem dX7_entry_32 : decode cX7_entry 32 = .ok (.iconst 1, 1) := by decide +kernel
theorem dX7_entry_33 : decode cX7_entry 33 = .ok (.isub, 1) := by decide +kernel
theorem dX7_entry_34 : decode cX7_entry 34 = .ok (.imul, 1) := by decide +kernel
theorem dX7_entry_35 : decode cX7_entry 35 = .ok (.bipush 6, 2) := by decide +kernel
theorem dX7_entry_37 : decode cX7_entry 37 = .ok (.iload_n 1, 1) := by decide +kernel
theorem dX7_entry_38 : decode cX7_entry 38 = .ok (.imul, 1) := by decide +kernel
theorem dX7_entry_39 : decode cX7_entry 39 = .ok (.iadd, 1) := by decide +kernel
theorem dX7_entry_40 : decode cX7_entry 40 = .ok (.iconst 2, 1) := by decide +kernel
theorem dX7_entry_41 : decode cX7_entry 41 = .ok (.iload_n 2, 1) := by decide +kernel
theorem dX7_entry_42 : decode cX7_entry 42 = .ok (.imul, 1) := by decide +kernel
theorem dX7_entry_43 : decode cX7_entry 43 = .ok (.iadd, 1) := by decide +kernel
theorem dX7_entry_44 : decode cX7_entry 44 = .ok (.iload 4, 2) := by decide +kernel
theorem dX7_entry_46 : decode cX7_entry 46 = .ok (.iadd, 1) := by decide +kernel
theorem dX7_entry_47 : decode cX7_entry 47 = .ok (.iaload, 1) := by decide +kernel
theorem dX7_entry_48 : decode cX7_entry 48 = .ok (.ireturn, 1) := by decide +kernel
theorem dX7_log_0 : decode cX7_log 0 = .ok (.aload_n 0, 1) := by decide +kernel
theorem dX7_log_1 : decode cX7_log 1 = .ok (.iload_n 1, 1) := by decide +kernel
theorem dX7_log_2 : decode cX7_log 2 = .ok (.invokevirtual 88, 3) := by decide +kernel
theorem dX7_log_5 : decode cX7_log 5 = .ok (.ifCond .eq 25, 3) := by decide +kernel
theorem dX7_log_8 : decode cX7_log 8 = .ok (.iload_n 2, 1) := by decide +kernel
theorem dX7_log_9 : decode cX7_log 9 = .ok (.invokestatic 108, 3) := by decide +kernel
theorem dX7_log_12 : decode cX7_log 12 = .ok (.ifCond .eq 18, 3) := by decide +kernel
theorem dX7_log_15 : decode cX7_log 15 = .ok (.iload_n 3, 1) := by decide +kernel
theorem dX7_log_16 : decode cX7_log 16 = .ok (.iconst 1, 1) := by decide +kernel
theorem dX7_log_17 : decode cX7_log 17 = .ok (.if_icmp .lt 13, 3) := by decide +kernel
theorem dX7_log_20 : decode cX7_log 20 = .ok (.iload 4, 2) := by decide +kernel
theorem dX7_log_22 : decode cX7_log 22 = .ok (.iconst 0, 1) := by decide +kernel
theorem dX7_log_23 : decode cX7_log 23 = .ok (.iconst 1, 1) := by decide +kernel
theorem dX7_log_24 : decode cX7_log 24 = .ok (.invokestatic 43, 3) := by decide +kernel
theorem dX7_log_27 : decode cX7_log 27 = .ok (.ifCond .ne 6, 3) := by decide +kernel
theorem dX7_log_30 : decode cX7_log 30 = .ok (.ldc 92, 2) := by decide +kernel
theorem dX7_log_32 : decode cX7_log 32 = .ok (.ireturn, 1) := by decide +kernel
theorem dX7_log_33 : decode cX7_log 33 = .ok (.aload_n 0, 1) := by decide +kernel
theorem dX7_log_34 : decode cX7_log 34 = .ok (.iload_n 1, 1) := by decide +kernel
theorem dX7_log_35 : decode cX7_log 35 = .ok (.iload_n 2, 1) := by decide +kernel
theorem dX7_log_36 : decode cX7_log 36 = .ok (.iload_n 3, 1) := by decide +kernel
theorem dX7_log_37 : decode cX7_log 37 = .ok (.iload 4, 2) := by decide +kernel
theorem dX7_log_39 : decode cX7_log 39 = .ok (.invokevirtual 184, 3) := by decide +kernel
theorem dX7_log_42 : decode cX7_log 42 = .ok (.ireturn, 1) := by decide +kernel
theorem dX7_warm_0 : decode cX7_warm 0 = .ok (.aload_n 0, 1) := by decide +kernel
theorem dX7_warm_1 : decode cX7_warm 1 = .ok (.iload_n 1, 1) := by decide +kernel
theorem dX7_warm_2 : decode cX7_warm 2 = .ok (.invokevirtual 88, 3) := by decide +kernel
theorem dX7_warm_5 : decode cX7_warm 5 = .ok (.ifCond .eq 45, 3) := by decide +kernel
theorem dX7_warm_8 : decode cX7_warm 8 = .ok (.iload_n 2, 1) := by decide +kernel
theorem dX7_warm_9 : decode cX7_warm 9 = .ok (.invokestatic 108, 3) := by decide +kernel
theorem dX7_warm_12 : decode cX7_warm 12 = .ok (.ifCond .eq 38, 3) := by decide +kernel
theorem dX7_warm_15 : decode cX7_warm 15 = .ok (.iload_n 3, 1) := by decide +kernel
theorem dX7_warm_16 : decode cX7_warm 16 = .ok (.sipush (-300), 3) := by decide +kernel
theorem dX7_warm_19 : decode cX7_warm 19 = .ok (.sipush 300, 3) := by decide +kernel
theorem dX7_warm_22 : decode cX7_warm 22 = .ok (.invokestatic 43, 3) := by decide +kernel
theorem dX7_warm_25 : decode cX7_warm 25 = .ok (.ifCond .eq 25, 3) := by decide +kernel
theorem dX7_warm_28 : decode cX7_warm 28 = .ok (.iload 4, 2) := by decide +kernel
theorem dX7_warm_30 : decode cX7_warm 30 = .ok (.ifCond .lt 20, 3) := by decide +kernel
theorem dX7_warm_33 : decode cX7_warm 33 = .ok (.iload 5, 2) := by decide +kernel
theorem dX7_warm_35 : decode cX7_warm 35 = .ok (.iload 4, 2) := by decide +kernel
theorem dX7_warm_37 : decode cX7_warm 37 = .ok (.if_icmp .lt 13, 3) := by decide +kernel
theorem dX7_warm_40 : decode cX7_warm 40 = .ok (.iload 6, 2) := by decide +kernel
theorem dX7_warm_42 : decode cX7_warm 42 = .ok (.iconst 0, 1) := by decide +kernel
theorem dX7_warm_43 : decode cX7_warm 43 = .ok (.iconst 1, 1) := by decide +kernel
theorem dX7_warm_44 : decode cX7_warm 44 = .ok (.invokestatic 43, 3) := by decide +kernel
theorem dX7_warm_47 : decode cX7_warm 47 = .ok (.ifCond .ne 6, 3) := by decide +kernel
theorem dX7_warm_50 : decode cX7_warm 50 = .ok (.ldc 92, 2) := by decide +kernel
theorem dX7_warm_52 : decode cX7_warm 52 = .ok (.ireturn, 1) := by decide +kernel
theorem dX7_warm_53 : decode cX7_warm 53 = .ok (.iconst 0, 1) := by decide +kernel
theorem dX7_warm_54 : decode cX7_warm 54 = .ok (.istore 7, 2) := by decide +kernel
theorem dX7_warm_56 : decode cX7_warm 56 = .ok (.iconst 1, 1) := by decide +kernel
theorem dX7_warm_57 : decode cX7_warm 57 = .ok (.istore 8, 2) := by decide +kernel
theorem dX7_warm_59 : decode cX7_warm 59 = .ok (.iload 8, 2) := by decide +kernel
theorem dX7_warm_61 : decode cX7_warm 61 = .ok (.aload_n 0, 1) := by decide +kernel
theorem dX7_warm_62 : decode cX7_warm 62 = .ok (.getfield 7, 3) := by decide +kernel
theorem dX7_warm_65 : decode cX7_warm 65 = .ok (.iconst 2, 1) := by decide +kernel
theorem dX7_warm_66 : decode cX7_warm 66 = .ok (.iaload, 1) := by decide +kernel
theorem dX7_warm_67 : decode cX7_warm 67 = .ok (.if_icmp .gt 70, 3) := by decide +kernel
theorem dX7_warm_70 : decode cX7_warm 70 = .ok (.iload 8, 2) := by decide +kernel
theorem dX7_warm_72 : decode cX7_warm 72 = .ok (.iload 4, 2) := by decide +kernel
theorem dX7_warm_74 : decode cX7_warm 74 = .ok (.if_icmp .le 14, 3) := by decide +kernel
theorem dX7_warm_77 : decode cX7_warm 77 = .ok (.iload 8, 2) := by decide +kernel
theorem dX7_warm_79 : decode cX7_warm 79 = .ok (.iload 5, 2) := by decide +kernel
theorem dX7_warm_81 : decode cX7_warm 81 = .ok (.if_icmp .gt 7, 3) := by decide +kernel
theorem dX7_warm_84 : decode cX7_warm 84 = .ok (.iconst 1, 1) := by decide +kernel
theorem dX7_warm_85 : decode cX7_warm 85 = .ok (.goto 4, 3) := by decide +kernel
theorem dX7_warm_88 : decode cX7_warm 88 = .ok (.iconst 0, 1) := by decide +kernel
theorem dX7_warm_89 : decode cX7_warm 89 = .ok (.istore 9, 2) := by decide +kernel
theorem dX7_warm_91 : decode cX7_warm 91 = .ok (.aload_n 0, 1) := by decide +kernel
theorem dX7_warm_92 : decode cX7_warm 92 = .ok (.iload_n 1, 1) := by decide +kernel
theorem dX7_warm_93 : decode cX7_warm 93 = .ok (.iload_n 2, 1) := by decide +kernel
theorem dX7_warm_94 : decode cX7_warm 94 = .ok (.iload 8, 2) := by decide +kernel
theorem dX7_warm_96 : decode cX7_warm 96 = .ok (.iload 6, 2) := by decide +kernel
theorem dX7_warm_98 : decode cX7_warm 98 = .ok (.invokevirtual 184, 3) := by decide +kernel
theorem dX7_warm_101 : decode cX7_warm 101 = .ok (.istore 10, 2) := by decide +kernel
theorem dX7_warm_103 : decode cX7_warm 103 = .ok (.iload 7, 2) := by decide +kernel
theorem dX7_warm_105 : decode cX7_warm 105 = .ok (.iload 9, 2) := by decide +kernel
theorem dX7_warm_107 : decode cX7_warm 107 = .ok (.ifCond .eq 20, 3) := by decide +kernel
theorem dX7_warm_110 : decode cX7_warm 110 = .ok (.iload 10, 2) := by decide +kernel
theorem dX7_warm_112 : decode cX7_warm 112 = .ok (.ldc 183, 2) := by decide +kernel
theorem dX7_warm_114 : decode cX7_warm 114 = .ok (.if_icmp .eq 13, 3) := by decide +kernel
theorem dX7_warm_117 : decode cX7_warm 117 = .ok (.iload 10, 2) := by decide +kernel
theorem dX7_warm_119 : decode cX7_warm 119 = .ok (.iload_n 3, 1) := by decide +kernel
theorem dX7_warm_120 : decode cX7_warm 120 = .ok (.if_icmp .le 7, 3) := by decide +kernel
theorem dX7_warm_123 : decode cX7_warm 123 = .ok (.iconst 1, 1) := by decide +kernel
theorem dX7_warm_124 : decode cX7_warm 124 = .ok (.goto 4, 3) := by decide +kernel
theorem dX7_warm_127 : decode cX7_warm 127 = .ok (.iconst 0, 1) := by decide +kernel
theorem dX7_warm_128 : decode cX7_warm 128 = .ok (.iadd, 1) := by decide +kernel
theorem dX7_warm_129 : decode cX7_warm 129 = .ok (.istore 7, 2) := by decide +kernel
theorem dX7_warm_131 : decode cX7_warm 131 = .ok (.iinc 8 1, 3) := by decide +kernel
theorem dX7_warm_134 : decode cX7_warm 134 = .ok (.goto (-75), 3) := by decide +kernel
theorem dX7_warm_137 : decode cX7_warm 137 = .ok (.iload 7, 2) := by decide +kernel
theorem dX7_warm_139 : decode cX7_warm 139 = .ok (.ireturn, 1) := by decide +kernel
theorem dX7_minutesLeft_0 : decode cX7_minutesLeft 0 = .ok (.aload_n 0, 1) := by decide +kernel
theorem dX7_minutesLeft_1 : decode cX7_minutesLeft 1 = .ok (.iload_n 1, 1) := by decide +kernel
theorem dX7_minutesLeft_2 : decode cX7_minutesLeft 2 = .ok (.invokevirtual 105, 3) := by decide +kernel
theorem dX7_minutesLeft_5 : decode cX7_minutesLeft 5 = .ok (.ifCond .ne 6, 3) := by decide +kernel
theorem dX7_minutesLeft_8 : decode cX7_minutesLeft 8 = .ok (.ldc 92, 2) := by decide +kernel
theorem dX7_minutesLeft_10 : decode cX7_minutesLeft 10 = .ok (.ireturn, 1) := by decide +kernel
theorem dX7_minutesLeft_11 : decode cX7_minutesLeft 11 = .ok (.aload_n 0, 1) := by decide +kernel
theorem dX7_minutesLeft_12 : decode cX7_minutesLeft 12 = .ok (.iload_n 1, 1) := by decide +kernel
theorem dX7_minutesLeft_13 : decode cX7_minutesLeft 13 = .ok (.iconst 5, 1) := by decide +kernel
theorem dX7_minutesLeft_14 : decode cX7_minutesLeft 14 = .ok (.invokevirtual 72, 3) := by decide +kernel
theorem dX7_minutesLeft_17 : decode cX7_minutesLeft 17 = .ok (.ifCond .eq 6, 3) := by decide +kernel
theorem dX7_minutesLeft_20 : decode cX7_minutesLeft 20 = .ok (.ldc 93, 2) := by decide +kernel
theorem dX7_minutesLeft_22 : decode cX7_minutesLeft 22 = .ok (.ireturn, 1) := by decide +kernel
theorem dX7_minutesLeft_23 : decode cX7_minutesLeft 23 = .ok (.aload_n 0, 1) := by decide +kernel
theorem dX7_minutesLeft_24 : decode cX7_minutesLeft 24 = .ok (.getfield 19, 3) := by decide +kernel
theorem dX7_minutesLeft_27 : decode cX7_minutesLeft 27 = .ok (.aload_n 0, 1) := by decide +kernel
theorem dX7_minutesLeft_28 : decode cX7_minutesLeft 28 = .ok (.getfield 7, 3) := by decide +kernel
theorem dX7_minutesLeft_31 : decode cX7_minutesLeft 31 = .ok (.invokestatic 35, 3) := by decide +kernel
theorem dX7_minutesLeft_34 : decode cX7_minutesLeft 34 = .ok (.aload_n 0, 1) := by decide +kernel
theorem dX7_minutesLeft_35 : decode cX7_minutesLeft 35 = .ok (.iconst 0, 1) := by decide +kernel
theorem dX7_minutesLeft_36 : decode cX7_minutesLeft 36 = .ok (.putfield 25, 3) := by decide +kernel
theorem dX7_minutesLeft_39 : decode cX7_minutesLeft 39 = .ok (.iconst 0, 1) := by decide +kernel
theorem dX7_minutesLeft_40 : decode cX7_minutesLeft 40 = .ok (.istore_n 2, 1) := by decide +kernel
theorem dX7_minutesLeft_41 : decode cX7_minutesLeft 41 = .ok (.iload_n 2, 1) := by decide +kernel
theorem dX7_minutesLeft_42 : decode cX7_minutesLeft 42 = .ok (.sipush 300, 3) := by decide +kernel
theorem dX7_minutesLeft_45 : decode cX7_minutesLeft 45 = .ok (.if_icmp .ge 30, 3) := by decide +kernel
theorem dX7_minutesLeft_48 : decode cX7_minutesLeft 48 = .ok (.aload_n 0, 1) := by decide +kernel
theorem dX7_minutesLeft_49 : decode cX7_minutesLeft 49 = .ok (.iload_n 1, 1) := by decide +kernel
theorem dX7_minutesLeft_50 : decode cX7_minutesLeft 50 = .ok (.bipush 8, 2) := by decide +kernel
theorem dX7_minutesLeft_52 : decode cX7_minutesLeft 52 = .ok (.invokevirtual 72, 3) := by decide +kernel
theorem dX7_minutesLeft_55 : decode cX7_minutesLeft 55 = .ok (.aload_n 0, 1) := by decide +kernel
theorem dX7_minutesLeft_56 : decode cX7_minutesLeft 56 = .ok (.iload_n 1, 1) := by decide +kernel
theorem dX7_minutesLeft_57 : decode cX7_minutesLeft 57 = .ok (.iconst 3, 1) := by decide +kernel
theorem dX7_minutesLeft_58 : decode cX7_minutesLeft 58 = .ok (.invokevirtual 72, 3) := by decide +kernel
theorem dX7_minutesLeft_61 : decode cX7_minutesLeft 61 = .ok (.if_icmp .gt 14, 3) := by decide +kernel
theorem dX7_minutesLeft_64 : decode cX7_minutesLeft 64 = .ok (.aload_n 0, 1) := by decide +kernel
theorem dX7_minutesLeft_65 : decode cX7_minutesLeft 65 = .ok (.invokevirtual 101, 3) := by decide +kernel
theorem dX7_minutesLeft_68 : decode cX7_minutesLeft 68 = .ok (.pop, 1) := by decide +kernel
theorem dX7_minutesLeft_69 : decode cX7_minutesLeft 69 = .ok (.iinc 2 1, 3) := by decide +kernel
theorem dX7_minutesLeft_72 : decode cX7_minutesLeft 72 = .ok (.goto (-31), 3) := by decide +kernel
theorem dX7_minutesLeft_75 : decode cX7_minutesLeft 75 = .ok (.aload_n 0, 1) := by decide +kernel
theorem dX7_minutesLeft_76 : decode cX7_minutesLeft 76 = .ok (.iload_n 1, 1) := by decide +kernel
theorem dX7_minutesLeft_77 : decode cX7_minutesLeft 77 = .ok (.bipush 8, 2) := by decide +kernel
theorem dX7_minutesLeft_79 : decode cX7_minutesLeft 79 = .ok (.invokevirtual 72, 3) := by decide +kernel
theorem dX7_minutesLeft_82 : decode cX7_minutesLeft 82 = .ok (.aload_n 0, 1) := by decide +kernel
theorem dX7_minutesLeft_83 : decode cX7_minutesLeft 83 = .ok (.iload_n 1, 1) := by decide +kernel
theorem dX7_minutesLeft_84 : decode cX7_minutesLeft 84 = .ok (.iconst 3, 1) := by decide +kernel
theorem dX7_minutesLeft_85 : decode cX7_minutesLeft 85 = .ok (.invokevirtual 72, 3) := by decide +kernel
theorem dX7_minutesLeft_88 : decode cX7_minutesLeft 88 = .ok (.if_icmp .le 7, 3) := by decide +kernel
theorem dX7_minutesLeft_91 : decode cX7_minutesLeft 91 = .ok (.iconst 1, 1) := by decide +kernel
theorem dX7_minutesLeft_92 : decode cX7_minutesLeft 92 = .ok (.goto 4, 3) := by decide +kernel
theorem dX7_minutesLeft_95 : decode cX7_minutesLeft 95 = .ok (.iconst 0, 1) := by decide +kernel
theorem dX7_minutesLeft_96 : decode cX7_minutesLeft 96 = .ok (.istore_n 3, 1) := by decide +kernel
theorem dX7_minutesLeft_97 : decode cX7_minutesLeft 97 = .ok (.aload_n 0, 1) := by decide +kernel
theorem dX7_minutesLeft_98 : decode cX7_minutesLeft 98 = .ok (.getfield 7, 3) := by decide +kernel
theorem dX7_minutesLeft_101 : decode cX7_minutesLeft 101 = .ok (.aload_n 0, 1) := by decide +kernel
theorem dX7_minutesLeft_102 : decode cX7_minutesLeft 102 = .ok (.getfield 19, 3) := by decide +kernel
theorem dX7_minutesLeft_105 : decode cX7_minutesLeft 105 = .ok (.invokestatic 35, 3) := by decide +kernel
theorem dX7_minutesLeft_108 : decode cX7_minutesLeft 108 = .ok (.aload_n 0, 1) := by decide +kernel
theorem dX7_minutesLeft_109 : decode cX7_minutesLeft 109 = .ok (.iconst 1, 1) := by decide +kernel
theorem dX7_minutesLeft_110 : decode cX7_minutesLeft 110 = .ok (.putfield 25, 3) := by decide +kernel
theorem dX7_minutesLeft_113 : decode cX7_minutesLeft 113 = .ok (.iload_n 3, 1) := by decide +kernel
theorem dX7_minutesLeft_114 : decode cX7_minutesLeft 114 = .ok (.ifCond .eq 7, 3) := by decide +kernel
theorem dX7_minutesLeft_117 : decode cX7_minutesLeft 117 = .ok (.iload_n 2, 1) := by decide +kernel
theorem dX7_minutesLeft_118 : decode cX7_minutesLeft 118 = .ok (.goto 5, 3) := by decide +kernel
theorem dX7_minutesLeft_121 : decode cX7_minutesLeft 121 = .ok (.ldc 183, 2) := by decide +kernel
theorem dX7_minutesLeft_123 : decode cX7_minutesLeft 123 = .ok (.ireturn, 1) := by decide +kernel
theorem dX7_mayBeOpen_0 : decode cX7_mayBeOpen 0 = .ok (.aload_n 0, 1) := by decide +kernel
theorem dX7_mayBeOpen_1 : decode cX7_mayBeOpen 1 = .ok (.getfield 19, 3) := by decide +kernel
theorem dX7_mayBeOpen_4 : decode cX7_mayBeOpen 4 = .ok (.aload_n 0, 1) := by decide +kernel
theorem dX7_mayBeOpen_5 : decode cX7_mayBeOpen 5 = .ok (.getfield 7, 3) := by decide +kernel
theorem dX7_mayBeOpen_8 : decode cX7_mayBeOpen 8 = .ok (.invokestatic 35, 3) := by decide +kernel
theorem dX7_mayBeOpen_11 : decode cX7_mayBeOpen 11 = .ok (.aload_n 0, 1) := by decide +kernel
theorem dX7_mayBeOpen_12 : decode cX7_mayBeOpen 12 = .ok (.iconst 0, 1) := by decide +kernel
theorem dX7_mayBeOpen_13 : decode cX7_mayBeOpen 13 = .ok (.putfield 25, 3) := by decide +kernel
theorem dX7_mayBeOpen_16 : decode cX7_mayBeOpen 16 = .ok (.iconst 0, 1) := by decide +kernel
theorem dX7_mayBeOpen_17 : decode cX7_mayBeOpen 17 = .ok (.istore_n 3, 1) := by decide +kernel
theorem dX7_mayBeOpen_18 : decode cX7_mayBeOpen 18 = .ok (.iload_n 3, 1) := by decide +kernel
theorem dX7_mayBeOpen_19 : decode cX7_mayBeOpen 19 = .ok (.bipush 60, 2) := by decide +kernel
theorem dX7_mayBeOpen_21 : decode cX7_mayBeOpen 21 = .ok (.if_icmp .ge 38, 3) := by decide +kernel
theorem dX7_mayBeOpen_24 : decode cX7_mayBeOpen 24 = .ok (.aload_n 0, 1) := by decide +kernel
theorem dX7_mayBeOpen_25 : decode cX7_mayBeOpen 25 = .ok (.getfield 7, 3) := by decide +kernel
theorem dX7_mayBeOpen_28 : decode cX7_mayBeOpen 28 = .ok (.bipush 6, 2) := by decide +kernel
theorem dX7_mayBeOpen_30 : decode cX7_mayBeOpen 30 = .ok (.bipush 19, 2) := by decide +kernel
theorem dX7_mayBeOpen_32 : decode cX7_mayBeOpen 32 = .ok (.iload_n 1, 1) := by decide +kernel
theorem dX7_mayBeOpen_33 : decode cX7_mayBeOpen 33 = .ok (.imul, 1) := by decide +kernel
theorem dX7_mayBeOpen_34 : decode cX7_mayBeOpen 34 = .ok (.iadd, 1) := by decide +kernel
theorem dX7_mayBeOpen_35 : decode cX7_mayBeOpen 35 = .ok (.iconst 2, 1) := by decide +kernel
theorem dX7_mayBeOpen_36 : decode cX7_mayBeOpen 36 = .ok (.iadd, 1) := by decide +kernel
theorem dX7_mayBeOpen_37 : decode cX7_mayBeOpen 37 = .ok (.iload_n 3, 1) := by decide +kernel
theorem dX7_mayBeOpen_38 : decode cX7_mayBeOpen 38 = .ok (.iload_n 2, 1) := by decide +kernel
theorem dX7_mayBeOpen_39 : decode cX7_mayBeOpen 39 = .ok (.if_icmp .ge 7, 3) := by decide +kernel
theorem dX7_mayBeOpen_42 : decode cX7_mayBeOpen 42 = .ok (.iconst 1, 1) := by decide +kernel
theorem dX7_mayBeOpen_43 : decode cX7_mayBeOpen 43 = .ok (.goto 4, 3) := by decide +kernel
theorem dX7_mayBeOpen_46 : decode cX7_mayBeOpen 46 = .ok (.iconst 0, 1) := by decide +kernel
theorem dX7_mayBeOpen_47 : decode cX7_mayBeOpen 47 = .ok (.iastore, 1) := by decide +kernel
theorem dX7_mayBeOpen_48 : decode cX7_mayBeOpen 48 = .ok (.aload_n 0, 1) := by decide +kernel
theorem dX7_mayBeOpen_49 : decode cX7_mayBeOpen 49 = .ok (.invokevirtual 101, 3) := by decide +kernel
theorem dX7_mayBeOpen_52 : decode cX7_mayBeOpen 52 = .ok (.pop, 1) := by decide +kernel
theorem dX7_mayBeOpen_53 : decode cX7_mayBeOpen 53 = .ok (.iinc 3 1, 3) := by decide +kernel
theorem dX7_mayBeOpen_56 : decode cX7_mayBeOpen 56 = .ok (.goto (-38), 3) := by decide +kernel
theorem dX7_mayBeOpen_59 : decode cX7_mayBeOpen 59 = .ok (.iconst 1, 1) := by decide +kernel
theorem dX7_mayBeOpen_60 : decode cX7_mayBeOpen 60 = .ok (.istore_n 3, 1) := by decide +kernel
theorem dX7_mayBeOpen_61 : decode cX7_mayBeOpen 61 = .ok (.iconst 0, 1) := by decide +kernel
theorem dX7_mayBeOpen_62 : decode cX7_mayBeOpen 62 = .ok (.istore 4, 2) := by decide +kernel
theorem dX7_mayBeOpen_64 : decode cX7_mayBeOpen 64 = .ok (.iload 4, 2) := by decide +kernel
theorem dX7_mayBeOpen_66 : decode cX7_mayBeOpen 66 = .ok (.aload_n 0, 1) := by decide +kernel
theorem dX7_mayBeOpen_67 : decode cX7_mayBeOpen 67 = .ok (.getfield 7, 3) := by decide +kernel
theorem dX7_mayBeOpen_70 : decode cX7_mayBeOpen 70 = .ok (.iconst 1, 1) := by decide +kernel
theorem dX7_mayBeOpen_71 : decode cX7_mayBeOpen 71 = .ok (.iaload, 1) := by decide +kernel
theorem dX7_mayBeOpen_72 : decode cX7_mayBeOpen 72 = .ok (.if_icmp .ge 70, 3) := by decide +kernel
theorem dX7_mayBeOpen_75 : decode cX7_mayBeOpen 75 = .ok (.aload_n 0, 1) := by decide +kernel
theorem dX7_mayBeOpen_76 : decode cX7_mayBeOpen 76 = .ok (.iload 4, 2) := by decide +kernel
theorem dX7_mayBeOpen_78 : decode cX7_mayBeOpen 78 = .ok (.iconst 5, 1) := by decide +kernel
theorem dX7_mayBeOpen_79 : decode cX7_mayBeOpen 79 = .ok (.invokevirtual 72, 3) := by decide +kernel
theorem dX7_mayBeOpen_82 : decode cX7_mayBeOpen 82 = .ok (.ifCond .ne 18, 3) := by decide +kernel
theorem dX7_mayBeOpen_85 : decode cX7_mayBeOpen 85 = .ok (.aload_n 0, 1) := by decide +kernel
theorem dX7_mayBeOpen_86 : decode cX7_mayBeOpen 86 = .ok (.iload 4, 2) := by decide +kernel
theorem dX7_mayBeOpen_88 : decode cX7_mayBeOpen 88 = .ok (.iconst 0, 1) := by decide +kernel
theorem dX7_mayBeOpen_89 : decode cX7_mayBeOpen 89 = .ok (.invokevirtual 72, 3) := by decide +kernel
theorem dX7_mayBeOpen_92 : decode cX7_mayBeOpen 92 = .ok (.iload_n 1, 1) := by decide +kernel
theorem dX7_mayBeOpen_93 : decode cX7_mayBeOpen 93 = .ok (.if_icmp .ne 7, 3) := by decide +kernel
theorem dX7_mayBeOpen_96 : decode cX7_mayBeOpen 96 = .ok (.iconst 1, 1) := by decide +kernel
theorem dX7_mayBeOpen_97 : decode cX7_mayBeOpen 97 = .ok (.goto 4, 3) := by decide +kernel
theorem dX7_mayBeOpen_100 : decode cX7_mayBeOpen 100 = .ok (.iconst 0, 1) := by decide +kernel
theorem dX7_mayBeOpen_101 : decode cX7_mayBeOpen 101 = .ok (.istore 5, 2) := by decide +kernel
theorem dX7_mayBeOpen_103 : decode cX7_mayBeOpen 103 = .ok (.iload_n 3, 1) := by decide +kernel
theorem dX7_mayBeOpen_104 : decode cX7_mayBeOpen 104 = .ok (.ifCond .eq 30, 3) := by decide +kernel
theorem dX7_mayBeOpen_107 : decode cX7_mayBeOpen 107 = .ok (.iload 5, 2) := by decide +kernel
theorem dX7_mayBeOpen_109 : decode cX7_mayBeOpen 109 = .ok (.ifCond .eq 21, 3) := by decide +kernel
theorem dX7_mayBeOpen_112 : decode cX7_mayBeOpen 112 = .ok (.aload_n 0, 1) := by decide +kernel
theorem dX7_mayBeOpen_113 : decode cX7_mayBeOpen 113 = .ok (.iload 4, 2) := by decide +kernel
theorem dX7_mayBeOpen_115 : decode cX7_mayBeOpen 115 = .ok (.bipush 8, 2) := by decide +kernel
theorem dX7_mayBeOpen_117 : decode cX7_mayBeOpen 117 = .ok (.invokevirtual 72, 3) := by decide +kernel
theorem dX7_mayBeOpen_120 : decode cX7_mayBeOpen 120 = .ok (.aload_n 0, 1) := by decide +kernel
theorem dX7_mayBeOpen_121 : decode cX7_mayBeOpen 121 = .ok (.iload 4, 2) := by decide +kernel
theorem dX7_mayBeOpen_123 : decode cX7_mayBeOpen 123 = .ok (.iconst 3, 1) := by decide +kernel
theorem dX7_mayBeOpen_124 : decode cX7_mayBeOpen 124 = .ok (.invokevirtual 72, 3) := by decide +kernel
theorem dX7_mayBeOpen_127 : decode cX7_mayBeOpen 127 = .ok (.if_icmp .gt 7, 3) := by decide +kernel
theorem dX7_mayBeOpen_130 : decode cX7_mayBeOpen 130 = .ok (.iconst 1, 1) := by decide +kernel
theorem dX7_mayBeOpen_131 : decode cX7_mayBeOpen 131 = .ok (.goto 4, 3) := by decide +kernel
theorem dX7_mayBeOpen_134 : decode cX7_mayBeOpen 134 = .ok (.iconst 0, 1) := by decide +kernel
theorem dX7_mayBeOpen_135 : decode cX7_mayBeOpen 135 = .ok (.istore_n 3, 1) := by decide +kernel
theorem dX7_mayBeOpen_136 : decode cX7_mayBeOpen 136 = .ok (.iinc 4 1, 3) := by decide +kernel
theorem dX7_mayBeOpen_139 : decode cX7_mayBeOpen 139 = .ok (.goto (-75), 3) := by decide +kernel
theorem dX7_mayBeOpen_142 : decode cX7_mayBeOpen 142 = .ok (.aload_n 0, 1) := by decide +kernel
theorem dX7_mayBeOpen_143 : decode cX7_mayBeOpen 143 = .ok (.getfield 7, 3) := by decide +kernel
theorem dX7_mayBeOpen_146 : decode cX7_mayBeOpen 146 = .ok (.aload_n 0, 1) := by decide +kernel
theorem dX7_mayBeOpen_147 : decode cX7_mayBeOpen 147 = .ok (.getfield 19, 3) := by decide +kernel
theorem dX7_mayBeOpen_150 : decode cX7_mayBeOpen 150 = .ok (.invokestatic 35, 3) := by decide +kernel
theorem dX7_mayBeOpen_153 : decode cX7_mayBeOpen 153 = .ok (.aload_n 0, 1) := by decide +kernel
theorem dX7_mayBeOpen_154 : decode cX7_mayBeOpen 154 = .ok (.iconst 1, 1) := by decide +kernel
theorem dX7_mayBeOpen_155 : decode cX7_mayBeOpen 155 = .ok (.putfield 25, 3) := by decide +kernel
theorem dX7_mayBeOpen_158 : decode cX7_mayBeOpen 158 = .ok (.iload_n 3, 1) := by decide +kernel
theorem dX7_mayBeOpen_159 : decode cX7_mayBeOpen 159 = .ok (.ireturn, 1) := by decide +kernel
theorem dX7_longestOpen_0 : decode cX7_longestOpen 0 = .ok (.aload_n 0, 1) := by decide +kernel
theorem dX7_longestOpen_1 : decode cX7_longestOpen 1 = .ok (.iload_n 1, 1) := by decide +kernel
theorem dX7_longestOpen_2 : decode cX7_longestOpen 2 = .ok (.invokevirtual 88, 3) := by decide +kernel
theorem dX7_longestOpen_5 : decode cX7_longestOpen 5 = .ok (.ifCond .ne 6, 3) := by decide +kernel
theorem dX7_longestOpen_8 : decode cX7_longestOpen 8 = .ok (.ldc 92, 2) := by decide +kernel
theorem dX7_longestOpen_10 : decode cX7_longestOpen 10 = .ok (.ireturn, 1) := by decide +kernel
theorem dX7_longestOpen_11 : decode cX7_longestOpen 11 = .ok (.bipush 60, 2) := by decide +kernel
theorem dX7_longestOpen_13 : decode cX7_longestOpen 13 = .ok (.istore_n 2, 1) := by decide +kernel
theorem dX7_longestOpen_14 : decode cX7_longestOpen 14 = .ok (.iload_n 2, 1) := by decide +kernel
theorem dX7_longestOpen_15 : decode cX7_longestOpen 15 = .ok (.ifCond .lt 20, 3) := by decide +kernel
theorem dX7_longestOpen_18 : decode cX7_longestOpen 18 = .ok (.aload_n 0, 1) := by decide +kernel
theorem dX7_longestOpen_19 : decode cX7_longestOpen 19 = .ok (.iload_n 1, 1) := by decide +kernel
theorem dX7_longestOpen_20 : decode cX7_longestOpen 20 = .ok (.iload_n 2, 1) := by decide +kernel
theorem dX7_longestOpen_21 : decode cX7_longestOpen 21 = .ok (.invokevirtual 188, 3) := by decide +kernel
theorem dX7_longestOpen_24 : decode cX7_longestOpen 24 = .ok (.ifCond .eq 5, 3) := by decide +kernel
theorem dX7_longestOpen_27 : decode cX7_longestOpen 27 = .ok (.iload_n 2, 1) := by decide +kernel
theorem dX7_longestOpen_28 : decode cX7_longestOpen 28 = .ok (.ireturn, 1) := by decide +kernel
theorem dX7_longestOpen_29 : decode cX7_longestOpen 29 = .ok (.iinc 2 (-1), 3) := by decide +kernel
theorem dX7_longestOpen_32 : decode cX7_longestOpen 32 = .ok (.goto (-18), 3) := by decide +kernel
theorem dX7_longestOpen_35 : decode cX7_longestOpen 35 = .ok (.ldc 183, 2) := by decide +kernel
theorem dX7_longestOpen_37 : decode cX7_longestOpen 37 = .ok (.ireturn, 1) := by decide +kernel
theorem dX7_undo_0 : decode cX7_undo 0 = .ok (.aload_n 0, 1) := by decide +kernel
theorem dX7_undo_1 : decode cX7_undo 1 = .ok (.getfield 39, 3) := by decide +kernel
theorem dX7_undo_4 : decode cX7_undo 4 = .ok (.ifCond .ne 6, 3) := by decide +kernel
theorem dX7_undo_7 : decode cX7_undo 7 = .ok (.ldc 93, 2) := by decide +kernel
theorem dX7_undo_9 : decode cX7_undo 9 = .ok (.ireturn, 1) := by decide +kernel
theorem dX7_undo_10 : decode cX7_undo 10 = .ok (.aload_n 0, 1) := by decide +kernel
theorem dX7_undo_11 : decode cX7_undo 11 = .ok (.dup, 1) := by decide +kernel
theorem dX7_undo_12 : decode cX7_undo 12 = .ok (.getfield 39, 3) := by decide +kernel
theorem dX7_undo_15 : decode cX7_undo 15 = .ok (.iconst 1, 1) := by decide +kernel
theorem dX7_undo_16 : decode cX7_undo 16 = .ok (.isub, 1) := by decide +kernel
theorem dX7_undo_17 : decode cX7_undo 17 = .ok (.putfield 39, 3) := by decide +kernel
theorem dX7_undo_20 : decode cX7_undo 20 = .ok (.iconst 0, 1) := by decide +kernel
theorem dX7_undo_21 : decode cX7_undo 21 = .ok (.istore_n 1, 1) := by decide +kernel
theorem dX7_undo_22 : decode cX7_undo 22 = .ok (.iload_n 1, 1) := by decide +kernel
theorem dX7_undo_23 : decode cX7_undo 23 = .ok (.sipush 183, 3) := by decide +kernel
theorem dX7_undo_26 : decode cX7_undo 26 = .ok (.if_icmp .ge 30, 3) := by decide +kernel
theorem dX7_undo_29 : decode cX7_undo 29 = .ok (.aload_n 0, 1) := by decide +kernel
theorem dX7_undo_30 : decode cX7_undo 30 = .ok (.getfield 7, 3) := by decide +kernel
theorem dX7_undo_33 : decode cX7_undo 33 = .ok (.iload_n 1, 1) := by decide +kernel
theorem dX7_undo_34 : decode cX7_undo 34 = .ok (.aload_n 0, 1) := by decide +kernel
theorem dX7_undo_35 : decode cX7_undo 35 = .ok (.getfield 13, 3) := by decide +kernel
theorem dX7_undo_38 : decode cX7_undo 38 = .ok (.sipush 183, 3) := by decide +kernel
theorem dX7_undo_41 : decode cX7_undo 41 = .ok (.aload_n 0, 1) := by decide +kernel
theorem dX7_undo_42 : decode cX7_undo 42 = .ok (.getfield 39, 3) := by decide +kernel
theorem dX7_undo_45 : decode cX7_undo 45 = .ok (.imul, 1) := by decide +kernel
theorem dX7_undo_46 : decode cX7_undo 46 = .ok (.iload_n 1, 1) := by decide +kernel
theorem dX7_undo_47 : decode cX7_undo 47 = .ok (.iadd, 1) := by decide +kernel
theorem dX7_undo_48 : decode cX7_undo 48 = .ok (.iaload, 1) := by decide +kernel
theorem dX7_undo_49 : decode cX7_undo 49 = .ok (.iastore, 1) := by decide +kernel
theorem dX7_undo_50 : decode cX7_undo 50 = .ok (.iinc 1 1, 3) := by decide +kernel
theorem dX7_undo_53 : decode cX7_undo 53 = .ok (.goto (-31), 3) := by decide +kernel
theorem dX7_undo_56 : decode cX7_undo 56 = .ok (.aload_n 0, 1) := by decide +kernel
theorem dX7_undo_57 : decode cX7_undo 57 = .ok (.getfield 39, 3) := by decide +kernel
theorem dX7_undo_60 : decode cX7_undo 60 = .ok (.ireturn, 1) := by decide +kernel
