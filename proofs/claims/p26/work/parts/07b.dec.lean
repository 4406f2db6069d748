theorem dX3_init_0 : decode cX3_init 0 = .ok (.aload_n 0, 1) := by decide +kernel
theorem dX3_init_1 : decode cX3_init 1 = .ok (.invokespecial 3, 3) := by decide +kernel
theorem dX3_init_4 : decode cX3_init 4 = .ok (.aload_n 0, 1) := by decide +kernel
theorem dX3_init_5 : decode cX3_init 5 = .ok (.sipush 200, 3) := by decide +kernel
theorem dX3_init_8 : decode cX3_init 8 = .ok (.putfield 9, 3) := by decide +kernel
theorem dX3_init_11 : decode cX3_init 11 = .ok (.aload_n 0, 1) := by decide +kernel
theorem dX3_init_12 : decode cX3_init 12 = .ok (.bipush 30, 2) := by decide +kernel
theorem dX3_init_14 : decode cX3_init 14 = .ok (.putfield 15, 3) := by decide +kernel
theorem dX3_init_17 : decode cX3_init 17 = .ok (.aload_n 0, 1) := by decide +kernel
theorem dX3_init_18 : decode cX3_init 18 = .ok (.iconst 3, 1) := by decide +kernel
theorem dX3_init_19 : decode cX3_init 19 = .ok (.putfield 18, 3) := by decide +kernel
theorem dX3_init_22 : decode cX3_init 22 = .ok (.aload_n 0, 1) := by decide +kernel
theorem dX3_init_23 : decode cX3_init 23 = .ok (.iconst 3, 1) := by decide +kernel
theorem dX3_init_24 : decode cX3_init 24 = .ok (.anewarray 21, 3) := by decide +kernel
theorem dX3_init_27 : decode cX3_init 27 = .ok (.putfield 23, 3) := by decide +kernel
theorem dX3_init_30 : decode cX3_init 30 = .ok (.aload_n 0, 1) := by decide +kernel
theorem dX3_init_31 : decode cX3_init 31 = .ok (.bipush 12, 2) := by decide +kernel
theorem dX3_init_33 : decode cX3_init 33 = .ok (.anewarray 27, 3) := by decide +kernel
theorem dX3_init_36 : decode cX3_init 36 = .ok (.putfield 29, 3) := by decide +kernel
theorem dX3_init_39 : decode cX3_init 39 = .ok (.iconst 0, 1) := by decide +kernel
theorem dX3_init_40 : decode cX3_init 40 = .ok (.istore_n 1, 1) := by decide +kernel
theorem dX3_init_41 : decode cX3_init 41 = .ok (.iload_n 1, 1) := by decide +kernel
theorem dX3_init_42 : decode cX3_init 42 = .ok (.iconst 3, 1) := by decide +kernel
theorem dX3_init_43 : decode cX3_init 43 = .ok (.if_icmp .ge 22, 3) := by decide +kernel
theorem dX3_init_46 : decode cX3_init 46 = .ok (.aload_n 0, 1) := by decide +kernel
theorem dX3_init_47 : decode cX3_init 47 = .ok (.getfield 23, 3) := by decide +kernel
theorem dX3_init_50 : decode cX3_init 50 = .ok (.iload_n 1, 1) := by decide +kernel
theorem dX3_init_51 : decode cX3_init 51 = .ok (.new 21, 3) := by decide +kernel
theorem dX3_init_54 : decode cX3_init 54 = .ok (.dup, 1) := by decide +kernel
theorem dX3_init_55 : decode cX3_init 55 = .ok (.invokespecial 33, 3) := by decide +kernel
theorem dX3_init_58 : decode cX3_init 58 = .ok (.aastore, 1) := by decide +kernel
theorem dX3_init_59 : decode cX3_init 59 = .ok (.iinc 1 1, 3) := by decide +kernel
theorem dX3_init_62 : decode cX3_init 62 = .ok (.goto (-21), 3) := by decide +kernel
theorem dX3_init_65 : decode cX3_init 65 = .ok (.iconst 0, 1) := by decide +kernel
theorem dX3_init_66 : decode cX3_init 66 = .ok (.istore_n 1, 1) := by decide +kernel
theorem dX3_init_67 : decode cX3_init 67 = .ok (.iload_n 1, 1) := by decide +kernel
theorem dX3_init_68 : decode cX3_init 68 = .ok (.bipush 12, 2) := by decide +kernel
theorem dX3_init_70 : decode cX3_init 70 = .ok (.if_icmp .ge 22, 3) := by decide +kernel
theorem dX3_init_73 : decode cX3_init 73 = .ok (.aload_n 0, 1) := by decide +kernel
theorem dX3_init_74 : decode cX3_init 74 = .ok (.getfield 29, 3) := by decide +kernel
theorem dX3_init_77 : decode cX3_init 77 = .ok (.iload_n 1, 1) := by decide +kernel
theorem dX3_init_78 : decode cX3_init 78 = .ok (.new 27, 3) := by decide +kernel
theorem dX3_init_81 : decode cX3_init 81 = .ok (.dup, 1) := by decide +kernel
theorem dX3_init_82 : decode cX3_init 82 = .ok (.invokespecial 34, 3) := by decide +kernel
theorem dX3_init_85 : decode cX3_init 85 = .ok (.aastore, 1) := by decide +kernel
theorem dX3_init_86 : decode cX3_init 86 = .ok (.iinc 1 1, 3) := by decide +kernel
theorem dX3_init_89 : decode cX3_init 89 = .ok (.goto (-22), 3) := by decide +kernel
theorem dX3_init_92 : decode cX3_init 92 = .ok (.return_, 1) := by decide +kernel
theorem dX3_copyFrom_0 : decode cX3_copyFrom 0 = .ok (.aload_n 0, 1) := by decide +kernel
theorem dX3_copyFrom_1 : decode cX3_copyFrom 1 = .ok (.aload_n 1, 1) := by decide +kernel
theorem dX3_copyFrom_2 : decode cX3_copyFrom 2 = .ok (.getfield 35, 3) := by decide +kernel
theorem dX3_copyFrom_5 : decode cX3_copyFrom 5 = .ok (.putfield 35, 3) := by decide +kernel
theorem dX3_copyFrom_8 : decode cX3_copyFrom 8 = .ok (.aload_n 0, 1) := by decide +kernel
theorem dX3_copyFrom_9 : decode cX3_copyFrom 9 = .ok (.aload_n 1, 1) := by decide +kernel
theorem dX3_copyFrom_10 : decode cX3_copyFrom 10 = .ok (.getfield 9, 3) := by decide +kernel
theorem dX3_copyFrom_13 : decode cX3_copyFrom 13 = .ok (.putfield 9, 3) := by decide +kernel
theorem dX3_copyFrom_16 : decode cX3_copyFrom 16 = .ok (.aload_n 0, 1) := by decide +kernel
theorem dX3_copyFrom_17 : decode cX3_copyFrom 17 = .ok (.aload_n 1, 1) := by decide +kernel
theorem dX3_copyFrom_18 : decode cX3_copyFrom 18 = .ok (.getfield 15, 3) := by decide +kernel
theorem dX3_copyFrom_21 : decode cX3_copyFrom 21 = .ok (.putfield 15, 3) := by decide +kernel
theorem dX3_copyFrom_24 : decode cX3_copyFrom 24 = .ok (.aload_n 0, 1) := by decide +kernel
theorem dX3_copyFrom_25 : decode cX3_copyFrom 25 = .ok (.aload_n 1, 1) := by decide +kernel
theorem dX3_copyFrom_26 : decode cX3_copyFrom 26 = .ok (.getfield 18, 3) := by decide +kernel
theorem dX3_copyFrom_29 : decode cX3_copyFrom 29 = .ok (.putfield 18, 3) := by decide +kernel
theorem dX3_copyFrom_32 : decode cX3_copyFrom 32 = .ok (.aload_n 0, 1) := by decide +kernel
theorem dX3_copyFrom_33 : decode cX3_copyFrom 33 = .ok (.aload_n 1, 1) := by decide +kernel
theorem dX3_copyFrom_34 : decode cX3_copyFrom 34 = .ok (.getfield 38, 3) := by decide +kernel
theorem dX3_copyFrom_37 : decode cX3_copyFrom 37 = .ok (.putfield 38, 3) := by decide +kernel
theorem dX3_copyFrom_40 : decode cX3_copyFrom 40 = .ok (.aload_n 0, 1) := by decide +kernel
theorem dX3_copyFrom_41 : decode cX3_copyFrom 41 = .ok (.aload_n 1, 1) := by decide +kernel
theorem dX3_copyFrom_42 : decode cX3_copyFrom 42 = .ok (.getfield 41, 3) := by decide +kernel
theorem dX3_copyFrom_45 : decode cX3_copyFrom 45 = .ok (.putfield 41, 3) := by decide +kernel
theorem dX3_copyFrom_48 : decode cX3_copyFrom 48 = .ok (.iconst 0, 1) := by decide +kernel
theorem dX3_copyFrom_49 : decode cX3_copyFrom 49 = .ok (.istore_n 2, 1) := by decide +kernel
theorem dX3_copyFrom_50 : decode cX3_copyFrom 50 = .ok (.iload_n 2, 1) := by decide +kernel
theorem dX3_copyFrom_51 : decode cX3_copyFrom 51 = .ok (.iconst 3, 1) := by decide +kernel
theorem dX3_copyFrom_52 : decode cX3_copyFrom 52 = .ok (.if_icmp .ge 24, 3) := by decide +kernel
theorem dX3_copyFrom_55 : decode cX3_copyFrom 55 = .ok (.aload_n 0, 1) := by decide +kernel
theorem dX3_copyFrom_56 : decode cX3_copyFrom 56 = .ok (.getfield 23, 3) := by decide +kernel
theorem dX3_copyFrom_59 : decode cX3_copyFrom 59 = .ok (.iload_n 2, 1) := by decide +kernel
theorem dX3_copyFrom_60 : decode cX3_copyFrom 60 = .ok (.aaload, 1) := by decide +kernel
theorem dX3_copyFrom_61 : decode cX3_copyFrom 61 = .ok (.aload_n 1, 1) := by decide +kernel
theorem dX3_copyFrom_62 : decode cX3_copyFrom 62 = .ok (.getfield 23, 3) := by decide +kernel
theorem dX3_copyFrom_65 : decode cX3_copyFrom 65 = .ok (.iload_n 2, 1) := by decide +kernel
theorem dX3_copyFrom_66 : decode cX3_copyFrom 66 = .ok (.aaload, 1) := by decide +kernel
theorem dX3_copyFrom_67 : decode cX3_copyFrom 67 = .ok (.invokevirtual 44, 3) := by decide +kernel
theorem dX3_copyFrom_70 : decode cX3_copyFrom 70 = .ok (.iinc 2 1, 3) := by decide +kernel
theorem dX3_copyFrom_73 : decode cX3_copyFrom 73 = .ok (.goto (-23), 3) := by decide +kernel
theorem dX3_copyFrom_76 : decode cX3_copyFrom 76 = .ok (.iconst 0, 1) := by decide +kernel
theorem dX3_copyFrom_77 : decode cX3_copyFrom 77 = .ok (.istore_n 2, 1) := by decide +kernel
theorem dX3_copyFrom_78 : decode cX3_copyFrom 78 = .ok (.iload_n 2, 1) := by decide +kernel
theorem dX3_copyFrom_79 : decode cX3_copyFrom 79 = .ok (.bipush 12, 2) := by decide +kernel
theorem dX3_copyFrom_81 : decode cX3_copyFrom 81 = .ok (.if_icmp .ge 24, 3) := by decide +kernel
theorem dX3_copyFrom_84 : decode cX3_copyFrom 84 = .ok (.aload_n 0, 1) := by decide +kernel
theorem dX3_copyFrom_85 : decode cX3_copyFrom 85 = .ok (.getfield 29, 3) := by decide +kernel
theorem dX3_copyFrom_88 : decode cX3_copyFrom 88 = .ok (.iload_n 2, 1) := by decide +kernel
theorem dX3_copyFrom_89 : decode cX3_copyFrom 89 = .ok (.aaload, 1) := by decide +kernel
theorem dX3_copyFrom_90 : decode cX3_copyFrom 90 = .ok (.aload_n 1, 1) := by decide +kernel
theorem dX3_copyFrom_91 : decode cX3_copyFrom 91 = .ok (.getfield 29, 3) := by decide +kernel
theorem dX3_copyFrom_94 : decode cX3_copyFrom 94 = .ok (.iload_n 2, 1) := by decide +kernel
theorem dX3_copyFrom_95 : decode cX3_copyFrom 95 = .ok (.aaload, 1) := by decide +kernel
theorem dX3_copyFrom_96 : decode cX3_copyFrom 96 = .ok (.invokevirtual 48, 3) := by decide +kernel
theorem dX3_copyFrom_99 : decode cX3_copyFrom 99 = .ok (.iinc 2 1, 3) := by decide +kernel
theorem dX3_copyFrom_102 : decode cX3_copyFrom 102 = .ok (.goto (-24), 3) := by decide +kernel
theorem dX3_copyFrom_105 : decode cX3_copyFrom 105 = .ok (.return_, 1) := by decide +kernel
theorem dX3_hasVan_0 : decode cX3_hasVan 0 = .ok (.iload_n 1, 1) := by decide +kernel
theorem dX3_hasVan_1 : decode cX3_hasVan 1 = .ok (.ifCond .lt 15, 3) := by decide +kernel
theorem dX3_hasVan_4 : decode cX3_hasVan 4 = .ok (.iload_n 1, 1) := by decide +kernel
theorem dX3_hasVan_5 : decode cX3_hasVan 5 = .ok (.aload_n 0, 1) := by decide +kernel
theorem dX3_hasVan_6 : decode cX3_hasVan 6 = .ok (.getfield 38, 3) := by decide +kernel
theorem dX3_hasVan_9 : decode cX3_hasVan 9 = .ok (.if_icmp .ge 7, 3) := by decide +kernel
theorem dX3_hasVan_12 : decode cX3_hasVan 12 = .ok (.iconst 1, 1) := by decide +kernel
theorem dX3_hasVan_13 : decode cX3_hasVan 13 = .ok (.goto 4, 3) := by decide +kernel
theorem dX3_hasVan_16 : decode cX3_hasVan 16 = .ok (.iconst 0, 1) := by decide +kernel
theorem dX3_hasVan_17 : decode cX3_hasVan 17 = .ok (.ireturn, 1) := by decide +kernel
theorem dX3_hasZone_0 : decode cX3_hasZone 0 = .ok (.aload_n 0, 1) := by decide +kernel
theorem dX3_hasZone_1 : decode cX3_hasZone 1 = .ok (.iload_n 1, 1) := by decide +kernel
theorem dX3_hasZone_2 : decode cX3_hasZone 2 = .ok (.invokevirtual 51, 3) := by decide +kernel
theorem dX3_hasZone_5 : decode cX3_hasZone 5 = .ok (.ifCond .eq 16, 3) := by decide +kernel
theorem dX3_hasZone_8 : decode cX3_hasZone 8 = .ok (.iload_n 2, 1) := by decide +kernel
theorem dX3_hasZone_9 : decode cX3_hasZone 9 = .ok (.iconst 0, 1) := by decide +kernel
theorem dX3_hasZone_10 : decode cX3_hasZone 10 = .ok (.iconst 2, 1) := by decide +kernel
theorem dX3_hasZone_11 : decode cX3_hasZone 11 = .ok (.invokestatic 55, 3) := by decide +kernel
theorem dX3_hasZone_14 : decode cX3_hasZone 14 = .ok (.ifCond .eq 7, 3) := by decide +kernel
theorem dX3_hasZone_17 : decode cX3_hasZone 17 = .ok (.iconst 1, 1) := by decide +kernel
theorem dX3_hasZone_18 : decode cX3_hasZone 18 = .ok (.goto 4, 3) := by decide +kernel
theorem dX3_hasZone_21 : decode cX3_hasZone 21 = .ok (.iconst 0, 1) := by decide +kernel
theorem dX3_hasZone_22 : decode cX3_hasZone 22 = .ok (.ireturn, 1) := by decide +kernel
theorem dX3_hasPallet_0 : decode cX3_hasPallet 0 = .ok (.iload_n 1, 1) := by decide +kernel
theorem dX3_hasPallet_1 : decode cX3_hasPallet 1 = .ok (.ifCond .lt 15, 3) := by decide +kernel
theorem dX3_hasPallet_4 : decode cX3_hasPallet 4 = .ok (.iload_n 1, 1) := by decide +kernel
theorem dX3_hasPallet_5 : decode cX3_hasPallet 5 = .ok (.aload_n 0, 1) := by decide +kernel
theorem dX3_hasPallet_6 : decode cX3_hasPallet 6 = .ok (.getfield 41, 3) := by decide +kernel
theorem dX3_hasPallet_9 : decode cX3_hasPallet 9 = .ok (.if_icmp .ge 7, 3) := by decide +kernel
theorem dX3_hasPallet_12 : decode cX3_hasPallet 12 = .ok (.iconst 1, 1) := by decide +kernel
theorem dX3_hasPallet_13 : decode cX3_hasPallet 13 = .ok (.goto 4, 3) := by decide +kernel
theorem dX3_hasPallet_16 : decode cX3_hasPallet 16 = .ok (.iconst 0, 1) := by decide +kernel
theorem dX3_hasPallet_17 : decode cX3_hasPallet 17 = .ok (.ireturn, 1) := by decide +kernel
theorem dX3_foundProbes_0 : decode cX3_foundProbes 0 = .ok (.iconst 0, 1) := by decide +kernel
theorem dX3_foundProbes_1 : decode cX3_foundProbes 1 = .ok (.istore_n 1, 1) := by decide +kernel
theorem dX3_foundProbes_2 : decode cX3_foundProbes 2 = .ok (.iconst 0, 1) := by decide +kernel
theorem dX3_foundProbes_3 : decode cX3_foundProbes 3 = .ok (.istore_n 2, 1) := by decide +kernel
theorem dX3_foundProbes_4 : decode cX3_foundProbes 4 = .ok (.iload_n 2, 1) := by decide +kernel
theorem dX3_foundProbes_5 : decode cX3_foundProbes 5 = .ok (.aload_n 0, 1) := by decide +kernel
theorem dX3_foundProbes_6 : decode cX3_foundProbes 6 = .ok (.getfield 38, 3) := by decide +kernel
theorem dX3_foundProbes_9 : decode cX3_foundProbes 9 = .ok (.if_icmp .ge 42, 3) := by decide +kernel
theorem dX3_foundProbes_12 : decode cX3_foundProbes 12 = .ok (.iconst 0, 1) := by decide +kernel
theorem dX3_foundProbes_13 : decode cX3_foundProbes 13 = .ok (.istore_n 3, 1) := by decide +kernel
theorem dX3_foundProbes_14 : decode cX3_foundProbes 14 = .ok (.iload_n 3, 1) := by decide +kernel
theorem dX3_foundProbes_15 : decode cX3_foundProbes 15 = .ok (.iconst 3, 1) := by decide +kernel
theorem dX3_foundProbes_16 : decode cX3_foundProbes 16 = .ok (.if_icmp .ge 29, 3) := by decide +kernel
theorem dX3_foundProbes_19 : decode cX3_foundProbes 19 = .ok (.aload_n 0, 1) := by decide +kernel
theorem dX3_foundProbes_20 : decode cX3_foundProbes 20 = .ok (.getfield 23, 3) := by decide +kernel
theorem dX3_foundProbes_23 : decode cX3_foundProbes 23 = .ok (.iload_n 2, 1) := by decide +kernel
theorem dX3_foundProbes_24 : decode cX3_foundProbes 24 = .ok (.aaload, 1) := by decide +kernel
theorem dX3_foundProbes_25 : decode cX3_foundProbes 25 = .ok (.getfield 59, 3) := by decide +kernel
theorem dX3_foundProbes_28 : decode cX3_foundProbes 28 = .ok (.iload_n 3, 1) := by decide +kernel
theorem dX3_foundProbes_29 : decode cX3_foundProbes 29 = .ok (.aaload, 1) := by decide +kernel
theorem dX3_foundProbes_30 : decode cX3_foundProbes 30 = .ok (.getfield 63, 3) := by decide +kernel
theorem dX3_foundProbes_33 : decode cX3_foundProbes 33 = .ok (.ifCond .eq 6, 3) := by decide +kernel
theorem dX3_foundProbes_36 : decode cX3_foundProbes 36 = .ok (.iinc 1 1, 3) := by decide +kernel
theorem dX3_foundProbes_39 : decode cX3_foundProbes 39 = .ok (.iinc 3 1, 3) := by decide +kernel
theorem dX3_foundProbes_42 : decode cX3_foundProbes 42 = .ok (.goto (-28), 3) := by decide +kernel
theorem dX3_foundProbes_45 : decode cX3_foundProbes 45 = .ok (.iinc 2 1, 3) := by decide +kernel
theorem dX3_foundProbes_48 : decode cX3_foundProbes 48 = .ok (.goto (-44), 3) := by decide +kernel
theorem dX3_foundProbes_51 : decode cX3_foundProbes 51 = .ok (.iload_n 1, 1) := by decide +kernel
theorem dX3_foundProbes_52 : decode cX3_foundProbes 52 = .ok (.ireturn, 1) := by decide +kernel
theorem dX3_palletsIn_0 : decode cX3_palletsIn 0 = .ok (.iconst 0, 1) := by decide +kernel
theorem dX3_palletsIn_1 : decode cX3_palletsIn 1 = .ok (.istore_n 2, 1) := by decide +kernel
theorem dX3_palletsIn_2 : decode cX3_palletsIn 2 = .ok (.iconst 0, 1) := by decide +kernel
theorem dX3_palletsIn_3 : decode cX3_palletsIn 3 = .ok (.istore_n 3, 1) := by decide +kernel
theorem dX3_palletsIn_4 : decode cX3_palletsIn 4 = .ok (.iload_n 3, 1) := by decide +kernel
theorem dX3_palletsIn_5 : decode cX3_palletsIn 5 = .ok (.aload_n 0, 1) := by decide +kernel
theorem dX3_palletsIn_6 : decode cX3_palletsIn 6 = .ok (.getfield 41, 3) := by decide +kernel
theorem dX3_palletsIn_9 : decode cX3_palletsIn 9 = .ok (.if_icmp .ge 28, 3) := by decide +kernel
theorem dX3_palletsIn_12 : decode cX3_palletsIn 12 = .ok (.aload_n 0, 1) := by decide +kernel
theorem dX3_palletsIn_13 : decode cX3_palletsIn 13 = .ok (.getfield 29, 3) := by decide +kernel
theorem dX3_palletsIn_16 : decode cX3_palletsIn 16 = .ok (.iload_n 3, 1) := by decide +kernel
theorem dX3_palletsIn_17 : decode cX3_palletsIn 17 = .ok (.aaload, 1) := by decide +kernel
theorem dX3_palletsIn_18 : decode cX3_palletsIn 18 = .ok (.iload_n 1, 1) := by decide +kernel
theorem dX3_palletsIn_19 : decode cX3_palletsIn 19 = .ok (.invokevirtual 69, 3) := by decide +kernel
theorem dX3_palletsIn_22 : decode cX3_palletsIn 22 = .ok (.ifCond .eq 9, 3) := by decide +kernel
theorem dX3_palletsIn_25 : decode cX3_palletsIn 25 = .ok (.iload_n 2, 1) := by decide +kernel
theorem dX3_palletsIn_26 : decode cX3_palletsIn 26 = .ok (.iconst 1, 1) := by decide +kernel
theorem dX3_palletsIn_27 : decode cX3_palletsIn 27 = .ok (.iload_n 3, 1) := by decide +kernel
theorem dX3_palletsIn_28 : decode cX3_palletsIn 28 = .ok (.ishl, 1) := by decide +kernel
theorem dX3_palletsIn_29 : decode cX3_palletsIn 29 = .ok (.ior, 1) := by decide +kernel
theorem dX3_palletsIn_30 : decode cX3_palletsIn 30 = .ok (.istore_n 2, 1) := by decide +kernel
theorem dX3_palletsIn_31 : decode cX3_palletsIn 31 = .ok (.iinc 3 1, 3) := by decide +kernel
theorem dX3_palletsIn_34 : decode cX3_palletsIn 34 = .ok (.goto (-30), 3) := by decide +kernel
theorem dX3_palletsIn_37 : decode cX3_palletsIn 37 = .ok (.iload_n 2, 1) := by decide +kernel
theorem dX3_palletsIn_38 : decode cX3_palletsIn 38 = .ok (.ireturn, 1) := by decide +kernel
theorem dX3_palletsInZone_0 : decode cX3_palletsInZone 0 = .ok (.iconst 0, 1) := by decide +kernel
theorem dX3_palletsInZone_1 : decode cX3_palletsInZone 1 = .ok (.istore_n 3, 1) := by decide +kernel
theorem dX3_palletsInZone_2 : decode cX3_palletsInZone 2 = .ok (.iconst 0, 1) := by decide +kernel
theorem dX3_palletsInZone_3 : decode cX3_palletsInZone 3 = .ok (.istore 4, 2) := by decide +kernel
theorem dX3_palletsInZone_5 : decode cX3_palletsInZone 5 = .ok (.iload 4, 2) := by decide +kernel
theorem dX3_palletsInZone_7 : decode cX3_palletsInZone 7 = .ok (.aload_n 0, 1) := by decide +kernel
theorem dX3_palletsInZone_8 : decode cX3_palletsInZone 8 = .ok (.getfield 41, 3) := by decide +kernel
theorem dX3_palletsInZone_11 : decode cX3_palletsInZone 11 = .ok (.if_icmp .ge 40, 3) := by decide +kernel
theorem dX3_palletsInZone_14 : decode cX3_palletsInZone 14 = .ok (.aload_n 0, 1) := by decide +kernel
theorem dX3_palletsInZone_15 : decode cX3_palletsInZone 15 = .ok (.getfield 29, 3) := by decide +kernel
theorem dX3_palletsInZone_18 : decode cX3_palletsInZone 18 = .ok (.iload 4, 2) := by decide +kernel
theorem dX3_palletsInZone_20 : decode cX3_palletsInZone 20 = .ok (.aaload, 1) := by decide +kernel
theorem dX3_palletsInZone_21 : decode cX3_palletsInZone 21 = .ok (.iload_n 1, 1) := by decide +kernel
theorem dX3_palletsInZone_22 : decode cX3_palletsInZone 22 = .ok (.invokevirtual 69, 3) := by decide +kernel
theorem dX3_palletsInZone_25 : decode cX3_palletsInZone 25 = .ok (.ifCond .eq 20, 3) := by decide +kernel
theorem dX3_palletsInZone_28 : decode cX3_palletsInZone 28 = .ok (.aload_n 0, 1) := by decide +kernel
theorem dX3_palletsInZone_29 : decode cX3_palletsInZone 29 = .ok (.getfield 29, 3) := by decide +kernel
theorem dX3_palletsInZone_32 : decode cX3_palletsInZone 32 = .ok (.iload 4, 2) := by decide +kernel
theorem dX3_palletsInZone_34 : decode cX3_palletsInZone 34 = .ok (.aaload, 1) := by decide +kernel
theorem dX3_palletsInZone_35 : decode cX3_palletsInZone 35 = .ok (.getfield 72, 3) := by decide +kernel
theorem dX3_palletsInZone_38 : decode cX3_palletsInZone 38 = .ok (.iload_n 2, 1) := by decide +kernel
theorem dX3_palletsInZone_39 : decode cX3_palletsInZone 39 = .ok (.if_icmp .ne 6, 3) := by decide +kernel
theorem dX3_palletsInZone_42 : decode cX3_palletsInZone 42 = .ok (.iinc 3 1, 3) := by decide +kernel
theorem dX3_palletsInZone_45 : decode cX3_palletsInZone 45 = .ok (.iinc 4 1, 3) := by decide +kernel
theorem dX3_palletsInZone_48 : decode cX3_palletsInZone 48 = .ok (.goto (-43), 3) := by decide +kernel
theorem dX3_palletsInZone_51 : decode cX3_palletsInZone 51 = .ok (.iload_n 3, 1) := by decide +kernel
theorem dX3_palletsInZone_52 : decode cX3_palletsInZone 52 = .ok (.ireturn, 1) := by decide +kernel
theorem dX3_putVan_0 : decode cX3_putVan 0 = .ok (.iload_n 1, 1) := by decide +kernel
theorem dX3_putVan_1 : decode cX3_putVan 1 = .ok (.iload_n 2, 1) := by decide +kernel
theorem dX3_putVan_2 : decode cX3_putVan 2 = .ok (.invokestatic 79, 3) := by decide +kernel
theorem dX3_putVan_5 : decode cX3_putVan 5 = .ok (.ifCond .ne 6, 3) := by decide +kernel
theorem dX3_putVan_8 : decode cX3_putVan 8 = .ok (.ldc 83, 2) := by decide +kernel
theorem dX3_putVan_10 : decode cX3_putVan 10 = .ok (.ireturn, 1) := by decide +kernel
theorem dX3_putVan_11 : decode cX3_putVan 11 = .ok (.aload_n 0, 1) := by decide +kernel
theorem dX3_putVan_12 : decode cX3_putVan 12 = .ok (.getfield 38, 3) := by decide +kernel
theorem dX3_putVan_15 : decode cX3_putVan 15 = .ok (.iconst 3, 1) := by decide +kernel
theorem dX3_putVan_16 : decode cX3_putVan 16 = .ok (.if_icmp .lt 6, 3) := by decide +kernel
theorem dX3_putVan_19 : decode cX3_putVan 19 = .ok (.ldc 84, 2) := by decide +kernel
theorem dX3_putVan_21 : decode cX3_putVan 21 = .ok (.ireturn, 1) := by decide +kernel
theorem dX3_putVan_22 : decode cX3_putVan 22 = .ok (.aload_n 0, 1) := by decide +kernel
theorem dX3_putVan_23 : decode cX3_putVan 23 = .ok (.getfield 38, 3) := by decide +kernel
theorem dX3_putVan_26 : decode cX3_putVan 26 = .ok (.istore_n 3, 1) := by decide +kernel
theorem dX3_putVan_27 : decode cX3_putVan 27 = .ok (.aload_n 0, 1) := by decide +kernel
theorem dX3_putVan_28 : decode cX3_putVan 28 = .ok (.getfield 23, 3) := by decide +kernel
theorem dX3_putVan_31 : decode cX3_putVan 31 = .ok (.iload_n 3, 1) := by decide +kernel
theorem dX3_putVan_32 : decode cX3_putVan 32 = .ok (.aaload, 1) := by decide +kernel
theorem dX3_putVan_33 : decode cX3_putVan 33 = .ok (.iload_n 1, 1) := by decide +kernel
theorem dX3_putVan_34 : decode cX3_putVan 34 = .ok (.iload_n 2, 1) := by decide +kernel
theorem dX3_putVan_35 : decode cX3_putVan 35 = .ok (.aload_n 0, 1) := by decide +kernel
theorem dX3_putVan_36 : decode cX3_putVan 36 = .ok (.getfield 35, 3) := by decide +kernel
theorem dX3_putVan_39 : decode cX3_putVan 39 = .ok (.invokevirtual 85, 3) := by decide +kernel
theorem dX3_putVan_42 : decode cX3_putVan 42 = .ok (.aload_n 0, 1) := by decide +kernel
theorem dX3_putVan_43 : decode cX3_putVan 43 = .ok (.dup, 1) := by decide +kernel
theorem dX3_putVan_44 : decode cX3_putVan 44 = .ok (.getfield 38, 3) := by decide +kernel
theorem dX3_putVan_47 : decode cX3_putVan 47 = .ok (.iconst 1, 1) := by decide +kernel
theorem dX3_putVan_48 : decode cX3_putVan 48 = .ok (.iadd, 1) := by decide +kernel
theorem dX3_putVan_49 : decode cX3_putVan 49 = .ok (.putfield 38, 3) := by decide +kernel
theorem dX3_putVan_52 : decode cX3_putVan 52 = .ok (.iload_n 3, 1) := by decide +kernel
theorem dX3_putVan_53 : decode cX3_putVan 53 = .ok (.ireturn, 1) := by decide +kernel
theorem dX3_changeNumber_0 : decode cX3_changeNumber 0 = .ok (.iload_n 1, 1) := by decide +kernel
theorem dX3_changeNumber_1 : decode cX3_changeNumber 1 = .ok (.ifCond .ne 29, 3) := by decide +kernel
theorem dX3_changeNumber_4 : decode cX3_changeNumber 4 = .ok (.iload_n 2, 1) := by decide +kernel
theorem dX3_changeNumber_5 : decode cX3_changeNumber 5 = .ok (.sipush (-200), 3) := by decide +kernel
theorem dX3_changeNumber_8 : decode cX3_changeNumber 8 = .ok (.sipush 450, 3) := by decide +kernel
theorem dX3_changeNumber_11 : decode cX3_changeNumber 11 = .ok (.invokestatic 55, 3) := by decide +kernel
theorem dX3_changeNumber_14 : decode cX3_changeNumber 14 = .ok (.ifCond .eq 16, 3) := by decide +kernel
theorem dX3_changeNumber_17 : decode cX3_changeNumber 17 = .ok (.aload_n 0, 1) := by decide +kernel
theorem dX3_changeNumber_18 : decode cX3_changeNumber 18 = .ok (.getfield 9, 3) := by decide +kernel
theorem dX3_changeNumber_21 : decode cX3_changeNumber 21 = .ok (.istore_n 3, 1) := by decide +kernel
theorem dX3_changeNumber_22 : decode cX3_changeNumber 22 = .ok (.aload_n 0, 1) := by decide +kernel
theorem dX3_changeNumber_23 : decode cX3_changeNumber 23 = .ok (.iload_n 2, 1) := by decide +kernel
theorem dX3_changeNumber_24 : decode cX3_changeNumber 24 = .ok (.putfield 9, 3) := by decide +kernel
theorem dX3_changeNumber_27 : decode cX3_changeNumber 27 = .ok (.goto 62, 3) := by decide +kernel
theorem dX3_changeNumber_30 : decode cX3_changeNumber 30 = .ok (.iload_n 1, 1) := by decide +kernel
theorem dX3_changeNumber_31 : decode cX3_changeNumber 31 = .ok (.iconst 1, 1) := by decide +kernel
theorem dX3_changeNumber_32 : decode cX3_changeNumber 32 = .ok (.if_icmp .ne 26, 3) := by decide +kernel
theorem dX3_changeNumber_35 : decode cX3_changeNumber 35 = .ok (.iload_n 2, 1) := by decide +kernel
theorem dX3_changeNumber_36 : decode cX3_changeNumber 36 = .ok (.iconst 5, 1) := by decide +kernel
theorem dX3_changeNumber_37 : decode cX3_changeNumber 37 = .ok (.bipush 100, 2) := by decide +kernel
theorem dX3_changeNumber_39 : decode cX3_changeNumber 39 = .ok (.invokestatic 55, 3) := by decide +kernel
theorem dX3_changeNumber_42 : decode cX3_changeNumber 42 = .ok (.ifCond .eq 16, 3) := by decide +kernel
theorem dX3_changeNumber_45 : decode cX3_changeNumber 45 = .ok (.aload_n 0, 1) := by decide +kernel
theorem dX3_changeNumber_46 : decode cX3_changeNumber 46 = .ok (.getfield 15, 3) := by decide +kernel
theorem dX3_changeNumber_49 : decode cX3_changeNumber 49 = .ok (.istore_n 3, 1) := by decide +kernel
theorem dX3_changeNumber_50 : decode cX3_changeNumber 50 = .ok (.aload_n 0, 1) := by decide +kernel
theorem dX3_changeNumber_51 : decode cX3_changeNumber 51 = .ok (.iload_n 2, 1) := by decide +kernel
theorem dX3_changeNumber_52 : decode cX3_changeNumber 52 = .ok (.putfield 15, 3) := by decide +kernel
theorem dX3_changeNumber_55 : decode cX3_changeNumber 55 = .ok (.goto 34, 3) := by decide +kernel
theorem dX3_changeNumber_58 : decode cX3_changeNumber 58 = .ok (.iload_n 1, 1) := by decide +kernel
theorem dX3_changeNumber_59 : decode cX3_changeNumber 59 = .ok (.iconst 2, 1) := by decide +kernel
theorem dX3_changeNumber_60 : decode cX3_changeNumber 60 = .ok (.if_icmp .ne 26, 3) := by decide +kernel
theorem dX3_changeNumber_63 : decode cX3_changeNumber 63 = .ok (.iload_n 2, 1) := by decide +kernel
theorem dX3_changeNumber_64 : decode cX3_changeNumber 64 = .ok (.iconst 1, 1) := by decide +kernel
theorem dX3_changeNumber_65 : decode cX3_changeNumber 65 = .ok (.bipush 30, 2) := by decide +kernel
theorem dX3_changeNumber_67 : decode cX3_changeNumber 67 = .ok (.invokestatic 55, 3) := by decide +kernel
theorem dX3_changeNumber_70 : decode cX3_changeNumber 70 = .ok (.ifCond .eq 16, 3) := by decide +kernel
theorem dX3_changeNumber_73 : decode cX3_changeNumber 73 = .ok (.aload_n 0, 1) := by decide +kernel
theorem dX3_changeNumber_74 : decode cX3_changeNumber 74 = .ok (.getfield 18, 3) := by decide +kernel
theorem dX3_changeNumber_77 : decode cX3_changeNumber 77 = .ok (.istore_n 3, 1) := by decide +kernel
theorem dX3_changeNumber_78 : decode cX3_changeNumber 78 = .ok (.aload_n 0, 1) := by decide +kernel
theorem dX3_changeNumber_79 : decode cX3_changeNumber 79 = .ok (.iload_n 2, 1) := by decide +kernel
theorem dX3_changeNumber_80 : decode cX3_changeNumber 80 = .ok (.putfield 18, 3) := by decide +kernel
theorem dX3_changeNumber_83 : decode cX3_changeNumber 83 = .ok (.goto 6, 3) := by decide +kernel
theorem dX3_changeNumber_86 : decode cX3_changeNumber 86 = .ok (.ldc 83, 2) := by decide +kernel
theorem dX3_changeNumber_88 : decode cX3_changeNumber 88 = .ok (.istore_n 3, 1) := by decide +kernel
theorem dX3_changeNumber_89 : decode cX3_changeNumber 89 = .ok (.iload_n 3, 1) := by decide +kernel
theorem dX3_changeNumber_90 : decode cX3_changeNumber 90 = .ok (.ireturn, 1) := by decide +kernel
theorem dX3_changeVan_0 : decode cX3_changeVan 0 = .ok (.aload_n 0, 1) := by decide +kernel
theorem dX3_changeVan_1 : decode cX3_changeVan 1 = .ok (.iload_n 1, 1) := by decide +kernel
theorem dX3_changeVan_2 : decode cX3_changeVan 2 = .ok (.invokevirtual 51, 3) := by decide +kernel
theorem dX3_changeVan_5 : decode cX3_changeVan 5 = .ok (.ifCond .eq 11, 3) := by decide +kernel
theorem dX3_changeVan_8 : decode cX3_changeVan 8 = .ok (.iload_n 2, 1) := by decide +kernel
theorem dX3_changeVan_9 : decode cX3_changeVan 9 = .ok (.iload_n 3, 1) := by decide +kernel
theorem dX3_changeVan_10 : decode cX3_changeVan 10 = .ok (.invokestatic 79, 3) := by decide +kernel
theorem dX3_changeVan_13 : decode cX3_changeVan 13 = .ok (.ifCond .ne 6, 3) := by decide +kernel
theorem dX3_changeVan_16 : decode cX3_changeVan 16 = .ok (.ldc 83, 2) := by decide +kernel
theorem dX3_changeVan_18 : decode cX3_changeVan 18 = .ok (.ireturn, 1) := by decide +kernel
theorem dX3_changeVan_19 : decode cX3_changeVan 19 = .ok (.aload_n 0, 1) := by decide +kernel
theorem dX3_changeVan_20 : decode cX3_changeVan 20 = .ok (.getfield 23, 3) := by decide +kernel
theorem dX3_changeVan_23 : decode cX3_changeVan 23 = .ok (.iload_n 1, 1) := by decide +kernel
theorem dX3_changeVan_24 : decode cX3_changeVan 24 = .ok (.aaload, 1) := by decide +kernel
theorem dX3_changeVan_25 : decode cX3_changeVan 25 = .ok (.getfield 89, 3) := by decide +kernel
theorem dX3_changeVan_28 : decode cX3_changeVan 28 = .ok (.istore 4, 2) := by decide +kernel
theorem dX3_changeVan_30 : decode cX3_changeVan 30 = .ok (.aload_n 0, 1) := by decide +kernel
theorem dX3_changeVan_31 : decode cX3_changeVan 31 = .ok (.getfield 23, 3) := by decide +kernel
theorem dX3_changeVan_34 : decode cX3_changeVan 34 = .ok (.iload_n 1, 1) := by decide +kernel
theorem dX3_changeVan_35 : decode cX3_changeVan 35 = .ok (.aaload, 1) := by decide +kernel
theorem dX3_changeVan_36 : decode cX3_changeVan 36 = .ok (.iload_n 2, 1) := by decide +kernel
theorem dX3_changeVan_37 : decode cX3_changeVan 37 = .ok (.putfield 89, 3) := by decide +kernel
theorem dX3_changeVan_40 : decode cX3_changeVan 40 = .ok (.aload_n 0, 1) := by decide +kernel
theorem dX3_changeVan_41 : decode cX3_changeVan 41 = .ok (.getfield 23, 3) := by decide +kernel
theorem dX3_changeVan_44 : decode cX3_changeVan 44 = .ok (.iload_n 1, 1) := by decide +kernel
theorem dX3_changeVan_45 : decode cX3_changeVan 45 = .ok (.aaload, 1) := by decide +kernel
theorem dX3_changeVan_46 : decode cX3_changeVan 46 = .ok (.iload_n 3, 1) := by decide +kernel
theorem dX3_changeVan_47 : decode cX3_changeVan 47 = .ok (.putfield 92, 3) := by decide +kernel
theorem dX3_changeVan_50 : decode cX3_changeVan 50 = .ok (.iload 4, 2) := by decide +kernel
theorem dX3_changeVan_52 : decode cX3_changeVan 52 = .ok (.ireturn, 1) := by decide +kernel
theorem dX3_changeProbe_0 : decode cX3_changeProbe 0 = .ok (.aload_n 0, 1) := by decide +kernel
theorem dX3_changeProbe_1 : decode cX3_changeProbe 1 = .ok (.iload_n 1, 1) := by decide +kernel
theorem dX3_changeProbe_2 : decode cX3_changeProbe 2 = .ok (.iload_n 2, 1) := by decide +kernel
theorem dX3_changeProbe_3 : decode cX3_changeProbe 3 = .ok (.invokevirtual 95, 3) := by decide +kernel
theorem dX3_changeProbe_6 : decode cX3_changeProbe 6 = .ok (.ifCond .eq 12, 3) := by decide +kernel
theorem dX3_changeProbe_9 : decode cX3_changeProbe 9 = .ok (.iload_n 3, 1) := by decide +kernel
theorem dX3_changeProbe_10 : decode cX3_changeProbe 10 = .ok (.iload 4, 2) := by decide +kernel
theorem dX3_changeProbe_12 : decode cX3_changeProbe 12 = .ok (.invokestatic 98, 3) := by decide +kernel
theorem dX3_changeProbe_15 : decode cX3_changeProbe 15 = .ok (.ifCond .ne 6, 3) := by decide +kernel
theorem dX3_changeProbe_18 : decode cX3_changeProbe 18 = .ok (.ldc 83, 2) := by decide +kernel
theorem dX3_changeProbe_20 : decode cX3_changeProbe 20 = .ok (.ireturn, 1) := by decide +kernel
theorem dX3_changeProbe_21 : decode cX3_changeProbe 21 = .ok (.aload_n 0, 1) := by decide +kernel
theorem dX3_changeProbe_22 : decode cX3_changeProbe 22 = .ok (.getfield 23, 3) := by decide +kernel
theorem dX3_changeProbe_25 : decode cX3_changeProbe 25 = .ok (.iload_n 1, 1) := by decide +kernel
theorem dX3_changeProbe_26 : decode cX3_changeProbe 26 = .ok (.aaload, 1) := by decide +kernel
theorem dX3_changeProbe_27 : decode cX3_changeProbe 27 = .ok (.getfield 59, 3) := by decide +kernel
theorem dX3_changeProbe_30 : decode cX3_changeProbe 30 = .ok (.iload_n 2, 1) := by decide +kernel
theorem dX3_changeProbe_31 : decode cX3_changeProbe 31 = .ok (.aaload, 1) := by decide +kernel
theorem dX3_changeProbe_32 : decode cX3_changeProbe 32 = .ok (.astore 5, 2) := by decide +kernel
theorem dX3_changeProbe_34 : decode cX3_changeProbe 34 = .ok (.aload 5, 2) := by decide +kernel
theorem dX3_changeProbe_36 : decode cX3_changeProbe 36 = .ok (.getfield 101, 3) := by decide +kernel
theorem dX3_changeProbe_39 : decode cX3_changeProbe 39 = .ok (.istore 6, 2) := by decide +kernel
theorem dX3_changeProbe_41 : decode cX3_changeProbe 41 = .ok (.aload 5, 2) := by decide +kernel
theorem dX3_changeProbe_43 : decode cX3_changeProbe 43 = .ok (.iload_n 3, 1) := by decide +kernel
theorem dX3_changeProbe_44 : decode cX3_changeProbe 44 = .ok (.putfield 101, 3) := by decide +kernel
theorem dX3_changeProbe_47 : decode cX3_changeProbe 47 = .ok (.aload 5, 2) := by decide +kernel
theorem dX3_changeProbe_49 : decode cX3_changeProbe 49 = .ok (.iload 4, 2) := by decide +kernel
theorem dX3_changeProbe_51 : decode cX3_changeProbe 51 = .ok (.putfield 104, 3) := by decide +kernel
theorem dX3_changeProbe_54 : decode cX3_changeProbe 54 = .ok (.iload 6, 2) := by decide +kernel
theorem dX3_changeProbe_56 : decode cX3_changeProbe 56 = .ok (.ireturn, 1) := by decide +kernel
theorem dX3_mendProbe_0 : decode cX3_mendProbe 0 = .ok (.aload_n 0, 1) := by decide +kernel
theorem dX3_mendProbe_1 : decode cX3_mendProbe 1 = .ok (.iload_n 1, 1) := by decide +kernel
theorem dX3_mendProbe_2 : decode cX3_mendProbe 2 = .ok (.iload_n 2, 1) := by decide +kernel
theorem dX3_mendProbe_3 : decode cX3_mendProbe 3 = .ok (.invokevirtual 95, 3) := by decide +kernel
theorem dX3_mendProbe_6 : decode cX3_mendProbe 6 = .ok (.ifCond .ne 6, 3) := by decide +kernel
theorem dX3_mendProbe_9 : decode cX3_mendProbe 9 = .ok (.ldc 83, 2) := by decide +kernel
theorem dX3_mendProbe_11 : decode cX3_mendProbe 11 = .ok (.ireturn, 1) := by decide +kernel
theorem dX3_mendProbe_12 : decode cX3_mendProbe 12 = .ok (.aload_n 0, 1) := by decide +kernel
theorem dX3_mendProbe_13 : decode cX3_mendProbe 13 = .ok (.getfield 23, 3) := by decide +kernel
theorem dX3_mendProbe_16 : decode cX3_mendProbe 16 = .ok (.iload_n 1, 1) := by decide +kernel
theorem dX3_mendProbe_17 : decode cX3_mendProbe 17 = .ok (.aaload, 1) := by decide +kernel
theorem dX3_mendProbe_18 : decode cX3_mendProbe 18 = .ok (.getfield 59, 3) := by decide +kernel
theorem dX3_mendProbe_21 : decode cX3_mendProbe 21 = .ok (.iload_n 2, 1) := by decide +kernel
theorem dX3_mendProbe_22 : decode cX3_mendProbe 22 = .ok (.aaload, 1) := by decide +kernel
theorem dX3_mendProbe_23 : decode cX3_mendProbe 23 = .ok (.astore_n 3, 1) := by decide +kernel
theorem dX3_mendProbe_24 : decode cX3_mendProbe 24 = .ok (.aload_n 3, 1) := by decide +kernel
theorem dX3_mendProbe_25 : decode cX3_mendProbe 25 = .ok (.getfield 63, 3) := by decide +kernel
theorem dX3_mendProbe_28 : decode cX3_mendProbe 28 = .ok (.ifCond .eq 7, 3) := by decide +kernel
theorem dX3_mendProbe_31 : decode cX3_mendProbe 31 = .ok (.iconst 1, 1) := by decide +kernel
theorem dX3_mendProbe_32 : decode cX3_mendProbe 32 = .ok (.goto 4, 3) := by decide +kernel
theorem dX3_mendProbe_35 : decode cX3_mendProbe 35 = .ok (.iconst 0, 1) := by decide +kernel
theorem dX3_mendProbe_36 : decode cX3_mendProbe 36 = .ok (.istore 4, 2) := by decide +kernel
theorem dX3_mendProbe_38 : decode cX3_mendProbe 38 = .ok (.aload_n 3, 1) := by decide +kernel
theorem dX3_mendProbe_39 : decode cX3_mendProbe 39 = .ok (.invokevirtual 107, 3) := by decide +kernel
theorem dX3_mendProbe_42 : decode cX3_mendProbe 42 = .ok (.iload 4, 2) := by decide +kernel
theorem dX3_mendProbe_44 : decode cX3_mendProbe 44 = .ok (.ireturn, 1) := by decide +kernel
theorem dX3_putPallet_0 : decode cX3_putPallet 0 = .ok (.aload_n 0, 1) := by decide +kernel
theorem dX3_putPallet_1 : decode cX3_putPallet 1 = .ok (.iload_n 1, 1) := by decide +kernel
theorem dX3_putPallet_2 : decode cX3_putPallet 2 = .ok (.iload_n 2, 1) := by decide +kernel
theorem dX3_putPallet_3 : decode cX3_putPallet 3 = .ok (.invokevirtual 95, 3) := by decide +kernel
theorem dX3_putPallet_6 : decode cX3_putPallet 6 = .ok (.ifCond .eq 10, 3) := by decide +kernel
theorem dX3_putPallet_9 : decode cX3_putPallet 9 = .ok (.iload_n 3, 1) := by decide +kernel
theorem dX3_putPallet_10 : decode cX3_putPallet 10 = .ok (.invokestatic 110, 3) := by decide +kernel
theorem dX3_putPallet_13 : decode cX3_putPallet 13 = .ok (.ifCond .ne 6, 3) := by decide +kernel
theorem dX3_putPallet_16 : decode cX3_putPallet 16 = .ok (.ldc 83, 2) := by decide +kernel
theorem dX3_putPallet_18 : decode cX3_putPallet 18 = .ok (.ireturn, 1) := by decide +kernel
theorem dX3_putPallet_19 : decode cX3_putPallet 19 = .ok (.iload 4, 2) := by decide +kernel
theorem dX3_putPallet_21 : decode cX3_putPallet 21 = .ok (.iconst 0, 1) := by decide +kernel
theorem dX3_putPallet_22 : decode cX3_putPallet 22 = .ok (.sipush 600, 3) := by decide +kernel
theorem dX3_putPallet_25 : decode cX3_putPallet 25 = .ok (.invokestatic 55, 3) := by decide +kernel
theorem dX3_putPallet_28 : decode cX3_putPallet 28 = .ok (.ifCond .eq 11, 3) := by decide +kernel
theorem dX3_putPallet_31 : decode cX3_putPallet 31 = .ok (.iload 5, 2) := by decide +kernel
theorem dX3_putPallet_33 : decode cX3_putPallet 33 = .ok (.invokestatic 113, 3) := by decide +kernel
theorem dX3_putPallet_36 : decode cX3_putPallet 36 = .ok (.ifCond .ne 6, 3) := by decide +kernel
theorem dX3_putPallet_39 : decode cX3_putPallet 39 = .ok (.ldc 83, 2) := by decide +kernel
theorem dX3_putPallet_41 : decode cX3_putPallet 41 = .ok (.ireturn, 1) := by decide +kernel
theorem dX3_putPallet_42 : decode cX3_putPallet 42 = .ok (.aload_n 0, 1) := by decide +kernel
theorem dX3_putPallet_43 : decode cX3_putPallet 43 = .ok (.getfield 23, 3) := by decide +kernel
theorem dX3_putPallet_46 : decode cX3_putPallet 46 = .ok (.iload_n 1, 1) := by decide +kernel
theorem dX3_putPallet_47 : decode cX3_putPallet 47 = .ok (.aaload, 1) := by decide +kernel
theorem dX3_putPallet_48 : decode cX3_putPallet 48 = .ok (.getfield 116, 3) := by decide +kernel
theorem dX3_putPallet_51 : decode cX3_putPallet 51 = .ok (.ifCond .ne 6, 3) := by decide +kernel
theorem dX3_putPallet_54 : decode cX3_putPallet 54 = .ok (.ldc 119, 2) := by decide +kernel
theorem dX3_putPallet_56 : decode cX3_putPallet 56 = .ok (.ireturn, 1) := by decide +kernel
theorem dX3_putPallet_57 : decode cX3_putPallet 57 = .ok (.aload_n 0, 1) := by decide +kernel
theorem dX3_putPallet_58 : decode cX3_putPallet 58 = .ok (.getfield 41, 3) := by decide +kernel
theorem dX3_putPallet_61 : decode cX3_putPallet 61 = .ok (.bipush 12, 2) := by decide +kernel
theorem dX3_putPallet_63 : decode cX3_putPallet 63 = .ok (.if_icmp .ge 13, 3) := by decide +kernel
theorem dX3_putPallet_66 : decode cX3_putPallet 66 = .ok (.aload_n 0, 1) := by decide +kernel
theorem dX3_putPallet_67 : decode cX3_putPallet 67 = .ok (.iload_n 1, 1) := by decide +kernel
theorem dX3_putPallet_68 : decode cX3_putPallet 68 = .ok (.iload_n 2, 1) := by decide +kernel
theorem dX3_putPallet_69 : decode cX3_putPallet 69 = .ok (.invokevirtual 120, 3) := by decide +kernel
theorem dX3_putPallet_72 : decode cX3_putPallet 72 = .ok (.iconst 3, 1) := by decide +kernel
theorem dX3_putPallet_73 : decode cX3_putPallet 73 = .ok (.if_icmp .lt 6, 3) := by decide +kernel
theorem dX3_putPallet_76 : decode cX3_putPallet 76 = .ok (.ldc 84, 2) := by decide +kernel
theorem dX3_putPallet_78 : decode cX3_putPallet 78 = .ok (.ireturn, 1) := by decide +kernel
theorem dX3_putPallet_79 : decode cX3_putPallet 79 = .ok (.aload_n 0, 1) := by decide +kernel
theorem dX3_putPallet_80 : decode cX3_putPallet 80 = .ok (.getfield 41, 3) := by decide +kernel
theorem dX3_putPallet_83 : decode cX3_putPallet 83 = .ok (.istore 6, 2) := by decide +kernel
theorem dX3_putPallet_85 : decode cX3_putPallet 85 = .ok (.aload_n 0, 1) := by decide +kernel
theorem dX3_putPallet_86 : decode cX3_putPallet 86 = .ok (.getfield 29, 3) := by decide +kernel
theorem dX3_putPallet_89 : decode cX3_putPallet 89 = .ok (.iload 6, 2) := by decide +kernel
theorem dX3_putPallet_91 : decode cX3_putPallet 91 = .ok (.aaload, 1) := by decide +kernel
theorem dX3_putPallet_92 : decode cX3_putPallet 92 = .ok (.iload_n 1, 1) := by decide +kernel
theorem dX3_putPallet_93 : decode cX3_putPallet 93 = .ok (.iload_n 2, 1) := by decide +kernel
theorem dX3_putPallet_94 : decode cX3_putPallet 94 = .ok (.iload_n 3, 1) := by decide +kernel
theorem dX3_putPallet_95 : decode cX3_putPallet 95 = .ok (.iload 4, 2) := by decide +kernel
theorem dX3_putPallet_97 : decode cX3_putPallet 97 = .ok (.iload 5, 2) := by decide +kernel
theorem dX3_putPallet_99 : decode cX3_putPallet 99 = .ok (.invokevirtual 124, 3) := by decide +kernel
theorem dX3_putPallet_102 : decode cX3_putPallet 102 = .ok (.aload_n 0, 1) := by decide +kernel
theorem dX3_putPallet_103 : decode cX3_putPallet 103 = .ok (.dup, 1) := by decide +kernel
theorem dX3_putPallet_104 : decode cX3_putPallet 104 = .ok (.getfield 41, 3) := by decide +kernel
theorem dX3_putPallet_107 : decode cX3_putPallet 107 = .ok (.iconst 1, 1) := by decide +kernel
theorem dX3_putPallet_108 : decode cX3_putPallet 108 = .ok (.iadd, 1) := by decide +kernel
theorem dX3_putPallet_109 : decode cX3_putPallet 109 = .ok (.putfield 41, 3) := by decide +kernel
theorem dX3_putPallet_112 : decode cX3_putPallet 112 = .ok (.iload 6, 2) := by decide +kernel
theorem dX3_putPallet_114 : decode cX3_putPallet 114 = .ok (.ireturn, 1) := by decide +kernel
theorem dX3_turnDoor_0 : decode cX3_turnDoor 0 = .ok (.aload_n 0, 1) := by decide +kernel
theorem dX3_turnDoor_1 : decode cX3_turnDoor 1 = .ok (.iload_n 1, 1) := by decide +kernel
theorem dX3_turnDoor_2 : decode cX3_turnDoor 2 = .ok (.invokevirtual 51, 3) := by decide +kernel
theorem dX3_turnDoor_5 : decode cX3_turnDoor 5 = .ok (.ifCond .eq 12, 3) := by decide +kernel
theorem dX3_turnDoor_8 : decode cX3_turnDoor 8 = .ok (.iload_n 2, 1) := by decide +kernel
theorem dX3_turnDoor_9 : decode cX3_turnDoor 9 = .ok (.iconst 0, 1) := by decide +kernel
theorem dX3_turnDoor_10 : decode cX3_turnDoor 10 = .ok (.iconst 1, 1) := by decide +kernel
theorem dX3_turnDoor_11 : decode cX3_turnDoor 11 = .ok (.invokestatic 55, 3) := by decide +kernel
theorem dX3_turnDoor_14 : decode cX3_turnDoor 14 = .ok (.ifCond .ne 6, 3) := by decide +kernel
theorem dX3_turnDoor_17 : decode cX3_turnDoor 17 = .ok (.ldc 83, 2) := by decide +kernel
theorem dX3_turnDoor_19 : decode cX3_turnDoor 19 = .ok (.ireturn, 1) := by decide +kernel
theorem dX3_turnDoor_20 : decode cX3_turnDoor 20 = .ok (.iload_n 2, 1) := by decide +kernel
theorem dX3_turnDoor_21 : decode cX3_turnDoor 21 = .ok (.iconst 1, 1) := by decide +kernel
theorem dX3_turnDoor_22 : decode cX3_turnDoor 22 = .ok (.if_icmp .ne 7, 3) := by decide +kernel
theorem dX3_turnDoor_25 : decode cX3_turnDoor 25 = .ok (.iconst 1, 1) := by decide +kernel
theorem dX3_turnDoor_26 : decode cX3_turnDoor 26 = .ok (.goto 4, 3) := by decide +kernel
theorem dX3_turnDoor_29 : decode cX3_turnDoor 29 = .ok (.iconst 0, 1) := by decide +kernel
theorem dX3_turnDoor_30 : decode cX3_turnDoor 30 = .ok (.istore_n 3, 1) := by decide +kernel
theorem dX3_turnDoor_31 : decode cX3_turnDoor 31 = .ok (.aload_n 0, 1) := by decide +kernel
theorem dX3_turnDoor_32 : decode cX3_turnDoor 32 = .ok (.getfield 23, 3) := by decide +kernel
theorem dX3_turnDoor_35 : decode cX3_turnDoor 35 = .ok (.iload_n 1, 1) := by decide +kernel
theorem dX3_turnDoor_36 : decode cX3_turnDoor 36 = .ok (.aaload, 1) := by decide +kernel
theorem dX3_turnDoor_37 : decode cX3_turnDoor 37 = .ok (.getfield 116, 3) := by decide +kernel
theorem dX3_turnDoor_40 : decode cX3_turnDoor 40 = .ok (.iload_n 3, 1) := by decide +kernel
theorem dX3_turnDoor_41 : decode cX3_turnDoor 41 = .ok (.if_icmp .ne 6, 3) := by decide +kernel
theorem dX3_turnDoor_44 : decode cX3_turnDoor 44 = .ok (.ldc 119, 2) := by decide +kernel
theorem dX3_turnDoor_46 : decode cX3_turnDoor 46 = .ok (.ireturn, 1) := by decide +kernel
theorem dX3_turnDoor_47 : decode cX3_turnDoor 47 = .ok (.aload_n 0, 1) := by decide +kernel
theorem dX3_turnDoor_48 : decode cX3_turnDoor 48 = .ok (.getfield 23, 3) := by decide +kernel
theorem dX3_turnDoor_51 : decode cX3_turnDoor 51 = .ok (.iload_n 1, 1) := by decide +kernel
theorem dX3_turnDoor_52 : decode cX3_turnDoor 52 = .ok (.aaload, 1) := by decide +kernel
theorem dX3_turnDoor_53 : decode cX3_turnDoor 53 = .ok (.iload_n 3, 1) := by decide +kernel
theorem dX3_turnDoor_54 : decode cX3_turnDoor 54 = .ok (.putfield 116, 3) := by decide +kernel
theorem dX3_turnDoor_57 : decode cX3_turnDoor 57 = .ok (.aload_n 0, 1) := by decide +kernel
theorem dX3_turnDoor_58 : decode cX3_turnDoor 58 = .ok (.iload_n 1, 1) := by decide +kernel
theorem dX3_turnDoor_59 : decode cX3_turnDoor 59 = .ok (.invokevirtual 127, 3) := by decide +kernel
theorem dX3_turnDoor_62 : decode cX3_turnDoor 62 = .ok (.invokestatic 131, 3) := by decide +kernel
theorem dX3_turnDoor_65 : decode cX3_turnDoor 65 = .ok (.ireturn, 1) := by decide +kernel
theorem dX3_letPass_0 : decode cX3_letPass 0 = .ok (.iload_n 1, 1) := by decide +kernel
theorem dX3_letPass_1 : decode cX3_letPass 1 = .ok (.iconst 1, 1) := by decide +kernel
theorem dX3_letPass_2 : decode cX3_letPass 2 = .ok (.sipush 300, 3) := by decide +kernel
theorem dX3_letPass_5 : decode cX3_letPass 5 = .ok (.invokestatic 55, 3) := by decide +kernel
theorem dX3_letPass_8 : decode cX3_letPass 8 = .ok (.ifCond .ne 6, 3) := by decide +kernel
theorem dX3_letPass_11 : decode cX3_letPass 11 = .ok (.ldc 83, 2) := by decide +kernel
theorem dX3_letPass_13 : decode cX3_letPass 13 = .ok (.ireturn, 1) := by decide +kernel
theorem dX3_letPass_14 : decode cX3_letPass 14 = .ok (.aload_n 0, 1) := by decide +kernel
theorem dX3_letPass_15 : decode cX3_letPass 15 = .ok (.getfield 35, 3) := by decide +kernel
theorem dX3_letPass_18 : decode cX3_letPass 18 = .ok (.iload_n 1, 1) := by decide +kernel
theorem dX3_letPass_19 : decode cX3_letPass 19 = .ok (.iadd, 1) := by decide +kernel
theorem dX3_letPass_20 : decode cX3_letPass 20 = .ok (.sipush 600, 3) := by decide +kernel
theorem dX3_letPass_23 : decode cX3_letPass 23 = .ok (.if_icmp .le 6, 3) := by decide +kernel
theorem dX3_letPass_26 : decode cX3_letPass 26 = .ok (.ldc 84, 2) := by decide +kernel
theorem dX3_letPass_28 : decode cX3_letPass 28 = .ok (.ireturn, 1) := by decide +kernel
theorem dX3_letPass_29 : decode cX3_letPass 29 = .ok (.iconst 0, 1) := by decide +kernel
theorem dX3_letPass_30 : decode cX3_letPass 30 = .ok (.istore_n 3, 1) := by decide +kernel
theorem dX3_letPass_31 : decode cX3_letPass 31 = .ok (.iconst 0, 1) := by decide +kernel
theorem dX3_letPass_32 : decode cX3_letPass 32 = .ok (.istore 4, 2) := by decide +kernel
theorem dX3_letPass_34 : decode cX3_letPass 34 = .ok (.iload 4, 2) := by decide +kernel
theorem dX3_letPass_36 : decode cX3_letPass 36 = .ok (.iload_n 1, 1) := by decide +kernel
theorem dX3_letPass_37 : decode cX3_letPass 37 = .ok (.if_icmp .ge 63, 3) := by decide +kernel
theorem dX3_letPass_40 : decode cX3_letPass 40 = .ok (.aload_n 0, 1) := by decide +kernel
theorem dX3_letPass_41 : decode cX3_letPass 41 = .ok (.dup, 1) := by decide +kernel
theorem dX3_letPass_42 : decode cX3_letPass 42 = .ok (.getfield 35, 3) := by decide +kernel
theorem dX3_letPass_45 : decode cX3_letPass 45 = .ok (.iconst 1, 1) := by decide +kernel
theorem dX3_letPass_46 : decode cX3_letPass 46 = .ok (.iadd, 1) := by decide +kernel
theorem dX3_letPass_47 : decode cX3_letPass 47 = .ok (.putfield 35, 3) := by decide +kernel
theorem dX3_letPass_50 : decode cX3_letPass 50 = .ok (.iconst 0, 1) := by decide +kernel
theorem dX3_letPass_51 : decode cX3_letPass 51 = .ok (.istore 5, 2) := by decide +kernel
theorem dX3_letPass_53 : decode cX3_letPass 53 = .ok (.iload 5, 2) := by decide +kernel
theorem dX3_letPass_55 : decode cX3_letPass 55 = .ok (.aload_n 0, 1) := by decide +kernel
theorem dX3_letPass_56 : decode cX3_letPass 56 = .ok (.getfield 38, 3) := by decide +kernel
theorem dX3_letPass_59 : decode cX3_letPass 59 = .ok (.if_icmp .ge 35, 3) := by decide +kernel
theorem dX3_letPass_62 : decode cX3_letPass 62 = .ok (.iload_n 3, 1) := by decide +kernel
theorem dX3_letPass_63 : decode cX3_letPass 63 = .ok (.aload_n 0, 1) := by decide +kernel
theorem dX3_letPass_64 : decode cX3_letPass 64 = .ok (.iload 5, 2) := by decide +kernel
theorem dX3_letPass_66 : decode cX3_letPass 66 = .ok (.invokevirtual 136, 3) := by decide +kernel
theorem dX3_letPass_69 : decode cX3_letPass 69 = .ok (.iadd, 1) := by decide +kernel
theorem dX3_letPass_70 : decode cX3_letPass 70 = .ok (.istore_n 3, 1) := by decide +kernel
theorem dX3_letPass_71 : decode cX3_letPass 71 = .ok (.aload_n 2, 1) := by decide +kernel
theorem dX3_letPass_72 : decode cX3_letPass 72 = .ok (.iload 5, 2) := by decide +kernel
theorem dX3_letPass_74 : decode cX3_letPass 74 = .ok (.aload_n 0, 1) := by decide +kernel
theorem dX3_letPass_75 : decode cX3_letPass 75 = .ok (.getfield 35, 3) := by decide +kernel
theorem dX3_letPass_78 : decode cX3_letPass 78 = .ok (.aload_n 0, 1) := by decide +kernel
theorem dX3_letPass_79 : decode cX3_letPass 79 = .ok (.getfield 23, 3) := by decide +kernel
theorem dX3_letPass_82 : decode cX3_letPass 82 = .ok (.iload 5, 2) := by decide +kernel
theorem dX3_letPass_84 : decode cX3_letPass 84 = .ok (.aaload, 1) := by decide +kernel
theorem dX3_letPass_85 : decode cX3_letPass 85 = .ok (.invokevirtual 139, 3) := by decide +kernel
theorem dX3_letPass_88 : decode cX3_letPass 88 = .ok (.iinc 5 1, 3) := by decide +kernel
theorem dX3_letPass_91 : decode cX3_letPass 91 = .ok (.goto (-38), 3) := by decide +kernel
theorem dX3_letPass_94 : decode cX3_letPass 94 = .ok (.iinc 4 1, 3) := by decide +kernel
theorem dX3_letPass_97 : decode cX3_letPass 97 = .ok (.goto (-63), 3) := by decide +kernel
theorem dX3_letPass_100 : decode cX3_letPass 100 = .ok (.iload_n 3, 1) := by decide +kernel
theorem dX3_letPass_101 : decode cX3_letPass 101 = .ok (.ireturn, 1) := by decide +kernel
theorem dX3_minuteInVan_0 : decode cX3_minuteInVan 0 = .ok (.aload_n 0, 1) := by decide +kernel
theorem dX3_minuteInVan_1 : decode cX3_minuteInVan 1 = .ok (.getfield 23, 3) := by decide +kernel
theorem dX3_minuteInVan_4 : decode cX3_minuteInVan 4 = .ok (.iload_n 1, 1) := by decide +kernel
theorem dX3_minuteInVan_5 : decode cX3_minuteInVan 5 = .ok (.aaload, 1) := by decide +kernel
theorem dX3_minuteInVan_6 : decode cX3_minuteInVan 6 = .ok (.astore_n 2, 1) := by decide +kernel
theorem dX3_minuteInVan_7 : decode cX3_minuteInVan 7 = .ok (.aload_n 2, 1) := by decide +kernel
theorem dX3_minuteInVan_8 : decode cX3_minuteInVan 8 = .ok (.aload_n 0, 1) := by decide +kernel
theorem dX3_minuteInVan_9 : decode cX3_minuteInVan 9 = .ok (.getfield 9, 3) := by decide +kernel
theorem dX3_minuteInVan_12 : decode cX3_minuteInVan 12 = .ok (.invokevirtual 145, 3) := by decide +kernel
theorem dX3_minuteInVan_15 : decode cX3_minuteInVan 15 = .ok (.aload_n 2, 1) := by decide +kernel
theorem dX3_minuteInVan_16 : decode cX3_minuteInVan 16 = .ok (.invokevirtual 149, 3) := by decide +kernel
theorem dX3_minuteInVan_19 : decode cX3_minuteInVan 19 = .ok (.aload_n 2, 1) := by decide +kernel
theorem dX3_minuteInVan_20 : decode cX3_minuteInVan 20 = .ok (.aload_n 0, 1) := by decide +kernel
theorem dX3_minuteInVan_21 : decode cX3_minuteInVan 21 = .ok (.getfield 15, 3) := by decide +kernel
theorem dX3_minuteInVan_24 : decode cX3_minuteInVan 24 = .ok (.aload_n 0, 1) := by decide +kernel
theorem dX3_minuteInVan_25 : decode cX3_minuteInVan 25 = .ok (.getfield 18, 3) := by decide +kernel
theorem dX3_minuteInVan_28 : decode cX3_minuteInVan 28 = .ok (.invokevirtual 152, 3) := by decide +kernel
theorem dX3_minuteInVan_31 : decode cX3_minuteInVan 31 = .ok (.istore_n 3, 1) := by decide +kernel
theorem dX3_minuteInVan_32 : decode cX3_minuteInVan 32 = .ok (.iconst 0, 1) := by decide +kernel
theorem dX3_minuteInVan_33 : decode cX3_minuteInVan 33 = .ok (.istore 4, 2) := by decide +kernel
theorem dX3_minuteInVan_35 : decode cX3_minuteInVan 35 = .ok (.iload 4, 2) := by decide +kernel
theorem dX3_minuteInVan_37 : decode cX3_minuteInVan 37 = .ok (.aload_n 0, 1) := by decide +kernel
theorem dX3_minuteInVan_38 : decode cX3_minuteInVan 38 = .ok (.getfield 41, 3) := by decide +kernel
theorem dX3_minuteInVan_41 : decode cX3_minuteInVan 41 = .ok (.if_icmp .ge 34, 3) := by decide +kernel
theorem dX3_minuteInVan_44 : decode cX3_minuteInVan 44 = .ok (.aload_n 0, 1) := by decide +kernel
theorem dX3_minuteInVan_45 : decode cX3_minuteInVan 45 = .ok (.getfield 29, 3) := by decide +kernel
theorem dX3_minuteInVan_48 : decode cX3_minuteInVan 48 = .ok (.iload 4, 2) := by decide +kernel
theorem dX3_minuteInVan_50 : decode cX3_minuteInVan 50 = .ok (.aaload, 1) := by decide +kernel
theorem dX3_minuteInVan_51 : decode cX3_minuteInVan 51 = .ok (.iload_n 1, 1) := by decide +kernel
theorem dX3_minuteInVan_52 : decode cX3_minuteInVan 52 = .ok (.invokevirtual 69, 3) := by decide +kernel
theorem dX3_minuteInVan_55 : decode cX3_minuteInVan 55 = .ok (.ifCond .eq 14, 3) := by decide +kernel
theorem dX3_minuteInVan_58 : decode cX3_minuteInVan 58 = .ok (.aload_n 0, 1) := by decide +kernel
theorem dX3_minuteInVan_59 : decode cX3_minuteInVan 59 = .ok (.getfield 29, 3) := by decide +kernel
theorem dX3_minuteInVan_62 : decode cX3_minuteInVan 62 = .ok (.iload 4, 2) := by decide +kernel
theorem dX3_minuteInVan_64 : decode cX3_minuteInVan 64 = .ok (.aaload, 1) := by decide +kernel
theorem dX3_minuteInVan_65 : decode cX3_minuteInVan 65 = .ok (.aload_n 2, 1) := by decide +kernel
theorem dX3_minuteInVan_66 : decode cX3_minuteInVan 66 = .ok (.invokevirtual 155, 3) := by decide +kernel
theorem dX3_minuteInVan_69 : decode cX3_minuteInVan 69 = .ok (.iinc 4 1, 3) := by decide +kernel
theorem dX3_minuteInVan_72 : decode cX3_minuteInVan 72 = .ok (.goto (-37), 3) := by decide +kernel
theorem dX3_minuteInVan_75 : decode cX3_minuteInVan 75 = .ok (.iload_n 3, 1) := by decide +kernel
theorem dX3_minuteInVan_76 : decode cX3_minuteInVan 76 = .ok (.ireturn, 1) := by decide +kernel
theorem dX3_handOver_0 : decode cX3_handOver 0 = .ok (.aload_n 0, 1) := by decide +kernel
theorem dX3_handOver_1 : decode cX3_handOver 1 = .ok (.iload_n 1, 1) := by decide +kernel
theorem dX3_handOver_2 : decode cX3_handOver 2 = .ok (.invokevirtual 158, 3) := by decide +kernel
theorem dX3_handOver_5 : decode cX3_handOver 5 = .ok (.ifCond .ne 6, 3) := by decide +kernel
theorem dX3_handOver_8 : decode cX3_handOver 8 = .ok (.ldc 83, 2) := by decide +kernel
theorem dX3_handOver_10 : decode cX3_handOver 10 = .ok (.ireturn, 1) := by decide +kernel
theorem dX3_handOver_11 : decode cX3_handOver 11 = .ok (.aload_n 0, 1) := by decide +kernel
theorem dX3_handOver_12 : decode cX3_handOver 12 = .ok (.getfield 29, 3) := by decide +kernel
theorem dX3_handOver_15 : decode cX3_handOver 15 = .ok (.iload_n 1, 1) := by decide +kernel
theorem dX3_handOver_16 : decode cX3_handOver 16 = .ok (.aaload, 1) := by decide +kernel
theorem dX3_handOver_17 : decode cX3_handOver 17 = .ok (.astore_n 2, 1) := by decide +kernel
theorem dX3_handOver_18 : decode cX3_handOver 18 = .ok (.aload_n 2, 1) := by decide +kernel
theorem dX3_handOver_19 : decode cX3_handOver 19 = .ok (.getfield 161, 3) := by decide +kernel
theorem dX3_handOver_22 : decode cX3_handOver 22 = .ok (.ifCond .ne 18, 3) := by decide +kernel
theorem dX3_handOver_25 : decode cX3_handOver 25 = .ok (.aload_n 0, 1) := by decide +kernel
theorem dX3_handOver_26 : decode cX3_handOver 26 = .ok (.getfield 23, 3) := by decide +kernel
theorem dX3_handOver_29 : decode cX3_handOver 29 = .ok (.aload_n 2, 1) := by decide +kernel
theorem dX3_handOver_30 : decode cX3_handOver 30 = .ok (.getfield 164, 3) := by decide +kernel
theorem dX3_handOver_33 : decode cX3_handOver 33 = .ok (.aaload, 1) := by decide +kernel
theorem dX3_handOver_34 : decode cX3_handOver 34 = .ok (.getfield 116, 3) := by decide +kernel
theorem dX3_handOver_37 : decode cX3_handOver 37 = .ok (.ifCond .ne 6, 3) := by decide +kernel
theorem dX3_handOver_40 : decode cX3_handOver 40 = .ok (.ldc 119, 2) := by decide +kernel
theorem dX3_handOver_42 : decode cX3_handOver 42 = .ok (.ireturn, 1) := by decide +kernel
theorem dX3_handOver_43 : decode cX3_handOver 43 = .ok (.aload_n 2, 1) := by decide +kernel
theorem dX3_handOver_44 : decode cX3_handOver 44 = .ok (.aload_n 2, 1) := by decide +kernel
theorem dX3_handOver_45 : decode cX3_handOver 45 = .ok (.invokevirtual 75, 3) := by decide +kernel
theorem dX3_handOver_48 : decode cX3_handOver 48 = .ok (.ifCond .eq 7, 3) := by decide +kernel
theorem dX3_handOver_51 : decode cX3_handOver 51 = .ok (.iconst 2, 1) := by decide +kernel
theorem dX3_handOver_52 : decode cX3_handOver 52 = .ok (.goto 4, 3) := by decide +kernel
theorem dX3_handOver_55 : decode cX3_handOver 55 = .ok (.iconst 1, 1) := by decide +kernel
theorem dX3_handOver_56 : decode cX3_handOver 56 = .ok (.putfield 161, 3) := by decide +kernel
theorem dX3_handOver_59 : decode cX3_handOver 59 = .ok (.aload_n 2, 1) := by decide +kernel
theorem dX3_handOver_60 : decode cX3_handOver 60 = .ok (.getfield 161, 3) := by decide +kernel
theorem dX3_handOver_63 : decode cX3_handOver 63 = .ok (.ireturn, 1) := by decide +kernel
theorem dX3_bringBack_0 : decode cX3_bringBack 0 = .ok (.iload_n 1, 1) := by decide +kernel
theorem dX3_bringBack_1 : decode cX3_bringBack 1 = .ok (.iconst 1, 1) := by decide +kernel
theorem dX3_bringBack_2 : decode cX3_bringBack 2 = .ok (.if_icmp .lt 20, 3) := by decide +kernel
theorem dX3_bringBack_5 : decode cX3_bringBack 5 = .ok (.iload_n 1, 1) := by decide +kernel
theorem dX3_bringBack_6 : decode cX3_bringBack 6 = .ok (.iconst 1, 1) := by decide +kernel
theorem dX3_bringBack_7 : decode cX3_bringBack 7 = .ok (.aload_n 0, 1) := by decide +kernel
theorem dX3_bringBack_8 : decode cX3_bringBack 8 = .ok (.getfield 41, 3) := by decide +kernel
theorem dX3_bringBack_11 : decode cX3_bringBack 11 = .ok (.ishl, 1) := by decide +kernel
theorem dX3_bringBack_12 : decode cX3_bringBack 12 = .ok (.if_icmp .ge 10, 3) := by decide +kernel
theorem dX3_bringBack_15 : decode cX3_bringBack 15 = .ok (.iload_n 2, 1) := by decide +kernel
theorem dX3_bringBack_16 : decode cX3_bringBack 16 = .ok (.invokestatic 113, 3) := by decide +kernel
theorem dX3_bringBack_19 : decode cX3_bringBack 19 = .ok (.ifCond .ne 6, 3) := by decide +kernel
theorem dX3_bringBack_22 : decode cX3_bringBack 22 = .ok (.ldc 83, 2) := by decide +kernel
theorem dX3_bringBack_24 : decode cX3_bringBack 24 = .ok (.ireturn, 1) := by decide +kernel
theorem dX3_bringBack_25 : decode cX3_bringBack 25 = .ok (.iconst 0, 1) := by decide +kernel
theorem dX3_bringBack_26 : decode cX3_bringBack 26 = .ok (.istore_n 3, 1) := by decide +kernel
theorem dX3_bringBack_27 : decode cX3_bringBack 27 = .ok (.iload_n 3, 1) := by decide +kernel
theorem dX3_bringBack_28 : decode cX3_bringBack 28 = .ok (.aload_n 0, 1) := by decide +kernel
theorem dX3_bringBack_29 : decode cX3_bringBack 29 = .ok (.getfield 41, 3) := by decide +kernel
theorem dX3_bringBack_32 : decode cX3_bringBack 32 = .ok (.if_icmp .ge 33, 3) := by decide +kernel
theorem dX3_bringBack_35 : decode cX3_bringBack 35 = .ok (.iload_n 1, 1) := by decide +kernel
theorem dX3_bringBack_36 : decode cX3_bringBack 36 = .ok (.iload_n 3, 1) := by decide +kernel
theorem dX3_bringBack_37 : decode cX3_bringBack 37 = .ok (.invokestatic 167, 3) := by decide +kernel
theorem dX3_bringBack_40 : decode cX3_bringBack 40 = .ok (.ifCond .eq 19, 3) := by decide +kernel
theorem dX3_bringBack_43 : decode cX3_bringBack 43 = .ok (.aload_n 0, 1) := by decide +kernel
theorem dX3_bringBack_44 : decode cX3_bringBack 44 = .ok (.getfield 29, 3) := by decide +kernel
theorem dX3_bringBack_47 : decode cX3_bringBack 47 = .ok (.iload_n 3, 1) := by decide +kernel
theorem dX3_bringBack_48 : decode cX3_bringBack 48 = .ok (.aaload, 1) := by decide +kernel
theorem dX3_bringBack_49 : decode cX3_bringBack 49 = .ok (.getfield 161, 3) := by decide +kernel
theorem dX3_bringBack_52 : decode cX3_bringBack 52 = .ok (.iconst 2, 1) := by decide +kernel
theorem dX3_bringBack_53 : decode cX3_bringBack 53 = .ok (.if_icmp .eq 6, 3) := by decide +kernel
theorem dX3_bringBack_56 : decode cX3_bringBack 56 = .ok (.ldc 119, 2) := by decide +kernel
theorem dX3_bringBack_58 : decode cX3_bringBack 58 = .ok (.ireturn, 1) := by decide +kernel
theorem dX3_bringBack_59 : decode cX3_bringBack 59 = .ok (.iinc 3 1, 3) := by decide +kernel
theorem dX3_bringBack_62 : decode cX3_bringBack 62 = .ok (.goto (-35), 3) := by decide +kernel
theorem dX3_bringBack_65 : decode cX3_bringBack 65 = .ok (.aload_n 0, 1) := by decide +kernel
theorem dX3_bringBack_66 : decode cX3_bringBack 66 = .ok (.iload_n 1, 1) := by decide +kernel
theorem dX3_bringBack_67 : decode cX3_bringBack 67 = .ok (.iload_n 2, 1) := by decide +kernel
theorem dX3_bringBack_68 : decode cX3_bringBack 68 = .ok (.invokevirtual 169, 3) := by decide +kernel
theorem dX3_bringBack_71 : decode cX3_bringBack 71 = .ok (.aload_n 0, 1) := by decide +kernel
theorem dX3_bringBack_72 : decode cX3_bringBack 72 = .ok (.iload_n 1, 1) := by decide +kernel
theorem dX3_bringBack_73 : decode cX3_bringBack 73 = .ok (.iload_n 2, 1) := by decide +kernel
theorem dX3_bringBack_74 : decode cX3_bringBack 74 = .ok (.invokevirtual 173, 3) := by decide +kernel
theorem dX3_bringBack_77 : decode cX3_bringBack 77 = .ok (.ireturn, 1) := by decide +kernel
theorem dX3_isIn_0 : decode cX3_isIn 0 = .ok (.iload_n 0, 1) := by decide +kernel
theorem dX3_isIn_1 : decode cX3_isIn 1 = .ok (.iload_n 1, 1) := by decide +kernel
theorem dX3_isIn_2 : decode cX3_isIn 2 = .ok (.ishr, 1) := by decide +kernel
theorem dX3_isIn_3 : decode cX3_isIn 3 = .ok (.iconst 1, 1) := by decide +kernel
theorem dX3_isIn_4 : decode cX3_isIn 4 = .ok (.iand, 1) := by decide +kernel
theorem dX3_isIn_5 : decode cX3_isIn 5 = .ok (.iconst 1, 1) := by decide +kernel
theorem dX3_isIn_6 : decode cX3_isIn 6 = .ok (.if_icmp .ne 7, 3) := by decide +kernel
theorem dX3_isIn_9 : decode cX3_isIn 9 = .ok (.iconst 1, 1) := by decide +kernel
theorem dX3_isIn_10 : decode cX3_isIn 10 = .ok (.goto 4, 3) := by decide +kernel
theorem dX3_isIn_13 : decode cX3_isIn 13 = .ok (.iconst 0, 1) := by decide +kernel
theorem dX3_isIn_14 : decode cX3_isIn 14 = .ok (.ireturn, 1) := by decide +kernel
theorem dX3_shareByValues_0 : decode cX3_shareByValues 0 = .ok (.iconst 0, 1) := by decide +kernel
theorem dX3_shareByValues_1 : decode cX3_shareByValues 1 = .ok (.istore_n 3, 1) := by decide +kernel
theorem dX3_shareByValues_2 : decode cX3_shareByValues 2 = .ok (.iconst 0, 1) := by decide +kernel
theorem dX3_shareByValues_3 : decode cX3_shareByValues 3 = .ok (.istore 4, 2) := by decide +kernel
theorem dX3_shareByValues_5 : decode cX3_shareByValues 5 = .ok (.iload 4, 2) := by decide +kernel
theorem dX3_shareByValues_7 : decode cX3_shareByValues 7 = .ok (.aload_n 0, 1) := by decide +kernel
theorem dX3_shareByValues_8 : decode cX3_shareByValues 8 = .ok (.getfield 41, 3) := by decide +kernel
theorem dX3_shareByValues_11 : decode cX3_shareByValues 11 = .ok (.if_icmp .ge 31, 3) := by decide +kernel
theorem dX3_shareByValues_14 : decode cX3_shareByValues 14 = .ok (.iload_n 1, 1) := by decide +kernel
theorem dX3_shareByValues_15 : decode cX3_shareByValues 15 = .ok (.iload 4, 2) := by decide +kernel
theorem dX3_shareByValues_17 : decode cX3_shareByValues 17 = .ok (.invokestatic 167, 3) := by decide +kernel
theorem dX3_shareByValues_20 : decode cX3_shareByValues 20 = .ok (.ifCond .eq 16, 3) := by decide +kernel
theorem dX3_shareByValues_23 : decode cX3_shareByValues 23 = .ok (.iload_n 3, 1) := by decide +kernel
theorem dX3_shareByValues_24 : decode cX3_shareByValues 24 = .ok (.aload_n 0, 1) := by decide +kernel
theorem dX3_shareByValues_25 : decode cX3_shareByValues 25 = .ok (.getfield 29, 3) := by decide +kernel
theorem dX3_shareByValues_28 : decode cX3_shareByValues 28 = .ok (.iload 4, 2) := by decide +kernel
theorem dX3_shareByValues_30 : decode cX3_shareByValues 30 = .ok (.aaload, 1) := by decide +kernel
theorem dX3_shareByValues_31 : decode cX3_shareByValues 31 = .ok (.getfield 176, 3) := by decide +kernel
theorem dX3_shareByValues_34 : decode cX3_shareByValues 34 = .ok (.iadd, 1) := by decide +kernel
theorem dX3_shareByValues_35 : decode cX3_shareByValues 35 = .ok (.istore_n 3, 1) := by decide +kernel
theorem dX3_shareByValues_36 : decode cX3_shareByValues 36 = .ok (.iinc 4 1, 3) := by decide +kernel
theorem dX3_shareByValues_39 : decode cX3_shareByValues 39 = .ok (.goto (-34), 3) := by decide +kernel
theorem dX3_shareByValues_42 : decode cX3_shareByValues 42 = .ok (.iload_n 1, 1) := by decide +kernel
theorem dX3_shareByValues_43 : decode cX3_shareByValues 43 = .ok (.invokestatic 131, 3) := by decide +kernel
theorem dX3_shareByValues_46 : decode cX3_shareByValues 46 = .ok (.istore 4, 2) := by decide +kernel
theorem dX3_shareByValues_48 : decode cX3_shareByValues 48 = .ok (.iconst 0, 1) := by decide +kernel
theorem dX3_shareByValues_49 : decode cX3_shareByValues 49 = .ok (.istore 5, 2) := by decide +kernel
theorem dX3_shareByValues_51 : decode cX3_shareByValues 51 = .ok (.iload 5, 2) := by decide +kernel
theorem dX3_shareByValues_53 : decode cX3_shareByValues 53 = .ok (.aload_n 0, 1) := by decide +kernel
theorem dX3_shareByValues_54 : decode cX3_shareByValues 54 = .ok (.getfield 41, 3) := by decide +kernel
theorem dX3_shareByValues_57 : decode cX3_shareByValues 57 = .ok (.if_icmp .ge 79, 3) := by decide +kernel
theorem dX3_shareByValues_60 : decode cX3_shareByValues 60 = .ok (.iload_n 1, 1) := by decide +kernel
theorem dX3_shareByValues_61 : decode cX3_shareByValues 61 = .ok (.iload 5, 2) := by decide +kernel
theorem dX3_shareByValues_63 : decode cX3_shareByValues 63 = .ok (.invokestatic 167, 3) := by decide +kernel
theorem dX3_shareByValues_66 : decode cX3_shareByValues 66 = .ok (.ifCond .eq 64, 3) := by decide +kernel
theorem dX3_shareByValues_69 : decode cX3_shareByValues 69 = .ok (.aload_n 0, 1) := by decide +kernel
theorem dX3_shareByValues_70 : decode cX3_shareByValues 70 = .ok (.getfield 29, 3) := by decide +kernel
theorem dX3_shareByValues_73 : decode cX3_shareByValues 73 = .ok (.iload 5, 2) := by decide +kernel
theorem dX3_shareByValues_75 : decode cX3_shareByValues 75 = .ok (.aaload, 1) := by decide +kernel
theorem dX3_shareByValues_76 : decode cX3_shareByValues 76 = .ok (.iconst 3, 1) := by decide +kernel
theorem dX3_shareByValues_77 : decode cX3_shareByValues 77 = .ok (.putfield 161, 3) := by decide +kernel
theorem dX3_shareByValues_80 : decode cX3_shareByValues 80 = .ok (.iload_n 3, 1) := by decide +kernel
theorem dX3_shareByValues_81 : decode cX3_shareByValues 81 = .ok (.ifCond .le 30, 3) := by decide +kernel
theorem dX3_shareByValues_84 : decode cX3_shareByValues 84 = .ok (.aload_n 0, 1) := by decide +kernel
theorem dX3_shareByValues_85 : decode cX3_shareByValues 85 = .ok (.getfield 29, 3) := by decide +kernel
theorem dX3_shareByValues_88 : decode cX3_shareByValues 88 = .ok (.iload 5, 2) := by decide +kernel
theorem dX3_shareByValues_90 : decode cX3_shareByValues 90 = .ok (.aaload, 1) := by decide +kernel
theorem dX3_shareByValues_91 : decode cX3_shareByValues 91 = .ok (.iload_n 2, 1) := by decide +kernel
theorem dX3_shareByValues_92 : decode cX3_shareByValues 92 = .ok (.aload_n 0, 1) := by decide +kernel
theorem dX3_shareByValues_93 : decode cX3_shareByValues 93 = .ok (.getfield 29, 3) := by decide +kernel
theorem dX3_shareByValues_96 : decode cX3_shareByValues 96 = .ok (.iload 5, 2) := by decide +kernel
theorem dX3_shareByValues_98 : decode cX3_shareByValues 98 = .ok (.aaload, 1) := by decide +kernel
theorem dX3_shareByValues_99 : decode cX3_shareByValues 99 = .ok (.getfield 176, 3) := by decide +kernel
theorem dX3_shareByValues_102 : decode cX3_shareByValues 102 = .ok (.imul, 1) := by decide +kernel
theorem dX3_shareByValues_103 : decode cX3_shareByValues 103 = .ok (.iload_n 3, 1) := by decide +kernel
theorem dX3_shareByValues_104 : decode cX3_shareByValues 104 = .ok (.idiv, 1) := by decide +kernel
theorem dX3_shareByValues_105 : decode cX3_shareByValues 105 = .ok (.putfield 177, 3) := by decide +kernel
theorem dX3_shareByValues_108 : decode cX3_shareByValues 108 = .ok (.goto 22, 3) := by decide +kernel
theorem dX3_shareByValues_111 : decode cX3_shareByValues 111 = .ok (.iload 4, 2) := by decide +kernel
theorem dX3_shareByValues_113 : decode cX3_shareByValues 113 = .ok (.ifCond .le 17, 3) := by decide +kernel
theorem dX3_shareByValues_116 : decode cX3_shareByValues 116 = .ok (.aload_n 0, 1) := by decide +kernel
theorem dX3_shareByValues_117 : decode cX3_shareByValues 117 = .ok (.getfield 29, 3) := by decide +kernel
theorem dX3_shareByValues_120 : decode cX3_shareByValues 120 = .ok (.iload 5, 2) := by decide +kernel
theorem dX3_shareByValues_122 : decode cX3_shareByValues 122 = .ok (.aaload, 1) := by decide +kernel
theorem dX3_shareByValues_123 : decode cX3_shareByValues 123 = .ok (.iload_n 2, 1) := by decide +kernel
theorem dX3_shareByValues_124 : decode cX3_shareByValues 124 = .ok (.iload 4, 2) := by decide +kernel
theorem dX3_shareByValues_126 : decode cX3_shareByValues 126 = .ok (.idiv, 1) := by decide +kernel
theorem dX3_shareByValues_127 : decode cX3_shareByValues 127 = .ok (.putfield 177, 3) := by decide +kernel
theorem dX3_shareByValues_130 : decode cX3_shareByValues 130 = .ok (.iinc 5 1, 3) := by decide +kernel
theorem dX3_shareByValues_133 : decode cX3_shareByValues 133 = .ok (.goto (-82), 3) := by decide +kernel
theorem dX3_shareByValues_136 : decode cX3_shareByValues 136 = .ok (.return_, 1) := by decide +kernel
theorem dX3_shareRest_0 : decode cX3_shareRest 0 = .ok (.iload_n 2, 1) := by decide +kernel
theorem dX3_shareRest_1 : decode cX3_shareRest 1 = .ok (.istore_n 3, 1) := by decide +kernel
theorem dX3_shareRest_2 : decode cX3_shareRest 2 = .ok (.iconst 0, 1) := by decide +kernel
theorem dX3_shareRest_3 : decode cX3_shareRest 3 = .ok (.istore 4, 2) := by decide +kernel
theorem dX3_shareRest_5 : decode cX3_shareRest 5 = .ok (.iload 4, 2) := by decide +kernel
theorem dX3_shareRest_7 : decode cX3_shareRest 7 = .ok (.aload_n 0, 1) := by decide +kernel
theorem dX3_shareRest_8 : decode cX3_shareRest 8 = .ok (.getfield 41, 3) := by decide +kernel
theorem dX3_shareRest_11 : decode cX3_shareRest 11 = .ok (.if_icmp .ge 31, 3) := by decide +kernel
theorem dX3_shareRest_14 : decode cX3_shareRest 14 = .ok (.iload_n 1, 1) := by decide +kernel
theorem dX3_shareRest_15 : decode cX3_shareRest 15 = .ok (.iload 4, 2) := by decide +kernel
theorem dX3_shareRest_17 : decode cX3_shareRest 17 = .ok (.invokestatic 167, 3) := by decide +kernel
theorem dX3_shareRest_20 : decode cX3_shareRest 20 = .ok (.ifCond .eq 16, 3) := by decide +kernel
theorem dX3_shareRest_23 : decode cX3_shareRest 23 = .ok (.iload_n 3, 1) := by decide +kernel
theorem dX3_shareRest_24 : decode cX3_shareRest 24 = .ok (.aload_n 0, 1) := by decide +kernel
theorem dX3_shareRest_25 : decode cX3_shareRest 25 = .ok (.getfield 29, 3) := by decide +kernel
theorem dX3_shareRest_28 : decode cX3_shareRest 28 = .ok (.iload 4, 2) := by decide +kernel
theorem dX3_shareRest_30 : decode cX3_shareRest 30 = .ok (.aaload, 1) := by decide +kernel
theorem dX3_shareRest_31 : decode cX3_shareRest 31 = .ok (.getfield 177, 3) := by decide +kernel
theorem dX3_shareRest_34 : decode cX3_shareRest 34 = .ok (.isub, 1) := by decide +kernel
theorem dX3_shareRest_35 : decode cX3_shareRest 35 = .ok (.istore_n 3, 1) := by decide +kernel
theorem dX3_shareRest_36 : decode cX3_shareRest 36 = .ok (.iinc 4 1, 3) := by decide +kernel
theorem dX3_shareRest_39 : decode cX3_shareRest 39 = .ok (.goto (-34), 3) := by decide +kernel
theorem dX3_shareRest_42 : decode cX3_shareRest 42 = .ok (.iconst 0, 1) := by decide +kernel
theorem dX3_shareRest_43 : decode cX3_shareRest 43 = .ok (.istore 4, 2) := by decide +kernel
theorem dX3_shareRest_45 : decode cX3_shareRest 45 = .ok (.iconst 0, 1) := by decide +kernel
theorem dX3_shareRest_46 : decode cX3_shareRest 46 = .ok (.istore 5, 2) := by decide +kernel
theorem dX3_shareRest_48 : decode cX3_shareRest 48 = .ok (.iload 5, 2) := by decide +kernel
theorem dX3_shareRest_50 : decode cX3_shareRest 50 = .ok (.aload_n 0, 1) := by decide +kernel
theorem dX3_shareRest_51 : decode cX3_shareRest 51 = .ok (.getfield 41, 3) := by decide +kernel
theorem dX3_shareRest_54 : decode cX3_shareRest 54 = .ok (.if_icmp .ge 58, 3) := by decide +kernel
theorem dX3_shareRest_57 : decode cX3_shareRest 57 = .ok (.iload_n 1, 1) := by decide +kernel
theorem dX3_shareRest_58 : decode cX3_shareRest 58 = .ok (.iload 5, 2) := by decide +kernel
theorem dX3_shareRest_60 : decode cX3_shareRest 60 = .ok (.invokestatic 167, 3) := by decide +kernel
theorem dX3_shareRest_63 : decode cX3_shareRest 63 = .ok (.ifCond .eq 43, 3) := by decide +kernel
theorem dX3_shareRest_66 : decode cX3_shareRest 66 = .ok (.iload_n 3, 1) := by decide +kernel
theorem dX3_shareRest_67 : decode cX3_shareRest 67 = .ok (.ifCond .le 22, 3) := by decide +kernel
theorem dX3_shareRest_70 : decode cX3_shareRest 70 = .ok (.aload_n 0, 1) := by decide +kernel
theorem dX3_shareRest_71 : decode cX3_shareRest 71 = .ok (.getfield 29, 3) := by decide +kernel
theorem dX3_shareRest_74 : decode cX3_shareRest 74 = .ok (.iload 5, 2) := by decide +kernel
theorem dX3_shareRest_76 : decode cX3_shareRest 76 = .ok (.aaload, 1) := by decide +kernel
theorem dX3_shareRest_77 : decode cX3_shareRest 77 = .ok (.dup, 1) := by decide +kernel
theorem dX3_shareRest_78 : decode cX3_shareRest 78 = .ok (.getfield 177, 3) := by decide +kernel
theorem dX3_shareRest_81 : decode cX3_shareRest 81 = .ok (.iconst 1, 1) := by decide +kernel
theorem dX3_shareRest_82 : decode cX3_shareRest 82 = .ok (.iadd, 1) := by decide +kernel
theorem dX3_shareRest_83 : decode cX3_shareRest 83 = .ok (.putfield 177, 3) := by decide +kernel
theorem dX3_shareRest_86 : decode cX3_shareRest 86 = .ok (.iinc 3 (-1), 3) := by decide +kernel
theorem dX3_shareRest_89 : decode cX3_shareRest 89 = .ok (.iload 4, 2) := by decide +kernel
theorem dX3_shareRest_91 : decode cX3_shareRest 91 = .ok (.aload_n 0, 1) := by decide +kernel
theorem dX3_shareRest_92 : decode cX3_shareRest 92 = .ok (.getfield 29, 3) := by decide +kernel
theorem dX3_shareRest_95 : decode cX3_shareRest 95 = .ok (.iload 5, 2) := by decide +kernel
theorem dX3_shareRest_97 : decode cX3_shareRest 97 = .ok (.aaload, 1) := by decide +kernel
theorem dX3_shareRest_98 : decode cX3_shareRest 98 = .ok (.getfield 177, 3) := by decide +kernel
theorem dX3_shareRest_101 : decode cX3_shareRest 101 = .ok (.invokestatic 180, 3) := by decide +kernel
theorem dX3_shareRest_104 : decode cX3_shareRest 104 = .ok (.istore 4, 2) := by decide +kernel
theorem dX3_shareRest_106 : decode cX3_shareRest 106 = .ok (.iinc 5 1, 3) := by decide +kernel
theorem dX3_shareRest_109 : decode cX3_shareRest 109 = .ok (.goto (-61), 3) := by decide +kernel
theorem dX3_shareRest_112 : decode cX3_shareRest 112 = .ok (.iload 4, 2) := by decide +kernel
theorem dX3_shareRest_114 : decode cX3_shareRest 114 = .ok (.ireturn, 1) := by decide +kernel
