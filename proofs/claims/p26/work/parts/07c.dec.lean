theorem dX6_init_0 : decode cX6_init 0 = .ok (.aload_n 0, 1) := by decide +kernel
theorem dX6_init_1 : decode cX6_init 1 = .ok (.invokespecial 1, 3) := by decide +kernel
theorem dX6_init_4 : decode cX6_init 4 = .ok (.aload_n 0, 1) := by decide +kernel
theorem dX6_init_5 : decode cX6_init 5 = .ok (.new 7, 3) := by decide +kernel
theorem dX6_init_8 : decode cX6_init 8 = .ok (.dup, 1) := by decide +kernel
theorem dX6_init_9 : decode cX6_init 9 = .ok (.invokespecial 9, 3) := by decide +kernel
theorem dX6_init_12 : decode cX6_init 12 = .ok (.putfield 10, 3) := by decide +kernel
theorem dX6_init_15 : decode cX6_init 15 = .ok (.aload_n 0, 1) := by decide +kernel
theorem dX6_init_16 : decode cX6_init 16 = .ok (.new 7, 3) := by decide +kernel
theorem dX6_init_19 : decode cX6_init 19 = .ok (.dup, 1) := by decide +kernel
theorem dX6_init_20 : decode cX6_init 20 = .ok (.invokespecial 9, 3) := by decide +kernel
theorem dX6_init_23 : decode cX6_init 23 = .ok (.putfield 16, 3) := by decide +kernel
theorem dX6_init_26 : decode cX6_init 26 = .ok (.aload_n 0, 1) := by decide +kernel
theorem dX6_init_27 : decode cX6_init 27 = .ok (.bipush 7, 2) := by decide +kernel
theorem dX6_init_29 : decode cX6_init 29 = .ok (.anewarray 7, 3) := by decide +kernel
theorem dX6_init_32 : decode cX6_init 32 = .ok (.putfield 19, 3) := by decide +kernel
theorem dX6_init_35 : decode cX6_init 35 = .ok (.aload_n 0, 1) := by decide +kernel
theorem dX6_init_36 : decode cX6_init 36 = .ok (.new 23, 3) := by decide +kernel
theorem dX6_init_39 : decode cX6_init 39 = .ok (.dup, 1) := by decide +kernel
theorem dX6_init_40 : decode cX6_init 40 = .ok (.invokespecial 25, 3) := by decide +kernel
theorem dX6_init_43 : decode cX6_init 43 = .ok (.putfield 26, 3) := by decide +kernel
theorem dX6_init_46 : decode cX6_init 46 = .ok (.aload_n 0, 1) := by decide +kernel
theorem dX6_init_47 : decode cX6_init 47 = .ok (.new 30, 3) := by decide +kernel
theorem dX6_init_50 : decode cX6_init 50 = .ok (.dup, 1) := by decide +kernel
theorem dX6_init_51 : decode cX6_init 51 = .ok (.invokespecial 32, 3) := by decide +kernel
theorem dX6_init_54 : decode cX6_init 54 = .ok (.putfield 33, 3) := by decide +kernel
theorem dX6_init_57 : decode cX6_init 57 = .ok (.iconst 0, 1) := by decide +kernel
theorem dX6_init_58 : decode cX6_init 58 = .ok (.istore_n 1, 1) := by decide +kernel
theorem dX6_init_59 : decode cX6_init 59 = .ok (.iload_n 1, 1) := by decide +kernel
theorem dX6_init_60 : decode cX6_init 60 = .ok (.aload_n 0, 1) := by decide +kernel
theorem dX6_init_61 : decode cX6_init 61 = .ok (.getfield 19, 3) := by decide +kernel
theorem dX6_init_64 : decode cX6_init 64 = .ok (.arraylength, 1) := by decide +kernel
theorem dX6_init_65 : decode cX6_init 65 = .ok (.if_icmp .ge 22, 3) := by decide +kernel
theorem dX6_init_68 : decode cX6_init 68 = .ok (.aload_n 0, 1) := by decide +kernel
theorem dX6_init_69 : decode cX6_init 69 = .ok (.getfield 19, 3) := by decide +kernel
theorem dX6_init_72 : decode cX6_init 72 = .ok (.iload_n 1, 1) := by decide +kernel
theorem dX6_init_73 : decode cX6_init 73 = .ok (.new 7, 3) := by decide +kernel
theorem dX6_init_76 : decode cX6_init 76 = .ok (.dup, 1) := by decide +kernel
theorem dX6_init_77 : decode cX6_init 77 = .ok (.invokespecial 9, 3) := by decide +kernel
theorem dX6_init_80 : decode cX6_init 80 = .ok (.aastore, 1) := by decide +kernel
theorem dX6_init_81 : decode cX6_init 81 = .ok (.iinc 1 1, 3) := by decide +kernel
theorem dX6_init_84 : decode cX6_init 84 = .ok (.goto (-25), 3) := by decide +kernel
theorem dX6_init_87 : decode cX6_init 87 = .ok (.return_, 1) := by decide +kernel
theorem dX6_addVan_0 : decode cX6_addVan 0 = .ok (.aload_n 0, 1) := by decide +kernel
theorem dX6_addVan_1 : decode cX6_addVan 1 = .ok (.invokevirtual 37, 3) := by decide +kernel
theorem dX6_addVan_4 : decode cX6_addVan 4 = .ok (.aload_n 0, 1) := by decide +kernel
theorem dX6_addVan_5 : decode cX6_addVan 5 = .ok (.aload_n 0, 1) := by decide +kernel
theorem dX6_addVan_6 : decode cX6_addVan 6 = .ok (.getfield 10, 3) := by decide +kernel
theorem dX6_addVan_9 : decode cX6_addVan 9 = .ok (.iload_n 1, 1) := by decide +kernel
theorem dX6_addVan_10 : decode cX6_addVan 10 = .ok (.iload_n 2, 1) := by decide +kernel
theorem dX6_addVan_11 : decode cX6_addVan 11 = .ok (.invokevirtual 40, 3) := by decide +kernel
theorem dX6_addVan_14 : decode cX6_addVan 14 = .ok (.invokevirtual 44, 3) := by decide +kernel
theorem dX6_addVan_17 : decode cX6_addVan 17 = .ok (.ireturn, 1) := by decide +kernel
theorem dX6_setNumber_0 : decode cX6_setNumber 0 = .ok (.aload_n 0, 1) := by decide +kernel
theorem dX6_setNumber_1 : decode cX6_setNumber 1 = .ok (.invokevirtual 37, 3) := by decide +kernel
theorem dX6_setNumber_4 : decode cX6_setNumber 4 = .ok (.aload_n 0, 1) := by decide +kernel
theorem dX6_setNumber_5 : decode cX6_setNumber 5 = .ok (.aload_n 0, 1) := by decide +kernel
theorem dX6_setNumber_6 : decode cX6_setNumber 6 = .ok (.getfield 10, 3) := by decide +kernel
theorem dX6_setNumber_9 : decode cX6_setNumber 9 = .ok (.iload_n 1, 1) := by decide +kernel
theorem dX6_setNumber_10 : decode cX6_setNumber 10 = .ok (.iload_n 2, 1) := by decide +kernel
theorem dX6_setNumber_11 : decode cX6_setNumber 11 = .ok (.invokevirtual 48, 3) := by decide +kernel
theorem dX6_setNumber_14 : decode cX6_setNumber 14 = .ok (.invokevirtual 44, 3) := by decide +kernel
theorem dX6_setNumber_17 : decode cX6_setNumber 17 = .ok (.ireturn, 1) := by decide +kernel
theorem dX6_setVan_0 : decode cX6_setVan 0 = .ok (.aload_n 0, 1) := by decide +kernel
theorem dX6_setVan_1 : decode cX6_setVan 1 = .ok (.invokevirtual 37, 3) := by decide +kernel
theorem dX6_setVan_4 : decode cX6_setVan 4 = .ok (.aload_n 0, 1) := by decide +kernel
theorem dX6_setVan_5 : decode cX6_setVan 5 = .ok (.aload_n 0, 1) := by decide +kernel
theorem dX6_setVan_6 : decode cX6_setVan 6 = .ok (.getfield 10, 3) := by decide +kernel
theorem dX6_setVan_9 : decode cX6_setVan 9 = .ok (.iload_n 1, 1) := by decide +kernel
theorem dX6_setVan_10 : decode cX6_setVan 10 = .ok (.iload_n 2, 1) := by decide +kernel
theorem dX6_setVan_11 : decode cX6_setVan 11 = .ok (.iload_n 3, 1) := by decide +kernel
theorem dX6_setVan_12 : decode cX6_setVan 12 = .ok (.invokevirtual 51, 3) := by decide +kernel
theorem dX6_setVan_15 : decode cX6_setVan 15 = .ok (.invokevirtual 44, 3) := by decide +kernel
theorem dX6_setVan_18 : decode cX6_setVan 18 = .ok (.ireturn, 1) := by decide +kernel
theorem dX6_setProbe_0 : decode cX6_setProbe 0 = .ok (.aload_n 0, 1) := by decide +kernel
theorem dX6_setProbe_1 : decode cX6_setProbe 1 = .ok (.invokevirtual 37, 3) := by decide +kernel
theorem dX6_setProbe_4 : decode cX6_setProbe 4 = .ok (.aload_n 0, 1) := by decide +kernel
theorem dX6_setProbe_5 : decode cX6_setProbe 5 = .ok (.aload_n 0, 1) := by decide +kernel
theorem dX6_setProbe_6 : decode cX6_setProbe 6 = .ok (.getfield 10, 3) := by decide +kernel
theorem dX6_setProbe_9 : decode cX6_setProbe 9 = .ok (.iload_n 1, 1) := by decide +kernel
theorem dX6_setProbe_10 : decode cX6_setProbe 10 = .ok (.iload_n 2, 1) := by decide +kernel
theorem dX6_setProbe_11 : decode cX6_setProbe 11 = .ok (.iload_n 3, 1) := by decide +kernel
theorem dX6_setProbe_12 : decode cX6_setProbe 12 = .ok (.iload 4, 2) := by decide +kernel
theorem dX6_setProbe_14 : decode cX6_setProbe 14 = .ok (.invokevirtual 55, 3) := by decide +kernel
theorem dX6_setProbe_17 : decode cX6_setProbe 17 = .ok (.invokevirtual 44, 3) := by decide +kernel
theorem dX6_setProbe_20 : decode cX6_setProbe 20 = .ok (.ireturn, 1) := by decide +kernel
theorem dX6_repair_0 : decode cX6_repair 0 = .ok (.aload_n 0, 1) := by decide +kernel
theorem dX6_repair_1 : decode cX6_repair 1 = .ok (.invokevirtual 37, 3) := by decide +kernel
theorem dX6_repair_4 : decode cX6_repair 4 = .ok (.aload_n 0, 1) := by decide +kernel
theorem dX6_repair_5 : decode cX6_repair 5 = .ok (.aload_n 0, 1) := by decide +kernel
theorem dX6_repair_6 : decode cX6_repair 6 = .ok (.getfield 10, 3) := by decide +kernel
theorem dX6_repair_9 : decode cX6_repair 9 = .ok (.iload_n 1, 1) := by decide +kernel
theorem dX6_repair_10 : decode cX6_repair 10 = .ok (.iload_n 2, 1) := by decide +kernel
theorem dX6_repair_11 : decode cX6_repair 11 = .ok (.invokevirtual 59, 3) := by decide +kernel
theorem dX6_repair_14 : decode cX6_repair 14 = .ok (.invokevirtual 44, 3) := by decide +kernel
theorem dX6_repair_17 : decode cX6_repair 17 = .ok (.ireturn, 1) := by decide +kernel
theorem dX6_loadPallet_0 : decode cX6_loadPallet 0 = .ok (.aload_n 0, 1) := by decide +kernel
theorem dX6_loadPallet_1 : decode cX6_loadPallet 1 = .ok (.invokevirtual 37, 3) := by decide +kernel
theorem dX6_loadPallet_4 : decode cX6_loadPallet 4 = .ok (.aload_n 0, 1) := by decide +kernel
theorem dX6_loadPallet_5 : decode cX6_loadPallet 5 = .ok (.aload_n 0, 1) := by decide +kernel
theorem dX6_loadPallet_6 : decode cX6_loadPallet 6 = .ok (.getfield 10, 3) := by decide +kernel
theorem dX6_loadPallet_9 : decode cX6_loadPallet 9 = .ok (.iload_n 1, 1) := by decide +kernel
theorem dX6_loadPallet_10 : decode cX6_loadPallet 10 = .ok (.iload_n 2, 1) := by decide +kernel
theorem dX6_loadPallet_11 : decode cX6_loadPallet 11 = .ok (.iload_n 3, 1) := by decide +kernel
theorem dX6_loadPallet_12 : decode cX6_loadPallet 12 = .ok (.iload 4, 2) := by decide +kernel
theorem dX6_loadPallet_14 : decode cX6_loadPallet 14 = .ok (.iload 5, 2) := by decide +kernel
theorem dX6_loadPallet_16 : decode cX6_loadPallet 16 = .ok (.invokevirtual 62, 3) := by decide +kernel
theorem dX6_loadPallet_19 : decode cX6_loadPallet 19 = .ok (.invokevirtual 44, 3) := by decide +kernel
theorem dX6_loadPallet_22 : decode cX6_loadPallet 22 = .ok (.ireturn, 1) := by decide +kernel
theorem dX6_door_0 : decode cX6_door 0 = .ok (.aload_n 0, 1) := by decide +kernel
theorem dX6_door_1 : decode cX6_door 1 = .ok (.invokevirtual 37, 3) := by decide +kernel
theorem dX6_door_4 : decode cX6_door 4 = .ok (.aload_n 0, 1) := by decide +kernel
theorem dX6_door_5 : decode cX6_door 5 = .ok (.aload_n 0, 1) := by decide +kernel
theorem dX6_door_6 : decode cX6_door 6 = .ok (.getfield 10, 3) := by decide +kernel
theorem dX6_door_9 : decode cX6_door 9 = .ok (.iload_n 1, 1) := by decide +kernel
theorem dX6_door_10 : decode cX6_door 10 = .ok (.iload_n 2, 1) := by decide +kernel
theorem dX6_door_11 : decode cX6_door 11 = .ok (.invokevirtual 66, 3) := by decide +kernel
theorem dX6_door_14 : decode cX6_door 14 = .ok (.invokevirtual 44, 3) := by decide +kernel
theorem dX6_door_17 : decode cX6_door 17 = .ok (.ireturn, 1) := by decide +kernel
theorem dX6_pass_0 : decode cX6_pass 0 = .ok (.aload_n 0, 1) := by decide +kernel
theorem dX6_pass_1 : decode cX6_pass 1 = .ok (.invokevirtual 37, 3) := by decide +kernel
theorem dX6_pass_4 : decode cX6_pass 4 = .ok (.aload_n 0, 1) := by decide +kernel
theorem dX6_pass_5 : decode cX6_pass 5 = .ok (.aload_n 0, 1) := by decide +kernel
theorem dX6_pass_6 : decode cX6_pass 6 = .ok (.getfield 10, 3) := by decide +kernel
theorem dX6_pass_9 : decode cX6_pass 9 = .ok (.iload_n 1, 1) := by decide +kernel
theorem dX6_pass_10 : decode cX6_pass 10 = .ok (.aload_n 0, 1) := by decide +kernel
theorem dX6_pass_11 : decode cX6_pass 11 = .ok (.getfield 26, 3) := by decide +kernel
theorem dX6_pass_14 : decode cX6_pass 14 = .ok (.invokevirtual 69, 3) := by decide +kernel
theorem dX6_pass_17 : decode cX6_pass 17 = .ok (.invokevirtual 44, 3) := by decide +kernel
theorem dX6_pass_20 : decode cX6_pass 20 = .ok (.ireturn, 1) := by decide +kernel
theorem dX6_deliver_0 : decode cX6_deliver 0 = .ok (.aload_n 0, 1) := by decide +kernel
theorem dX6_deliver_1 : decode cX6_deliver 1 = .ok (.invokevirtual 37, 3) := by decide +kernel
theorem dX6_deliver_4 : decode cX6_deliver 4 = .ok (.aload_n 0, 1) := by decide +kernel
theorem dX6_deliver_5 : decode cX6_deliver 5 = .ok (.aload_n 0, 1) := by decide +kernel
theorem dX6_deliver_6 : decode cX6_deliver 6 = .ok (.getfield 10, 3) := by decide +kernel
theorem dX6_deliver_9 : decode cX6_deliver 9 = .ok (.iload_n 1, 1) := by decide +kernel
theorem dX6_deliver_10 : decode cX6_deliver 10 = .ok (.invokevirtual 73, 3) := by decide +kernel
theorem dX6_deliver_13 : decode cX6_deliver 13 = .ok (.invokevirtual 44, 3) := by decide +kernel
theorem dX6_deliver_16 : decode cX6_deliver 16 = .ok (.ireturn, 1) := by decide +kernel
theorem dX6_detour_0 : decode cX6_detour 0 = .ok (.aload_n 0, 1) := by decide +kernel
theorem dX6_detour_1 : decode cX6_detour 1 = .ok (.invokevirtual 37, 3) := by decide +kernel
theorem dX6_detour_4 : decode cX6_detour 4 = .ok (.aload_n 0, 1) := by decide +kernel
theorem dX6_detour_5 : decode cX6_detour 5 = .ok (.aload_n 0, 1) := by decide +kernel
theorem dX6_detour_6 : decode cX6_detour 6 = .ok (.getfield 10, 3) := by decide +kernel
theorem dX6_detour_9 : decode cX6_detour 9 = .ok (.iload_n 1, 1) := by decide +kernel
theorem dX6_detour_10 : decode cX6_detour 10 = .ok (.iload_n 2, 1) := by decide +kernel
theorem dX6_detour_11 : decode cX6_detour 11 = .ok (.invokevirtual 76, 3) := by decide +kernel
theorem dX6_detour_14 : decode cX6_detour 14 = .ok (.invokevirtual 44, 3) := by decide +kernel
theorem dX6_detour_17 : decode cX6_detour 17 = .ok (.ireturn, 1) := by decide +kernel
theorem dX6_count_0 : decode cX6_count 0 = .ok (.iload_n 1, 1) := by decide +kernel
theorem dX6_count_1 : decode cX6_count 1 = .ok (.tableswitch 120 0 8 #[51, 59, 67, 75, 83, 91, 99, 107, 112], 51) := by decide +kernel
theorem dX6_count_52 : decode cX6_count 52 = .ok (.aload_n 0, 1) := by decide +kernel
theorem dX6_count_53 : decode cX6_count 53 = .ok (.getfield 10, 3) := by decide +kernel
theorem dX6_count_56 : decode cX6_count 56 = .ok (.getfield 109, 3) := by decide +kernel
theorem dX6_count_59 : decode cX6_count 59 = .ok (.ireturn, 1) := by decide +kernel
theorem dX6_count_60 : decode cX6_count 60 = .ok (.aload_n 0, 1) := by decide +kernel
theorem dX6_count_61 : decode cX6_count 61 = .ok (.getfield 10, 3) := by decide +kernel
theorem dX6_count_64 : decode cX6_count 64 = .ok (.getfield 112, 3) := by decide +kernel
theorem dX6_count_67 : decode cX6_count 67 = .ok (.ireturn, 1) := by decide +kernel
theorem dX6_count_68 : decode cX6_count 68 = .ok (.aload_n 0, 1) := by decide +kernel
theorem dX6_count_69 : decode cX6_count 69 = .ok (.getfield 10, 3) := by decide +kernel
theorem dX6_count_72 : decode cX6_count 72 = .ok (.getfield 115, 3) := by decide +kernel
theorem dX6_count_75 : decode cX6_count 75 = .ok (.ireturn, 1) := by decide +kernel
theorem dX6_count_76 : decode cX6_count 76 = .ok (.aload_n 0, 1) := by decide +kernel
theorem dX6_count_77 : decode cX6_count 77 = .ok (.getfield 10, 3) := by decide +kernel
theorem dX6_count_80 : decode cX6_count 80 = .ok (.getfield 118, 3) := by decide +kernel
theorem dX6_count_83 : decode cX6_count 83 = .ok (.ireturn, 1) := by decide +kernel
theorem dX6_count_84 : decode cX6_count 84 = .ok (.aload_n 0, 1) := by decide +kernel
theorem dX6_count_85 : decode cX6_count 85 = .ok (.getfield 10, 3) := by decide +kernel
theorem dX6_count_88 : decode cX6_count 88 = .ok (.getfield 121, 3) := by decide +kernel
theorem dX6_count_91 : decode cX6_count 91 = .ok (.ireturn, 1) := by decide +kernel
theorem dX6_count_92 : decode cX6_count 92 = .ok (.aload_n 0, 1) := by decide +kernel
theorem dX6_count_93 : decode cX6_count 93 = .ok (.getfield 10, 3) := by decide +kernel
theorem dX6_count_96 : decode cX6_count 96 = .ok (.getfield 124, 3) := by decide +kernel
theorem dX6_count_99 : decode cX6_count 99 = .ok (.ireturn, 1) := by decide +kernel
theorem dX6_count_100 : decode cX6_count 100 = .ok (.aload_n 0, 1) := by decide +kernel
theorem dX6_count_101 : decode cX6_count 101 = .ok (.getfield 33, 3) := by decide +kernel
theorem dX6_count_104 : decode cX6_count 104 = .ok (.getfield 82, 3) := by decide +kernel
theorem dX6_count_107 : decode cX6_count 107 = .ok (.ireturn, 1) := by decide +kernel
theorem dX6_count_108 : decode cX6_count 108 = .ok (.aload_n 0, 1) := by decide +kernel
theorem dX6_count_109 : decode cX6_count 109 = .ok (.getfield 127, 3) := by decide +kernel
theorem dX6_count_112 : decode cX6_count 112 = .ok (.ireturn, 1) := by decide +kernel
theorem dX6_count_113 : decode cX6_count 113 = .ok (.aload_n 0, 1) := by decide +kernel
theorem dX6_count_114 : decode cX6_count 114 = .ok (.getfield 10, 3) := by decide +kernel
theorem dX6_count_117 : decode cX6_count 117 = .ok (.invokevirtual 130, 3) := by decide +kernel
theorem dX6_count_120 : decode cX6_count 120 = .ok (.ireturn, 1) := by decide +kernel
theorem dX6_count_121 : decode cX6_count 121 = .ok (.ldc 133, 2) := by decide +kernel
theorem dX6_count_123 : decode cX6_count 123 = .ok (.ireturn, 1) := by decide +kernel
theorem dX6_van_0 : decode cX6_van 0 = .ok (.aload_n 0, 1) := by decide +kernel
theorem dX6_van_1 : decode cX6_van 1 = .ok (.getfield 10, 3) := by decide +kernel
theorem dX6_van_4 : decode cX6_van 4 = .ok (.iload_n 1, 1) := by decide +kernel
theorem dX6_van_5 : decode cX6_van 5 = .ok (.invokevirtual 134, 3) := by decide +kernel
theorem dX6_van_8 : decode cX6_van 8 = .ok (.ifCond .ne 6, 3) := by decide +kernel
theorem dX6_van_11 : decode cX6_van 11 = .ok (.ldc 133, 2) := by decide +kernel
theorem dX6_van_13 : decode cX6_van 13 = .ok (.ireturn, 1) := by decide +kernel
theorem dX6_van_14 : decode cX6_van 14 = .ok (.aload_n 0, 1) := by decide +kernel
theorem dX6_van_15 : decode cX6_van 15 = .ok (.getfield 10, 3) := by decide +kernel
theorem dX6_van_18 : decode cX6_van 18 = .ok (.getfield 137, 3) := by decide +kernel
theorem dX6_van_21 : decode cX6_van 21 = .ok (.iload_n 1, 1) := by decide +kernel
theorem dX6_van_22 : decode cX6_van 22 = .ok (.aaload, 1) := by decide +kernel
theorem dX6_van_23 : decode cX6_van 23 = .ok (.astore_n 3, 1) := by decide +kernel
theorem dX6_van_24 : decode cX6_van 24 = .ok (.iload_n 2, 1) := by decide +kernel
theorem dX6_van_25 : decode cX6_van 25 = .ok (.tableswitch 63 0 3 #[31, 36, 41, 54], 31) := by decide +kernel
theorem dX6_van_56 : decode cX6_van 56 = .ok (.aload_n 3, 1) := by decide +kernel
theorem dX6_van_57 : decode cX6_van 57 = .ok (.getfield 141, 3) := by decide +kernel
theorem dX6_van_60 : decode cX6_van 60 = .ok (.ireturn, 1) := by decide +kernel
theorem dX6_van_61 : decode cX6_van 61 = .ok (.aload_n 3, 1) := by decide +kernel
theorem dX6_van_62 : decode cX6_van 62 = .ok (.getfield 146, 3) := by decide +kernel
theorem dX6_van_65 : decode cX6_van 65 = .ok (.ireturn, 1) := by decide +kernel
theorem dX6_van_66 : decode cX6_van 66 = .ok (.aload_n 3, 1) := by decide +kernel
theorem dX6_van_67 : decode cX6_van 67 = .ok (.getfield 149, 3) := by decide +kernel
theorem dX6_van_70 : decode cX6_van 70 = .ok (.ifCond .eq 7, 3) := by decide +kernel
theorem dX6_van_73 : decode cX6_van 73 = .ok (.iconst 1, 1) := by decide +kernel
theorem dX6_van_74 : decode cX6_van 74 = .ok (.goto 4, 3) := by decide +kernel
theorem dX6_van_77 : decode cX6_van 77 = .ok (.iconst 0, 1) := by decide +kernel
theorem dX6_van_78 : decode cX6_van 78 = .ok (.ireturn, 1) := by decide +kernel
theorem dX6_van_79 : decode cX6_van 79 = .ok (.aload_n 0, 1) := by decide +kernel
theorem dX6_van_80 : decode cX6_van 80 = .ok (.getfield 10, 3) := by decide +kernel
theorem dX6_van_83 : decode cX6_van 83 = .ok (.iload_n 1, 1) := by decide +kernel
theorem dX6_van_84 : decode cX6_van 84 = .ok (.invokevirtual 153, 3) := by decide +kernel
theorem dX6_van_87 : decode cX6_van 87 = .ok (.ireturn, 1) := by decide +kernel
theorem dX6_van_88 : decode cX6_van 88 = .ok (.ldc 133, 2) := by decide +kernel
theorem dX6_van_90 : decode cX6_van 90 = .ok (.ireturn, 1) := by decide +kernel
theorem dX6_zone_0 : decode cX6_zone 0 = .ok (.aload_n 0, 1) := by decide +kernel
theorem dX6_zone_1 : decode cX6_zone 1 = .ok (.getfield 10, 3) := by decide +kernel
theorem dX6_zone_4 : decode cX6_zone 4 = .ok (.iload_n 1, 1) := by decide +kernel
theorem dX6_zone_5 : decode cX6_zone 5 = .ok (.iload_n 2, 1) := by decide +kernel
theorem dX6_zone_6 : decode cX6_zone 6 = .ok (.invokevirtual 156, 3) := by decide +kernel
theorem dX6_zone_9 : decode cX6_zone 9 = .ok (.ifCond .ne 6, 3) := by decide +kernel
theorem dX6_zone_12 : decode cX6_zone 12 = .ok (.ldc 133, 2) := by decide +kernel
theorem dX6_zone_14 : decode cX6_zone 14 = .ok (.ireturn, 1) := by decide +kernel
theorem dX6_zone_15 : decode cX6_zone 15 = .ok (.aload_n 0, 1) := by decide +kernel
theorem dX6_zone_16 : decode cX6_zone 16 = .ok (.getfield 10, 3) := by decide +kernel
theorem dX6_zone_19 : decode cX6_zone 19 = .ok (.getfield 137, 3) := by decide +kernel
theorem dX6_zone_22 : decode cX6_zone 22 = .ok (.iload_n 1, 1) := by decide +kernel
theorem dX6_zone_23 : decode cX6_zone 23 = .ok (.aaload, 1) := by decide +kernel
theorem dX6_zone_24 : decode cX6_zone 24 = .ok (.getfield 160, 3) := by decide +kernel
theorem dX6_zone_27 : decode cX6_zone 27 = .ok (.iload_n 2, 1) := by decide +kernel
theorem dX6_zone_28 : decode cX6_zone 28 = .ok (.aaload, 1) := by decide +kernel
theorem dX6_zone_29 : decode cX6_zone 29 = .ok (.astore 4, 2) := by decide +kernel
theorem dX6_zone_31 : decode cX6_zone 31 = .ok (.iload_n 3, 1) := by decide +kernel
theorem dX6_zone_32 : decode cX6_zone 32 = .ok (.tableswitch 92 0 5 #[40, 46, 52, 66, 72, 86], 40) := by decide +kernel
theorem dX6_zone_72 : decode cX6_zone 72 = .ok (.aload 4, 2) := by decide +kernel
theorem dX6_zone_74 : decode cX6_zone 74 = .ok (.getfield 164, 3) := by decide +kernel
theorem dX6_zone_77 : decode cX6_zone 77 = .ok (.ireturn, 1) := by decide +kernel
theorem dX6_zone_78 : decode cX6_zone 78 = .ok (.aload 4, 2) := by decide +kernel
theorem dX6_zone_80 : decode cX6_zone 80 = .ok (.invokevirtual 169, 3) := by decide +kernel
theorem dX6_zone_83 : decode cX6_zone 83 = .ok (.ireturn, 1) := by decide +kernel
theorem dX6_zone_84 : decode cX6_zone 84 = .ok (.aload_n 0, 1) := by decide +kernel
theorem dX6_zone_85 : decode cX6_zone 85 = .ok (.getfield 10, 3) := by decide +kernel
theorem dX6_zone_88 : decode cX6_zone 88 = .ok (.getfield 137, 3) := by decide +kernel
theorem dX6_zone_91 : decode cX6_zone 91 = .ok (.iload_n 1, 1) := by decide +kernel
theorem dX6_zone_92 : decode cX6_zone 92 = .ok (.aaload, 1) := by decide +kernel
theorem dX6_zone_93 : decode cX6_zone 93 = .ok (.iload_n 2, 1) := by decide +kernel
theorem dX6_zone_94 : decode cX6_zone 94 = .ok (.invokevirtual 172, 3) := by decide +kernel
theorem dX6_zone_97 : decode cX6_zone 97 = .ok (.ireturn, 1) := by decide +kernel
theorem dX6_zone_98 : decode cX6_zone 98 = .ok (.aload 4, 2) := by decide +kernel
theorem dX6_zone_100 : decode cX6_zone 100 = .ok (.getfield 175, 3) := by decide +kernel
theorem dX6_zone_103 : decode cX6_zone 103 = .ok (.ireturn, 1) := by decide +kernel
theorem dX6_zone_104 : decode cX6_zone 104 = .ok (.aload 4, 2) := by decide +kernel
theorem dX6_zone_106 : decode cX6_zone 106 = .ok (.getfield 178, 3) := by decide +kernel
theorem dX6_zone_109 : decode cX6_zone 109 = .ok (.ifCond .eq 7, 3) := by decide +kernel
theorem dX6_zone_112 : decode cX6_zone 112 = .ok (.iconst 1, 1) := by decide +kernel
theorem dX6_zone_113 : decode cX6_zone 113 = .ok (.goto 4, 3) := by decide +kernel
theorem dX6_zone_116 : decode cX6_zone 116 = .ok (.iconst 0, 1) := by decide +kernel
theorem dX6_zone_117 : decode cX6_zone 117 = .ok (.ireturn, 1) := by decide +kernel
theorem dX6_zone_118 : decode cX6_zone 118 = .ok (.aload 4, 2) := by decide +kernel
theorem dX6_zone_120 : decode cX6_zone 120 = .ok (.getfield 181, 3) := by decide +kernel
theorem dX6_zone_123 : decode cX6_zone 123 = .ok (.ireturn, 1) := by decide +kernel
theorem dX6_zone_124 : decode cX6_zone 124 = .ok (.ldc 133, 2) := by decide +kernel
theorem dX6_zone_126 : decode cX6_zone 126 = .ok (.ireturn, 1) := by decide +kernel
theorem dX6_pallet_0 : decode cX6_pallet 0 = .ok (.aload_n 0, 1) := by decide +kernel
theorem dX6_pallet_1 : decode cX6_pallet 1 = .ok (.getfield 10, 3) := by decide +kernel
theorem dX6_pallet_4 : decode cX6_pallet 4 = .ok (.iload_n 1, 1) := by decide +kernel
theorem dX6_pallet_5 : decode cX6_pallet 5 = .ok (.invokevirtual 184, 3) := by decide +kernel
theorem dX6_pallet_8 : decode cX6_pallet 8 = .ok (.ifCond .ne 6, 3) := by decide +kernel
theorem dX6_pallet_11 : decode cX6_pallet 11 = .ok (.ldc 133, 2) := by decide +kernel
theorem dX6_pallet_13 : decode cX6_pallet 13 = .ok (.ireturn, 1) := by decide +kernel
theorem dX6_pallet_14 : decode cX6_pallet 14 = .ok (.aload_n 0, 1) := by decide +kernel
theorem dX6_pallet_15 : decode cX6_pallet 15 = .ok (.getfield 10, 3) := by decide +kernel
theorem dX6_pallet_18 : decode cX6_pallet 18 = .ok (.getfield 187, 3) := by decide +kernel
theorem dX6_pallet_21 : decode cX6_pallet 21 = .ok (.iload_n 1, 1) := by decide +kernel
theorem dX6_pallet_22 : decode cX6_pallet 22 = .ok (.aaload, 1) := by decide +kernel
theorem dX6_pallet_23 : decode cX6_pallet 23 = .ok (.iload_n 2, 1) := by decide +kernel
theorem dX6_pallet_24 : decode cX6_pallet 24 = .ok (.invokevirtual 191, 3) := by decide +kernel
theorem dX6_pallet_27 : decode cX6_pallet 27 = .ok (.ireturn, 1) := by decide +kernel
theorem dX6_claims_0 : decode cX6_claims 0 = .ok (.iload_n 1, 1) := by decide +kernel
theorem dX6_claims_1 : decode cX6_claims 1 = .ok (.iconst 0, 1) := by decide +kernel
theorem dX6_claims_2 : decode cX6_claims 2 = .ok (.iconst 3, 1) := by decide +kernel
theorem dX6_claims_3 : decode cX6_claims 3 = .ok (.invokestatic 196, 3) := by decide +kernel
theorem dX6_claims_6 : decode cX6_claims 6 = .ok (.ifCond .ne 6, 3) := by decide +kernel
theorem dX6_claims_9 : decode cX6_claims 9 = .ok (.ldc 133, 2) := by decide +kernel
theorem dX6_claims_11 : decode cX6_claims 11 = .ok (.ireturn, 1) := by decide +kernel
theorem dX6_claims_12 : decode cX6_claims 12 = .ok (.iconst 0, 1) := by decide +kernel
theorem dX6_claims_13 : decode cX6_claims 13 = .ok (.istore_n 2, 1) := by decide +kernel
theorem dX6_claims_14 : decode cX6_claims 14 = .ok (.iconst 0, 1) := by decide +kernel
theorem dX6_claims_15 : decode cX6_claims 15 = .ok (.istore_n 3, 1) := by decide +kernel
theorem dX6_claims_16 : decode cX6_claims 16 = .ok (.iload_n 3, 1) := by decide +kernel
theorem dX6_claims_17 : decode cX6_claims 17 = .ok (.aload_n 0, 1) := by decide +kernel
theorem dX6_claims_18 : decode cX6_claims 18 = .ok (.getfield 10, 3) := by decide +kernel
theorem dX6_claims_21 : decode cX6_claims 21 = .ok (.getfield 112, 3) := by decide +kernel
theorem dX6_claims_24 : decode cX6_claims 24 = .ok (.if_icmp .ge 41, 3) := by decide +kernel
theorem dX6_claims_27 : decode cX6_claims 27 = .ok (.aload_n 0, 1) := by decide +kernel
theorem dX6_claims_28 : decode cX6_claims 28 = .ok (.getfield 10, 3) := by decide +kernel
theorem dX6_claims_31 : decode cX6_claims 31 = .ok (.getfield 187, 3) := by decide +kernel
theorem dX6_claims_34 : decode cX6_claims 34 = .ok (.iload_n 3, 1) := by decide +kernel
theorem dX6_claims_35 : decode cX6_claims 35 = .ok (.aaload, 1) := by decide +kernel
theorem dX6_claims_36 : decode cX6_claims 36 = .ok (.astore 4, 2) := by decide +kernel
theorem dX6_claims_38 : decode cX6_claims 38 = .ok (.iload_n 2, 1) := by decide +kernel
theorem dX6_claims_39 : decode cX6_claims 39 = .ok (.iload_n 1, 1) := by decide +kernel
theorem dX6_claims_40 : decode cX6_claims 40 = .ok (.ifCond .ne 11, 3) := by decide +kernel
theorem dX6_claims_43 : decode cX6_claims 43 = .ok (.aload 4, 2) := by decide +kernel
theorem dX6_claims_45 : decode cX6_claims 45 = .ok (.invokevirtual 200, 3) := by decide +kernel
theorem dX6_claims_48 : decode cX6_claims 48 = .ok (.goto 9, 3) := by decide +kernel
theorem dX6_claims_51 : decode cX6_claims 51 = .ok (.aload 4, 2) := by decide +kernel
theorem dX6_claims_53 : decode cX6_claims 53 = .ok (.iload_n 1, 1) := by decide +kernel
theorem dX6_claims_54 : decode cX6_claims 54 = .ok (.invokevirtual 203, 3) := by decide +kernel
theorem dX6_claims_57 : decode cX6_claims 57 = .ok (.iadd, 1) := by decide +kernel
theorem dX6_claims_58 : decode cX6_claims 58 = .ok (.istore_n 2, 1) := by decide +kernel
theorem dX6_claims_59 : decode cX6_claims 59 = .ok (.iinc 3 1, 3) := by decide +kernel
theorem dX6_claims_62 : decode cX6_claims 62 = .ok (.goto (-46), 3) := by decide +kernel
theorem dX6_claims_65 : decode cX6_claims 65 = .ok (.iload_n 2, 1) := by decide +kernel
theorem dX6_claims_66 : decode cX6_claims 66 = .ok (.ireturn, 1) := by decide +kernel
theorem dX6_noteState_0 : decode cX6_noteState 0 = .ok (.aload_n 0, 1) := by decide +kernel
theorem dX6_noteState_1 : decode cX6_noteState 1 = .ok (.getfield 19, 3) := by decide +kernel
theorem dX6_noteState_4 : decode cX6_noteState 4 = .ok (.aload_n 0, 1) := by decide +kernel
theorem dX6_noteState_5 : decode cX6_noteState 5 = .ok (.getfield 101, 3) := by decide +kernel
theorem dX6_noteState_8 : decode cX6_noteState 8 = .ok (.aaload, 1) := by decide +kernel
theorem dX6_noteState_9 : decode cX6_noteState 9 = .ok (.aload_n 0, 1) := by decide +kernel
theorem dX6_noteState_10 : decode cX6_noteState 10 = .ok (.getfield 10, 3) := by decide +kernel
theorem dX6_noteState_13 : decode cX6_noteState 13 = .ok (.invokevirtual 104, 3) := by decide +kernel
theorem dX6_noteState_16 : decode cX6_noteState 16 = .ok (.return_, 1) := by decide +kernel
theorem dX6_kept_0 : decode cX6_kept 0 = .ok (.iload_n 1, 1) := by decide +kernel
theorem dX6_kept_1 : decode cX6_kept 1 = .ok (.invokestatic 97, 3) := by decide +kernel
theorem dX6_kept_4 : decode cX6_kept 4 = .ok (.ifCond .ne 41, 3) := by decide +kernel
theorem dX6_kept_7 : decode cX6_kept 7 = .ok (.aload_n 0, 1) := by decide +kernel
theorem dX6_kept_8 : decode cX6_kept 8 = .ok (.aload_n 0, 1) := by decide +kernel
theorem dX6_kept_9 : decode cX6_kept 9 = .ok (.getfield 101, 3) := by decide +kernel
theorem dX6_kept_12 : decode cX6_kept 12 = .ok (.bipush 6, 2) := by decide +kernel
theorem dX6_kept_14 : decode cX6_kept 14 = .ok (.if_icmp .ne 7, 3) := by decide +kernel
theorem dX6_kept_17 : decode cX6_kept 17 = .ok (.iconst 0, 1) := by decide +kernel
theorem dX6_kept_18 : decode cX6_kept 18 = .ok (.goto 9, 3) := by decide +kernel
theorem dX6_kept_21 : decode cX6_kept 21 = .ok (.aload_n 0, 1) := by decide +kernel
theorem dX6_kept_22 : decode cX6_kept 22 = .ok (.getfield 101, 3) := by decide +kernel
theorem dX6_kept_25 : decode cX6_kept 25 = .ok (.iconst 1, 1) := by decide +kernel
theorem dX6_kept_26 : decode cX6_kept 26 = .ok (.iadd, 1) := by decide +kernel
theorem dX6_kept_27 : decode cX6_kept 27 = .ok (.putfield 101, 3) := by decide +kernel
theorem dX6_kept_30 : decode cX6_kept 30 = .ok (.aload_n 0, 1) := by decide +kernel
theorem dX6_kept_31 : decode cX6_kept 31 = .ok (.aload_n 0, 1) := by decide +kernel
theorem dX6_kept_32 : decode cX6_kept 32 = .ok (.getfield 127, 3) := by decide +kernel
theorem dX6_kept_35 : decode cX6_kept 35 = .ok (.iconst 1, 1) := by decide +kernel
theorem dX6_kept_36 : decode cX6_kept 36 = .ok (.iadd, 1) := by decide +kernel
theorem dX6_kept_37 : decode cX6_kept 37 = .ok (.bipush 6, 2) := by decide +kernel
theorem dX6_kept_39 : decode cX6_kept 39 = .ok (.invokestatic 217, 3) := by decide +kernel
theorem dX6_kept_42 : decode cX6_kept 42 = .ok (.putfield 127, 3) := by decide +kernel
theorem dX6_kept_45 : decode cX6_kept 45 = .ok (.iload_n 1, 1) := by decide +kernel
theorem dX6_kept_46 : decode cX6_kept 46 = .ok (.ireturn, 1) := by decide +kernel
theorem dX6_isError_0 : decode cX6_isError 0 = .ok (.iload_n 0, 1) := by decide +kernel
theorem dX6_isError_1 : decode cX6_isError 1 = .ok (.ldc 133, 2) := by decide +kernel
theorem dX6_isError_3 : decode cX6_isError 3 = .ok (.if_icmp .gt 7, 3) := by decide +kernel
theorem dX6_isError_6 : decode cX6_isError 6 = .ok (.iconst 1, 1) := by decide +kernel
theorem dX6_isError_7 : decode cX6_isError 7 = .ok (.goto 4, 3) := by decide +kernel
theorem dX6_isError_10 : decode cX6_isError 10 = .ok (.iconst 0, 1) := by decide +kernel
theorem dX6_isError_11 : decode cX6_isError 11 = .ok (.ireturn, 1) := by decide +kernel
theorem dX6_isWithin_0 : decode cX6_isWithin 0 = .ok (.iload_n 0, 1) := by decide +kernel
theorem dX6_isWithin_1 : decode cX6_isWithin 1 = .ok (.iload_n 1, 1) := by decide +kernel
theorem dX6_isWithin_2 : decode cX6_isWithin 2 = .ok (.if_icmp .lt 12, 3) := by decide +kernel
theorem dX6_isWithin_5 : decode cX6_isWithin 5 = .ok (.iload_n 0, 1) := by decide +kernel
theorem dX6_isWithin_6 : decode cX6_isWithin 6 = .ok (.iload_n 2, 1) := by decide +kernel
theorem dX6_isWithin_7 : decode cX6_isWithin 7 = .ok (.if_icmp .gt 7, 3) := by decide +kernel
theorem dX6_isWithin_10 : decode cX6_isWithin 10 = .ok (.iconst 1, 1) := by decide +kernel
theorem dX6_isWithin_11 : decode cX6_isWithin 11 = .ok (.goto 4, 3) := by decide +kernel
theorem dX6_isWithin_14 : decode cX6_isWithin 14 = .ok (.iconst 0, 1) := by decide +kernel
theorem dX6_isWithin_15 : decode cX6_isWithin 15 = .ok (.ireturn, 1) := by decide +kernel
theorem dX6_isVanSetting_0 : decode cX6_isVanSetting 0 = .ok (.iload_n 0, 1) := by decide +kernel
theorem dX6_isVanSetting_1 : decode cX6_isVanSetting 1 = .ok (.sipush (-300), 3) := by decide +kernel
theorem dX6_isVanSetting_4 : decode cX6_isVanSetting 4 = .ok (.bipush 100, 2) := by decide +kernel
theorem dX6_isVanSetting_6 : decode cX6_isVanSetting 6 = .ok (.invokestatic 196, 3) := by decide +kernel
theorem dX6_isVanSetting_9 : decode cX6_isVanSetting 9 = .ok (.ifCond .eq 17, 3) := by decide +kernel
theorem dX6_isVanSetting_12 : decode cX6_isVanSetting 12 = .ok (.iload_n 1, 1) := by decide +kernel
theorem dX6_isVanSetting_13 : decode cX6_isVanSetting 13 = .ok (.iconst 0, 1) := by decide +kernel
theorem dX6_isVanSetting_14 : decode cX6_isVanSetting 14 = .ok (.bipush 30, 2) := by decide +kernel
theorem dX6_isVanSetting_16 : decode cX6_isVanSetting 16 = .ok (.invokestatic 196, 3) := by decide +kernel
theorem dX6_isVanSetting_19 : decode cX6_isVanSetting 19 = .ok (.ifCond .eq 7, 3) := by decide +kernel
theorem dX6_isVanSetting_22 : decode cX6_isVanSetting 22 = .ok (.iconst 1, 1) := by decide +kernel
theorem dX6_isVanSetting_23 : decode cX6_isVanSetting 23 = .ok (.goto 4, 3) := by decide +kernel
theorem dX6_isVanSetting_26 : decode cX6_isVanSetting 26 = .ok (.iconst 0, 1) := by decide +kernel
theorem dX6_isVanSetting_27 : decode cX6_isVanSetting 27 = .ok (.ireturn, 1) := by decide +kernel
theorem dX6_isProbeSetting_0 : decode cX6_isProbeSetting 0 = .ok (.iload_n 0, 1) := by decide +kernel
theorem dX6_isProbeSetting_1 : decode cX6_isProbeSetting 1 = .ok (.tableswitch 59 0 2 #[27, 37, 48], 27) := by decide +kernel
theorem dX6_isProbeSetting_28 : decode cX6_isProbeSetting 28 = .ok (.iload_n 1, 1) := by decide +kernel
theorem dX6_isProbeSetting_29 : decode cX6_isProbeSetting 29 = .ok (.ifCond .ne 7, 3) := by decide +kernel
theorem dX6_isProbeSetting_32 : decode cX6_isProbeSetting 32 = .ok (.iconst 1, 1) := by decide +kernel
theorem dX6_isProbeSetting_33 : decode cX6_isProbeSetting 33 = .ok (.goto 4, 3) := by decide +kernel
theorem dX6_isProbeSetting_36 : decode cX6_isProbeSetting 36 = .ok (.iconst 0, 1) := by decide +kernel
theorem dX6_isProbeSetting_37 : decode cX6_isProbeSetting 37 = .ok (.ireturn, 1) := by decide +kernel
theorem dX6_isProbeSetting_38 : decode cX6_isProbeSetting 38 = .ok (.iload_n 1, 1) := by decide +kernel
theorem dX6_isProbeSetting_39 : decode cX6_isProbeSetting 39 = .ok (.sipush (-200), 3) := by decide +kernel
theorem dX6_isProbeSetting_42 : decode cX6_isProbeSetting 42 = .ok (.sipush 200, 3) := by decide +kernel
theorem dX6_isProbeSetting_45 : decode cX6_isProbeSetting 45 = .ok (.invokestatic 196, 3) := by decide +kernel
theorem dX6_isProbeSetting_48 : decode cX6_isProbeSetting 48 = .ok (.ireturn, 1) := by decide +kernel
theorem dX6_isProbeSetting_49 : decode cX6_isProbeSetting 49 = .ok (.iload_n 1, 1) := by decide +kernel
theorem dX6_isProbeSetting_50 : decode cX6_isProbeSetting 50 = .ok (.sipush (-300), 3) := by decide +kernel
theorem dX6_isProbeSetting_53 : decode cX6_isProbeSetting 53 = .ok (.sipush 450, 3) := by decide +kernel
theorem dX6_isProbeSetting_56 : decode cX6_isProbeSetting 56 = .ok (.invokestatic 196, 3) := by decide +kernel
theorem dX6_isProbeSetting_59 : decode cX6_isProbeSetting 59 = .ok (.ireturn, 1) := by decide +kernel
theorem dX6_isProbeSetting_60 : decode cX6_isProbeSetting 60 = .ok (.iconst 0, 1) := by decide +kernel
theorem dX6_isProbeSetting_61 : decode cX6_isProbeSetting 61 = .ok (.ireturn, 1) := by decide +kernel
theorem dX6_isLimit_0 : decode cX6_isLimit 0 = .ok (.iload_n 0, 1) := by decide +kernel
theorem dX6_isLimit_1 : decode cX6_isLimit 1 = .ok (.sipush (-300), 3) := by decide +kernel
theorem dX6_isLimit_4 : decode cX6_isLimit 4 = .ok (.sipush 300, 3) := by decide +kernel
theorem dX6_isLimit_7 : decode cX6_isLimit 7 = .ok (.invokestatic 196, 3) := by decide +kernel
theorem dX6_isLimit_10 : decode cX6_isLimit 10 = .ok (.ireturn, 1) := by decide +kernel
theorem dX6_isPrice_0 : decode cX6_isPrice 0 = .ok (.iload_n 0, 1) := by decide +kernel
theorem dX6_isPrice_1 : decode cX6_isPrice 1 = .ok (.iconst 0, 1) := by decide +kernel
theorem dX6_isPrice_2 : decode cX6_isPrice 2 = .ok (.sipush 9999, 3) := by decide +kernel
theorem dX6_isPrice_5 : decode cX6_isPrice 5 = .ok (.invokestatic 196, 3) := by decide +kernel
theorem dX6_isPrice_8 : decode cX6_isPrice 8 = .ok (.ireturn, 1) := by decide +kernel
