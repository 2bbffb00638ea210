theorem dX0_init_0 : decode cX0_init 0 = .ok (.aload_n 0, 1) := by decide +kernel
theorem dX0_init_1 : decode cX0_init 1 = .ok (.invokespecial 3, 3) := by decide +kernel
theorem dX0_init_4 : decode cX0_init 4 = .ok (.aload_n 0, 1) := by decide +kernel
theorem dX0_init_5 : decode cX0_init 5 = .ok (.bipush 6, 2) := by decide +kernel
theorem dX0_init_7 : decode cX0_init 7 = .ok (.newarray .int, 2) := by decide +kernel
theorem dX0_init_9 : decode cX0_init 9 = .ok (.putfield 9, 3) := by decide +kernel
theorem dX0_init_12 : decode cX0_init 12 = .ok (.aload_n 0, 1) := by decide +kernel
theorem dX0_init_13 : decode cX0_init 13 = .ok (.bipush 6, 2) := by decide +kernel
theorem dX0_init_15 : decode cX0_init 15 = .ok (.newarray .int, 2) := by decide +kernel
theorem dX0_init_17 : decode cX0_init 17 = .ok (.putfield 15, 3) := by decide +kernel
theorem dX0_init_20 : decode cX0_init 20 = .ok (.aload_n 0, 1) := by decide +kernel
theorem dX0_init_21 : decode cX0_init 21 = .ok (.bipush 6, 2) := by decide +kernel
theorem dX0_init_23 : decode cX0_init 23 = .ok (.newarray .int, 2) := by decide +kernel
theorem dX0_init_25 : decode cX0_init 25 = .ok (.putfield 18, 3) := by decide +kernel
theorem dX0_init_28 : decode cX0_init 28 = .ok (.aload_n 0, 1) := by decide +kernel
theorem dX0_init_29 : decode cX0_init 29 = .ok (.bipush 6, 2) := by decide +kernel
theorem dX0_init_31 : decode cX0_init 31 = .ok (.newarray .int, 2) := by decide +kernel
theorem dX0_init_33 : decode cX0_init 33 = .ok (.putfield 21, 3) := by decide +kernel
theorem dX0_init_36 : decode cX0_init 36 = .ok (.aload_n 0, 1) := by decide +kernel
theorem dX0_init_37 : decode cX0_init 37 = .ok (.iconst 2, 1) := by decide +kernel
theorem dX0_init_38 : decode cX0_init 38 = .ok (.bipush 6, 2) := by decide +kernel
theorem dX0_init_40 : decode cX0_init 40 = .ok (.multianewarray 24 2, 4) := by decide +kernel
theorem dX0_init_44 : decode cX0_init 44 = .ok (.putfield 26, 3) := by decide +kernel
theorem dX0_init_47 : decode cX0_init 47 = .ok (.aload_n 0, 1) := by decide +kernel
theorem dX0_init_48 : decode cX0_init 48 = .ok (.iconst 2, 1) := by decide +kernel
theorem dX0_init_49 : decode cX0_init 49 = .ok (.bipush 6, 2) := by decide +kernel
theorem dX0_init_51 : decode cX0_init 51 = .ok (.multianewarray 24 2, 4) := by decide +kernel
theorem dX0_init_55 : decode cX0_init 55 = .ok (.putfield 29, 3) := by decide +kernel
theorem dX0_init_58 : decode cX0_init 58 = .ok (.aload_n 0, 1) := by decide +kernel
theorem dX0_init_59 : decode cX0_init 59 = .ok (.bipush 6, 2) := by decide +kernel
theorem dX0_init_61 : decode cX0_init 61 = .ok (.newarray .int, 2) := by decide +kernel
theorem dX0_init_63 : decode cX0_init 63 = .ok (.putfield 32, 3) := by decide +kernel
theorem dX0_init_66 : decode cX0_init 66 = .ok (.aload_n 0, 1) := by decide +kernel
theorem dX0_init_67 : decode cX0_init 67 = .ok (.bipush 6, 2) := by decide +kernel
theorem dX0_init_69 : decode cX0_init 69 = .ok (.newarray .int, 2) := by decide +kernel
theorem dX0_init_71 : decode cX0_init 71 = .ok (.putfield 35, 3) := by decide +kernel
theorem dX0_init_74 : decode cX0_init 74 = .ok (.aload_n 0, 1) := by decide +kernel
theorem dX0_init_75 : decode cX0_init 75 = .ok (.bipush 6, 2) := by decide +kernel
theorem dX0_init_77 : decode cX0_init 77 = .ok (.newarray .int, 2) := by decide +kernel
theorem dX0_init_79 : decode cX0_init 79 = .ok (.putfield 38, 3) := by decide +kernel
theorem dX0_init_82 : decode cX0_init 82 = .ok (.return_, 1) := by decide +kernel
theorem dX0_hasArea_0 : decode cX0_hasArea 0 = .ok (.iload_n 1, 1) := by decide +kernel
theorem dX0_hasArea_1 : decode cX0_hasArea 1 = .ok (.ifCond .lt 15, 3) := by decide +kernel
theorem dX0_hasArea_4 : decode cX0_hasArea 4 = .ok (.iload_n 1, 1) := by decide +kernel
theorem dX0_hasArea_5 : decode cX0_hasArea 5 = .ok (.aload_n 0, 1) := by decide +kernel
theorem dX0_hasArea_6 : decode cX0_hasArea 6 = .ok (.getfield 41, 3) := by decide +kernel
theorem dX0_hasArea_9 : decode cX0_hasArea 9 = .ok (.if_icmp .ge 7, 3) := by decide +kernel
theorem dX0_hasArea_12 : decode cX0_hasArea 12 = .ok (.iconst 1, 1) := by decide +kernel
theorem dX0_hasArea_13 : decode cX0_hasArea 13 = .ok (.goto 4, 3) := by decide +kernel
theorem dX0_hasArea_16 : decode cX0_hasArea 16 = .ok (.iconst 0, 1) := by decide +kernel
theorem dX0_hasArea_17 : decode cX0_hasArea 17 = .ok (.ireturn, 1) := by decide +kernel
theorem dX0_hasPlaceBehind_0 : decode cX0_hasPlaceBehind 0 = .ok (.iload_n 1, 1) := by decide +kernel
theorem dX0_hasPlaceBehind_1 : decode cX0_hasPlaceBehind 1 = .ok (.ifCond .lt 17, 3) := by decide +kernel
theorem dX0_hasPlaceBehind_4 : decode cX0_hasPlaceBehind 4 = .ok (.iload_n 1, 1) := by decide +kernel
theorem dX0_hasPlaceBehind_5 : decode cX0_hasPlaceBehind 5 = .ok (.aload_n 0, 1) := by decide +kernel
theorem dX0_hasPlaceBehind_6 : decode cX0_hasPlaceBehind 6 = .ok (.getfield 41, 3) := by decide +kernel
theorem dX0_hasPlaceBehind_9 : decode cX0_hasPlaceBehind 9 = .ok (.iconst 1, 1) := by decide +kernel
theorem dX0_hasPlaceBehind_10 : decode cX0_hasPlaceBehind 10 = .ok (.isub, 1) := by decide +kernel
theorem dX0_hasPlaceBehind_11 : decode cX0_hasPlaceBehind 11 = .ok (.if_icmp .ge 7, 3) := by decide +kernel
theorem dX0_hasPlaceBehind_14 : decode cX0_hasPlaceBehind 14 = .ok (.iconst 1, 1) := by decide +kernel
theorem dX0_hasPlaceBehind_15 : decode cX0_hasPlaceBehind 15 = .ok (.goto 4, 3) := by decide +kernel
theorem dX0_hasPlaceBehind_18 : decode cX0_hasPlaceBehind 18 = .ok (.iconst 0, 1) := by decide +kernel
theorem dX0_hasPlaceBehind_19 : decode cX0_hasPlaceBehind 19 = .ok (.ireturn, 1) := by decide +kernel
theorem dX0_becomeLike_0 : decode cX0_becomeLike 0 = .ok (.aload_n 0, 1) := by decide +kernel
theorem dX0_becomeLike_1 : decode cX0_becomeLike 1 = .ok (.aload_n 1, 1) := by decide +kernel
theorem dX0_becomeLike_2 : decode cX0_becomeLike 2 = .ok (.getfield 41, 3) := by decide +kernel
theorem dX0_becomeLike_5 : decode cX0_becomeLike 5 = .ok (.putfield 41, 3) := by decide +kernel
theorem dX0_becomeLike_8 : decode cX0_becomeLike 8 = .ok (.aload_n 1, 1) := by decide +kernel
theorem dX0_becomeLike_9 : decode cX0_becomeLike 9 = .ok (.getfield 9, 3) := by decide +kernel
theorem dX0_becomeLike_12 : decode cX0_becomeLike 12 = .ok (.iconst 0, 1) := by decide +kernel
theorem dX0_becomeLike_13 : decode cX0_becomeLike 13 = .ok (.aload_n 0, 1) := by decide +kernel
theorem dX0_becomeLike_14 : decode cX0_becomeLike 14 = .ok (.getfield 9, 3) := by decide +kernel
theorem dX0_becomeLike_17 : decode cX0_becomeLike 17 = .ok (.iconst 0, 1) := by decide +kernel
theorem dX0_becomeLike_18 : decode cX0_becomeLike 18 = .ok (.bipush 6, 2) := by decide +kernel
theorem dX0_becomeLike_20 : decode cX0_becomeLike 20 = .ok (.invokestatic 45, 3) := by decide +kernel
theorem dX0_becomeLike_23 : decode cX0_becomeLike 23 = .ok (.aload_n 1, 1) := by decide +kernel
theorem dX0_becomeLike_24 : decode cX0_becomeLike 24 = .ok (.getfield 15, 3) := by decide +kernel
theorem dX0_becomeLike_27 : decode cX0_becomeLike 27 = .ok (.iconst 0, 1) := by decide +kernel
theorem dX0_becomeLike_28 : decode cX0_becomeLike 28 = .ok (.aload_n 0, 1) := by decide +kernel
theorem dX0_becomeLike_29 : decode cX0_becomeLike 29 = .ok (.getfield 15, 3) := by decide +kernel
theorem dX0_becomeLike_32 : decode cX0_becomeLike 32 = .ok (.iconst 0, 1) := by decide +kernel
theorem dX0_becomeLike_33 : decode cX0_becomeLike 33 = .ok (.bipush 6, 2) := by decide +kernel
theorem dX0_becomeLike_35 : decode cX0_becomeLike 35 = .ok (.invokestatic 45, 3) := by decide +kernel
theorem dX0_becomeLike_38 : decode cX0_becomeLike 38 = .ok (.aload_n 1, 1) := by decide +kernel
theorem dX0_becomeLike_39 : decode cX0_becomeLike 39 = .ok (.getfield 18, 3) := by decide +kernel
theorem dX0_becomeLike_42 : decode cX0_becomeLike 42 = .ok (.iconst 0, 1) := by decide +kernel
theorem dX0_becomeLike_43 : decode cX0_becomeLike 43 = .ok (.aload_n 0, 1) := by decide +kernel
theorem dX0_becomeLike_44 : decode cX0_becomeLike 44 = .ok (.getfield 18, 3) := by decide +kernel
theorem dX0_becomeLike_47 : decode cX0_becomeLike 47 = .ok (.iconst 0, 1) := by decide +kernel
theorem dX0_becomeLike_48 : decode cX0_becomeLike 48 = .ok (.bipush 6, 2) := by decide +kernel
theorem dX0_becomeLike_50 : decode cX0_becomeLike 50 = .ok (.invokestatic 45, 3) := by decide +kernel
theorem dX0_becomeLike_53 : decode cX0_becomeLike 53 = .ok (.aload_n 1, 1) := by decide +kernel
theorem dX0_becomeLike_54 : decode cX0_becomeLike 54 = .ok (.getfield 21, 3) := by decide +kernel
theorem dX0_becomeLike_57 : decode cX0_becomeLike 57 = .ok (.iconst 0, 1) := by decide +kernel
theorem dX0_becomeLike_58 : decode cX0_becomeLike 58 = .ok (.aload_n 0, 1) := by decide +kernel
theorem dX0_becomeLike_59 : decode cX0_becomeLike 59 = .ok (.getfield 21, 3) := by decide +kernel
theorem dX0_becomeLike_62 : decode cX0_becomeLike 62 = .ok (.iconst 0, 1) := by decide +kernel
theorem dX0_becomeLike_63 : decode cX0_becomeLike 63 = .ok (.bipush 6, 2) := by decide +kernel
theorem dX0_becomeLike_65 : decode cX0_becomeLike 65 = .ok (.invokestatic 45, 3) := by decide +kernel
theorem dX0_becomeLike_68 : decode cX0_becomeLike 68 = .ok (.aload_n 1, 1) := by decide +kernel
theorem dX0_becomeLike_69 : decode cX0_becomeLike 69 = .ok (.getfield 26, 3) := by decide +kernel
theorem dX0_becomeLike_72 : decode cX0_becomeLike 72 = .ok (.iconst 0, 1) := by decide +kernel
theorem dX0_becomeLike_73 : decode cX0_becomeLike 73 = .ok (.aaload, 1) := by decide +kernel
theorem dX0_becomeLike_74 : decode cX0_becomeLike 74 = .ok (.iconst 0, 1) := by decide +kernel
theorem dX0_becomeLike_75 : decode cX0_becomeLike 75 = .ok (.aload_n 0, 1) := by decide +kernel
theorem dX0_becomeLike_76 : decode cX0_becomeLike 76 = .ok (.getfield 26, 3) := by decide +kernel
theorem dX0_becomeLike_79 : decode cX0_becomeLike 79 = .ok (.iconst 0, 1) := by decide +kernel
theorem dX0_becomeLike_80 : decode cX0_becomeLike 80 = .ok (.aaload, 1) := by decide +kernel
theorem dX0_becomeLike_81 : decode cX0_becomeLike 81 = .ok (.iconst 0, 1) := by decide +kernel
theorem dX0_becomeLike_82 : decode cX0_becomeLike 82 = .ok (.bipush 6, 2) := by decide +kernel
theorem dX0_becomeLike_84 : decode cX0_becomeLike 84 = .ok (.invokestatic 45, 3) := by decide +kernel
theorem dX0_becomeLike_87 : decode cX0_becomeLike 87 = .ok (.aload_n 1, 1) := by decide +kernel
theorem dX0_becomeLike_88 : decode cX0_becomeLike 88 = .ok (.getfield 26, 3) := by decide +kernel
theorem dX0_becomeLike_91 : decode cX0_becomeLike 91 = .ok (.iconst 1, 1) := by decide +kernel
theorem dX0_becomeLike_92 : decode cX0_becomeLike 92 = .ok (.aaload, 1) := by decide +kernel
theorem dX0_becomeLike_93 : decode cX0_becomeLike 93 = .ok (.iconst 0, 1) := by decide +kernel
theorem dX0_becomeLike_94 : decode cX0_becomeLike 94 = .ok (.aload_n 0, 1) := by decide +kernel
theorem dX0_becomeLike_95 : decode cX0_becomeLike 95 = .ok (.getfield 26, 3) := by decide +kernel
theorem dX0_becomeLike_98 : decode cX0_becomeLike 98 = .ok (.iconst 1, 1) := by decide +kernel
theorem dX0_becomeLike_99 : decode cX0_becomeLike 99 = .ok (.aaload, 1) := by decide +kernel
theorem dX0_becomeLike_100 : decode cX0_becomeLike 100 = .ok (.iconst 0, 1) := by decide +kernel
theorem dX0_becomeLike_101 : decode cX0_becomeLike 101 = .ok (.bipush 6, 2) := by decide +kernel
theorem dX0_becomeLike_103 : decode cX0_becomeLike 103 = .ok (.invokestatic 45, 3) := by decide +kernel
theorem dX0_becomeLike_106 : decode cX0_becomeLike 106 = .ok (.aload_n 0, 1) := by decide +kernel
theorem dX0_becomeLike_107 : decode cX0_becomeLike 107 = .ok (.invokevirtual 51, 3) := by decide +kernel
theorem dX0_becomeLike_110 : decode cX0_becomeLike 110 = .ok (.return_, 1) := by decide +kernel
theorem dX0_turnPlaces_0 : decode cX0_turnPlaces 0 = .ok (.aload_n 0, 1) := by decide +kernel
theorem dX0_turnPlaces_1 : decode cX0_turnPlaces 1 = .ok (.getfield 26, 3) := by decide +kernel
theorem dX0_turnPlaces_4 : decode cX0_turnPlaces 4 = .ok (.iload_n 1, 1) := by decide +kernel
theorem dX0_turnPlaces_5 : decode cX0_turnPlaces 5 = .ok (.aaload, 1) := by decide +kernel
theorem dX0_turnPlaces_6 : decode cX0_turnPlaces 6 = .ok (.iload_n 2, 1) := by decide +kernel
theorem dX0_turnPlaces_7 : decode cX0_turnPlaces 7 = .ok (.iload_n 2, 1) := by decide +kernel
theorem dX0_turnPlaces_8 : decode cX0_turnPlaces 8 = .ok (.iconst 1, 1) := by decide +kernel
theorem dX0_turnPlaces_9 : decode cX0_turnPlaces 9 = .ok (.iadd, 1) := by decide +kernel
theorem dX0_turnPlaces_10 : decode cX0_turnPlaces 10 = .ok (.invokestatic 54, 3) := by decide +kernel
theorem dX0_turnPlaces_13 : decode cX0_turnPlaces 13 = .ok (.return_, 1) := by decide +kernel
theorem dX0_swap_0 : decode cX0_swap 0 = .ok (.aload_n 0, 1) := by decide +kernel
theorem dX0_swap_1 : decode cX0_swap 1 = .ok (.iload_n 1, 1) := by decide +kernel
theorem dX0_swap_2 : decode cX0_swap 2 = .ok (.iaload, 1) := by decide +kernel
theorem dX0_swap_3 : decode cX0_swap 3 = .ok (.istore_n 3, 1) := by decide +kernel
theorem dX0_swap_4 : decode cX0_swap 4 = .ok (.aload_n 0, 1) := by decide +kernel
theorem dX0_swap_5 : decode cX0_swap 5 = .ok (.iload_n 1, 1) := by decide +kernel
theorem dX0_swap_6 : decode cX0_swap 6 = .ok (.aload_n 0, 1) := by decide +kernel
theorem dX0_swap_7 : decode cX0_swap 7 = .ok (.iload_n 2, 1) := by decide +kernel
theorem dX0_swap_8 : decode cX0_swap 8 = .ok (.iaload, 1) := by decide +kernel
theorem dX0_swap_9 : decode cX0_swap 9 = .ok (.iastore, 1) := by decide +kernel
theorem dX0_swap_10 : decode cX0_swap 10 = .ok (.aload_n 0, 1) := by decide +kernel
theorem dX0_swap_11 : decode cX0_swap 11 = .ok (.iload_n 2, 1) := by decide +kernel
theorem dX0_swap_12 : decode cX0_swap 12 = .ok (.iload_n 3, 1) := by decide +kernel
theorem dX0_swap_13 : decode cX0_swap 13 = .ok (.iastore, 1) := by decide +kernel
theorem dX0_swap_14 : decode cX0_swap 14 = .ok (.return_, 1) := by decide +kernel
theorem dX0_startOrders_0 : decode cX0_startOrders 0 = .ok (.iconst 0, 1) := by decide +kernel
theorem dX0_startOrders_1 : decode cX0_startOrders 1 = .ok (.istore_n 1, 1) := by decide +kernel
theorem dX0_startOrders_2 : decode cX0_startOrders 2 = .ok (.iload_n 1, 1) := by decide +kernel
theorem dX0_startOrders_3 : decode cX0_startOrders 3 = .ok (.aload_n 0, 1) := by decide +kernel
theorem dX0_startOrders_4 : decode cX0_startOrders 4 = .ok (.getfield 41, 3) := by decide +kernel
theorem dX0_startOrders_7 : decode cX0_startOrders 7 = .ok (.if_icmp .ge 18, 3) := by decide +kernel
theorem dX0_startOrders_10 : decode cX0_startOrders 10 = .ok (.aload_n 0, 1) := by decide +kernel
theorem dX0_startOrders_11 : decode cX0_startOrders 11 = .ok (.getfield 26, 3) := by decide +kernel
theorem dX0_startOrders_14 : decode cX0_startOrders 14 = .ok (.iconst 1, 1) := by decide +kernel
theorem dX0_startOrders_15 : decode cX0_startOrders 15 = .ok (.aaload, 1) := by decide +kernel
theorem dX0_startOrders_16 : decode cX0_startOrders 16 = .ok (.iload_n 1, 1) := by decide +kernel
theorem dX0_startOrders_17 : decode cX0_startOrders 17 = .ok (.iload_n 1, 1) := by decide +kernel
theorem dX0_startOrders_18 : decode cX0_startOrders 18 = .ok (.iastore, 1) := by decide +kernel
theorem dX0_startOrders_19 : decode cX0_startOrders 19 = .ok (.iinc 1 1, 3) := by decide +kernel
theorem dX0_startOrders_22 : decode cX0_startOrders 22 = .ok (.goto (-20), 3) := by decide +kernel
theorem dX0_startOrders_25 : decode cX0_startOrders 25 = .ok (.return_, 1) := by decide +kernel
theorem dX0_stepOrder_0 : decode cX0_stepOrder 0 = .ok (.aload_n 0, 1) := by decide +kernel
theorem dX0_stepOrder_1 : decode cX0_stepOrder 1 = .ok (.getfield 26, 3) := by decide +kernel
theorem dX0_stepOrder_4 : decode cX0_stepOrder 4 = .ok (.iconst 1, 1) := by decide +kernel
theorem dX0_stepOrder_5 : decode cX0_stepOrder 5 = .ok (.aaload, 1) := by decide +kernel
theorem dX0_stepOrder_6 : decode cX0_stepOrder 6 = .ok (.astore_n 1, 1) := by decide +kernel
theorem dX0_stepOrder_7 : decode cX0_stepOrder 7 = .ok (.aload_n 0, 1) := by decide +kernel
theorem dX0_stepOrder_8 : decode cX0_stepOrder 8 = .ok (.getfield 41, 3) := by decide +kernel
theorem dX0_stepOrder_11 : decode cX0_stepOrder 11 = .ok (.iconst 2, 1) := by decide +kernel
theorem dX0_stepOrder_12 : decode cX0_stepOrder 12 = .ok (.isub, 1) := by decide +kernel
theorem dX0_stepOrder_13 : decode cX0_stepOrder 13 = .ok (.istore_n 2, 1) := by decide +kernel
theorem dX0_stepOrder_14 : decode cX0_stepOrder 14 = .ok (.iload_n 2, 1) := by decide +kernel
theorem dX0_stepOrder_15 : decode cX0_stepOrder 15 = .ok (.ifCond .lt 20, 3) := by decide +kernel
theorem dX0_stepOrder_18 : decode cX0_stepOrder 18 = .ok (.aload_n 1, 1) := by decide +kernel
theorem dX0_stepOrder_19 : decode cX0_stepOrder 19 = .ok (.iload_n 2, 1) := by decide +kernel
theorem dX0_stepOrder_20 : decode cX0_stepOrder 20 = .ok (.iaload, 1) := by decide +kernel
theorem dX0_stepOrder_21 : decode cX0_stepOrder 21 = .ok (.aload_n 1, 1) := by decide +kernel
theorem dX0_stepOrder_22 : decode cX0_stepOrder 22 = .ok (.iload_n 2, 1) := by decide +kernel
theorem dX0_stepOrder_23 : decode cX0_stepOrder 23 = .ok (.iconst 1, 1) := by decide +kernel
theorem dX0_stepOrder_24 : decode cX0_stepOrder 24 = .ok (.iadd, 1) := by decide +kernel
theorem dX0_stepOrder_25 : decode cX0_stepOrder 25 = .ok (.iaload, 1) := by decide +kernel
theorem dX0_stepOrder_26 : decode cX0_stepOrder 26 = .ok (.if_icmp .le 9, 3) := by decide +kernel
theorem dX0_stepOrder_29 : decode cX0_stepOrder 29 = .ok (.iinc 2 (-1), 3) := by decide +kernel
theorem dX0_stepOrder_32 : decode cX0_stepOrder 32 = .ok (.goto (-18), 3) := by decide +kernel
theorem dX0_stepOrder_35 : decode cX0_stepOrder 35 = .ok (.iload_n 2, 1) := by decide +kernel
theorem dX0_stepOrder_36 : decode cX0_stepOrder 36 = .ok (.ifCond .ge 4, 3) := by decide +kernel
theorem dX0_stepOrder_39 : decode cX0_stepOrder 39 = .ok (.return_, 1) := by decide +kernel
theorem dX0_stepOrder_40 : decode cX0_stepOrder 40 = .ok (.aload_n 0, 1) := by decide +kernel
theorem dX0_stepOrder_41 : decode cX0_stepOrder 41 = .ok (.getfield 41, 3) := by decide +kernel
theorem dX0_stepOrder_44 : decode cX0_stepOrder 44 = .ok (.iconst 1, 1) := by decide +kernel
theorem dX0_stepOrder_45 : decode cX0_stepOrder 45 = .ok (.isub, 1) := by decide +kernel
theorem dX0_stepOrder_46 : decode cX0_stepOrder 46 = .ok (.istore_n 3, 1) := by decide +kernel
theorem dX0_stepOrder_47 : decode cX0_stepOrder 47 = .ok (.iload_n 3, 1) := by decide +kernel
theorem dX0_stepOrder_48 : decode cX0_stepOrder 48 = .ok (.iload_n 2, 1) := by decide +kernel
theorem dX0_stepOrder_49 : decode cX0_stepOrder 49 = .ok (.iconst 1, 1) := by decide +kernel
theorem dX0_stepOrder_50 : decode cX0_stepOrder 50 = .ok (.iadd, 1) := by decide +kernel
theorem dX0_stepOrder_51 : decode cX0_stepOrder 51 = .ok (.if_icmp .le 18, 3) := by decide +kernel
theorem dX0_stepOrder_54 : decode cX0_stepOrder 54 = .ok (.aload_n 1, 1) := by decide +kernel
theorem dX0_stepOrder_55 : decode cX0_stepOrder 55 = .ok (.iload_n 3, 1) := by decide +kernel
theorem dX0_stepOrder_56 : decode cX0_stepOrder 56 = .ok (.iaload, 1) := by decide +kernel
theorem dX0_stepOrder_57 : decode cX0_stepOrder 57 = .ok (.aload_n 1, 1) := by decide +kernel
theorem dX0_stepOrder_58 : decode cX0_stepOrder 58 = .ok (.iload_n 2, 1) := by decide +kernel
theorem dX0_stepOrder_59 : decode cX0_stepOrder 59 = .ok (.iaload, 1) := by decide +kernel
theorem dX0_stepOrder_60 : decode cX0_stepOrder 60 = .ok (.if_icmp .ge 9, 3) := by decide +kernel
theorem dX0_stepOrder_63 : decode cX0_stepOrder 63 = .ok (.iinc 3 (-1), 3) := by decide +kernel
theorem dX0_stepOrder_66 : decode cX0_stepOrder 66 = .ok (.goto (-19), 3) := by decide +kernel
theorem dX0_stepOrder_69 : decode cX0_stepOrder 69 = .ok (.aload_n 1, 1) := by decide +kernel
theorem dX0_stepOrder_70 : decode cX0_stepOrder 70 = .ok (.iload_n 2, 1) := by decide +kernel
theorem dX0_stepOrder_71 : decode cX0_stepOrder 71 = .ok (.iload_n 3, 1) := by decide +kernel
theorem dX0_stepOrder_72 : decode cX0_stepOrder 72 = .ok (.invokestatic 54, 3) := by decide +kernel
theorem dX0_stepOrder_75 : decode cX0_stepOrder 75 = .ok (.aload_n 0, 1) := by decide +kernel
theorem dX0_stepOrder_76 : decode cX0_stepOrder 76 = .ok (.getfield 41, 3) := by decide +kernel
theorem dX0_stepOrder_79 : decode cX0_stepOrder 79 = .ok (.iconst 1, 1) := by decide +kernel
theorem dX0_stepOrder_80 : decode cX0_stepOrder 80 = .ok (.isub, 1) := by decide +kernel
theorem dX0_stepOrder_81 : decode cX0_stepOrder 81 = .ok (.istore 4, 2) := by decide +kernel
theorem dX0_stepOrder_83 : decode cX0_stepOrder 83 = .ok (.iload_n 2, 1) := by decide +kernel
theorem dX0_stepOrder_84 : decode cX0_stepOrder 84 = .ok (.iconst 1, 1) := by decide +kernel
theorem dX0_stepOrder_85 : decode cX0_stepOrder 85 = .ok (.iadd, 1) := by decide +kernel
theorem dX0_stepOrder_86 : decode cX0_stepOrder 86 = .ok (.istore 5, 2) := by decide +kernel
theorem dX0_stepOrder_88 : decode cX0_stepOrder 88 = .ok (.iload 5, 2) := by decide +kernel
theorem dX0_stepOrder_90 : decode cX0_stepOrder 90 = .ok (.iload 4, 2) := by decide +kernel
theorem dX0_stepOrder_92 : decode cX0_stepOrder 92 = .ok (.if_icmp .ge 20, 3) := by decide +kernel
theorem dX0_stepOrder_95 : decode cX0_stepOrder 95 = .ok (.aload_n 1, 1) := by decide +kernel
theorem dX0_stepOrder_96 : decode cX0_stepOrder 96 = .ok (.iload 5, 2) := by decide +kernel
theorem dX0_stepOrder_98 : decode cX0_stepOrder 98 = .ok (.iload 4, 2) := by decide +kernel
theorem dX0_stepOrder_100 : decode cX0_stepOrder 100 = .ok (.invokestatic 54, 3) := by decide +kernel
theorem dX0_stepOrder_103 : decode cX0_stepOrder 103 = .ok (.iinc 4 (-1), 3) := by decide +kernel
theorem dX0_stepOrder_106 : decode cX0_stepOrder 106 = .ok (.iinc 5 1, 3) := by decide +kernel
theorem dX0_stepOrder_109 : decode cX0_stepOrder 109 = .ok (.goto (-21), 3) := by decide +kernel
theorem dX0_stepOrder_112 : decode cX0_stepOrder 112 = .ok (.return_, 1) := by decide +kernel
theorem dX0_lay_0 : decode cX0_lay 0 = .ok (.aload_n 0, 1) := by decide +kernel
theorem dX0_lay_1 : decode cX0_lay 1 = .ok (.invokevirtual 58, 3) := by decide +kernel
theorem dX0_lay_4 : decode cX0_lay 4 = .ok (.aload_n 0, 1) := by decide +kernel
theorem dX0_lay_5 : decode cX0_lay 5 = .ok (.iconst 0, 1) := by decide +kernel
theorem dX0_lay_6 : decode cX0_lay 6 = .ok (.putfield 61, 3) := by decide +kernel
theorem dX0_lay_9 : decode cX0_lay 9 = .ok (.aload_n 0, 1) := by decide +kernel
theorem dX0_lay_10 : decode cX0_lay 10 = .ok (.iconst 0, 1) := by decide +kernel
theorem dX0_lay_11 : decode cX0_lay 11 = .ok (.putfield 64, 3) := by decide +kernel
theorem dX0_lay_14 : decode cX0_lay 14 = .ok (.iconst 0, 1) := by decide +kernel
theorem dX0_lay_15 : decode cX0_lay 15 = .ok (.istore_n 1, 1) := by decide +kernel
theorem dX0_lay_16 : decode cX0_lay 16 = .ok (.iload_n 1, 1) := by decide +kernel
theorem dX0_lay_17 : decode cX0_lay 17 = .ok (.aload_n 0, 1) := by decide +kernel
theorem dX0_lay_18 : decode cX0_lay 18 = .ok (.getfield 41, 3) := by decide +kernel
theorem dX0_lay_21 : decode cX0_lay 21 = .ok (.if_icmp .ge 83, 3) := by decide +kernel
theorem dX0_lay_24 : decode cX0_lay 24 = .ok (.aload_n 0, 1) := by decide +kernel
theorem dX0_lay_25 : decode cX0_lay 25 = .ok (.getfield 26, 3) := by decide +kernel
theorem dX0_lay_28 : decode cX0_lay 28 = .ok (.iconst 0, 1) := by decide +kernel
theorem dX0_lay_29 : decode cX0_lay 29 = .ok (.aaload, 1) := by decide +kernel
theorem dX0_lay_30 : decode cX0_lay 30 = .ok (.iload_n 1, 1) := by decide +kernel
theorem dX0_lay_31 : decode cX0_lay 31 = .ok (.iaload, 1) := by decide +kernel
theorem dX0_lay_32 : decode cX0_lay 32 = .ok (.istore_n 2, 1) := by decide +kernel
theorem dX0_lay_33 : decode cX0_lay 33 = .ok (.aload_n 0, 1) := by decide +kernel
theorem dX0_lay_34 : decode cX0_lay 34 = .ok (.getfield 32, 3) := by decide +kernel
theorem dX0_lay_37 : decode cX0_lay 37 = .ok (.iload_n 2, 1) := by decide +kernel
theorem dX0_lay_38 : decode cX0_lay 38 = .ok (.aload_n 0, 1) := by decide +kernel
theorem dX0_lay_39 : decode cX0_lay 39 = .ok (.iload_n 2, 1) := by decide +kernel
theorem dX0_lay_40 : decode cX0_lay 40 = .ok (.invokevirtual 67, 3) := by decide +kernel
theorem dX0_lay_43 : decode cX0_lay 43 = .ok (.iastore, 1) := by decide +kernel
theorem dX0_lay_44 : decode cX0_lay 44 = .ok (.aload_n 0, 1) := by decide +kernel
theorem dX0_lay_45 : decode cX0_lay 45 = .ok (.iload_n 2, 1) := by decide +kernel
theorem dX0_lay_46 : decode cX0_lay 46 = .ok (.iload_n 1, 1) := by decide +kernel
theorem dX0_lay_47 : decode cX0_lay 47 = .ok (.invokevirtual 71, 3) := by decide +kernel
theorem dX0_lay_50 : decode cX0_lay 50 = .ok (.aload_n 0, 1) := by decide +kernel
theorem dX0_lay_51 : decode cX0_lay 51 = .ok (.aload_n 0, 1) := by decide +kernel
theorem dX0_lay_52 : decode cX0_lay 52 = .ok (.getfield 61, 3) := by decide +kernel
theorem dX0_lay_55 : decode cX0_lay 55 = .ok (.aload_n 0, 1) := by decide +kernel
theorem dX0_lay_56 : decode cX0_lay 56 = .ok (.getfield 35, 3) := by decide +kernel
theorem dX0_lay_59 : decode cX0_lay 59 = .ok (.iload_n 2, 1) := by decide +kernel
theorem dX0_lay_60 : decode cX0_lay 60 = .ok (.iaload, 1) := by decide +kernel
theorem dX0_lay_61 : decode cX0_lay 61 = .ok (.aload_n 0, 1) := by decide +kernel
theorem dX0_lay_62 : decode cX0_lay 62 = .ok (.getfield 18, 3) := by decide +kernel
theorem dX0_lay_65 : decode cX0_lay 65 = .ok (.iload_n 2, 1) := by decide +kernel
theorem dX0_lay_66 : decode cX0_lay 66 = .ok (.iaload, 1) := by decide +kernel
theorem dX0_lay_67 : decode cX0_lay 67 = .ok (.iadd, 1) := by decide +kernel
theorem dX0_lay_68 : decode cX0_lay 68 = .ok (.invokestatic 75, 3) := by decide +kernel
theorem dX0_lay_71 : decode cX0_lay 71 = .ok (.putfield 61, 3) := by decide +kernel
theorem dX0_lay_74 : decode cX0_lay 74 = .ok (.aload_n 0, 1) := by decide +kernel
theorem dX0_lay_75 : decode cX0_lay 75 = .ok (.aload_n 0, 1) := by decide +kernel
theorem dX0_lay_76 : decode cX0_lay 76 = .ok (.getfield 64, 3) := by decide +kernel
theorem dX0_lay_79 : decode cX0_lay 79 = .ok (.aload_n 0, 1) := by decide +kernel
theorem dX0_lay_80 : decode cX0_lay 80 = .ok (.getfield 38, 3) := by decide +kernel
theorem dX0_lay_83 : decode cX0_lay 83 = .ok (.iload_n 2, 1) := by decide +kernel
theorem dX0_lay_84 : decode cX0_lay 84 = .ok (.iaload, 1) := by decide +kernel
theorem dX0_lay_85 : decode cX0_lay 85 = .ok (.aload_n 0, 1) := by decide +kernel
theorem dX0_lay_86 : decode cX0_lay 86 = .ok (.getfield 32, 3) := by decide +kernel
theorem dX0_lay_89 : decode cX0_lay 89 = .ok (.iload_n 2, 1) := by decide +kernel
theorem dX0_lay_90 : decode cX0_lay 90 = .ok (.iaload, 1) := by decide +kernel
theorem dX0_lay_91 : decode cX0_lay 91 = .ok (.iadd, 1) := by decide +kernel
theorem dX0_lay_92 : decode cX0_lay 92 = .ok (.invokestatic 75, 3) := by decide +kernel
theorem dX0_lay_95 : decode cX0_lay 95 = .ok (.putfield 64, 3) := by decide +kernel
theorem dX0_lay_98 : decode cX0_lay 98 = .ok (.iinc 1 1, 3) := by decide +kernel
theorem dX0_lay_101 : decode cX0_lay 101 = .ok (.goto (-85), 3) := by decide +kernel
theorem dX0_lay_104 : decode cX0_lay 104 = .ok (.return_, 1) := by decide +kernel
theorem dX0_findPlaces_0 : decode cX0_findPlaces 0 = .ok (.iconst 0, 1) := by decide +kernel
theorem dX0_findPlaces_1 : decode cX0_findPlaces 1 = .ok (.istore_n 1, 1) := by decide +kernel
theorem dX0_findPlaces_2 : decode cX0_findPlaces 2 = .ok (.iload_n 1, 1) := by decide +kernel
theorem dX0_findPlaces_3 : decode cX0_findPlaces 3 = .ok (.aload_n 0, 1) := by decide +kernel
theorem dX0_findPlaces_4 : decode cX0_findPlaces 4 = .ok (.getfield 41, 3) := by decide +kernel
theorem dX0_findPlaces_7 : decode cX0_findPlaces 7 = .ok (.if_icmp .ge 41, 3) := by decide +kernel
theorem dX0_findPlaces_10 : decode cX0_findPlaces 10 = .ok (.aload_n 0, 1) := by decide +kernel
theorem dX0_findPlaces_11 : decode cX0_findPlaces 11 = .ok (.getfield 29, 3) := by decide +kernel
theorem dX0_findPlaces_14 : decode cX0_findPlaces 14 = .ok (.iconst 0, 1) := by decide +kernel
theorem dX0_findPlaces_15 : decode cX0_findPlaces 15 = .ok (.aaload, 1) := by decide +kernel
theorem dX0_findPlaces_16 : decode cX0_findPlaces 16 = .ok (.aload_n 0, 1) := by decide +kernel
theorem dX0_findPlaces_17 : decode cX0_findPlaces 17 = .ok (.getfield 26, 3) := by decide +kernel
theorem dX0_findPlaces_20 : decode cX0_findPlaces 20 = .ok (.iconst 0, 1) := by decide +kernel
theorem dX0_findPlaces_21 : decode cX0_findPlaces 21 = .ok (.aaload, 1) := by decide +kernel
theorem dX0_findPlaces_22 : decode cX0_findPlaces 22 = .ok (.iload_n 1, 1) := by decide +kernel
theorem dX0_findPlaces_23 : decode cX0_findPlaces 23 = .ok (.iaload, 1) := by decide +kernel
theorem dX0_findPlaces_24 : decode cX0_findPlaces 24 = .ok (.iload_n 1, 1) := by decide +kernel
theorem dX0_findPlaces_25 : decode cX0_findPlaces 25 = .ok (.iastore, 1) := by decide +kernel
theorem dX0_findPlaces_26 : decode cX0_findPlaces 26 = .ok (.aload_n 0, 1) := by decide +kernel
theorem dX0_findPlaces_27 : decode cX0_findPlaces 27 = .ok (.getfield 29, 3) := by decide +kernel
theorem dX0_findPlaces_30 : decode cX0_findPlaces 30 = .ok (.iconst 1, 1) := by decide +kernel
theorem dX0_findPlaces_31 : decode cX0_findPlaces 31 = .ok (.aaload, 1) := by decide +kernel
theorem dX0_findPlaces_32 : decode cX0_findPlaces 32 = .ok (.aload_n 0, 1) := by decide +kernel
theorem dX0_findPlaces_33 : decode cX0_findPlaces 33 = .ok (.getfield 26, 3) := by decide +kernel
theorem dX0_findPlaces_36 : decode cX0_findPlaces 36 = .ok (.iconst 1, 1) := by decide +kernel
theorem dX0_findPlaces_37 : decode cX0_findPlaces 37 = .ok (.aaload, 1) := by decide +kernel
theorem dX0_findPlaces_38 : decode cX0_findPlaces 38 = .ok (.iload_n 1, 1) := by decide +kernel
theorem dX0_findPlaces_39 : decode cX0_findPlaces 39 = .ok (.iaload, 1) := by decide +kernel
theorem dX0_findPlaces_40 : decode cX0_findPlaces 40 = .ok (.iload_n 1, 1) := by decide +kernel
theorem dX0_findPlaces_41 : decode cX0_findPlaces 41 = .ok (.iastore, 1) := by decide +kernel
theorem dX0_findPlaces_42 : decode cX0_findPlaces 42 = .ok (.iinc 1 1, 3) := by decide +kernel
theorem dX0_findPlaces_45 : decode cX0_findPlaces 45 = .ok (.goto (-43), 3) := by decide +kernel
theorem dX0_findPlaces_48 : decode cX0_findPlaces 48 = .ok (.return_, 1) := by decide +kernel
theorem dX0_begin_0 : decode cX0_begin 0 = .ok (.iconst 0, 1) := by decide +kernel
theorem dX0_begin_1 : decode cX0_begin 1 = .ok (.istore_n 3, 1) := by decide +kernel
theorem dX0_begin_2 : decode cX0_begin 2 = .ok (.iconst 0, 1) := by decide +kernel
theorem dX0_begin_3 : decode cX0_begin 3 = .ok (.istore 4, 2) := by decide +kernel
theorem dX0_begin_5 : decode cX0_begin 5 = .ok (.iconst 0, 1) := by decide +kernel
theorem dX0_begin_6 : decode cX0_begin 6 = .ok (.istore 5, 2) := by decide +kernel
theorem dX0_begin_8 : decode cX0_begin 8 = .ok (.iload 5, 2) := by decide +kernel
theorem dX0_begin_10 : decode cX0_begin 10 = .ok (.iload_n 2, 1) := by decide +kernel
theorem dX0_begin_11 : decode cX0_begin 11 = .ok (.if_icmp .ge 85, 3) := by decide +kernel
theorem dX0_begin_14 : decode cX0_begin 14 = .ok (.aload_n 0, 1) := by decide +kernel
theorem dX0_begin_15 : decode cX0_begin 15 = .ok (.getfield 26, 3) := by decide +kernel
theorem dX0_begin_18 : decode cX0_begin 18 = .ok (.iconst 0, 1) := by decide +kernel
theorem dX0_begin_19 : decode cX0_begin 19 = .ok (.aaload, 1) := by decide +kernel
theorem dX0_begin_20 : decode cX0_begin 20 = .ok (.iload 5, 2) := by decide +kernel
theorem dX0_begin_22 : decode cX0_begin 22 = .ok (.iaload, 1) := by decide +kernel
theorem dX0_begin_23 : decode cX0_begin 23 = .ok (.istore 6, 2) := by decide +kernel
theorem dX0_begin_25 : decode cX0_begin 25 = .ok (.aload_n 0, 1) := by decide +kernel
theorem dX0_begin_26 : decode cX0_begin 26 = .ok (.getfield 29, 3) := by decide +kernel
theorem dX0_begin_29 : decode cX0_begin 29 = .ok (.iconst 1, 1) := by decide +kernel
theorem dX0_begin_30 : decode cX0_begin 30 = .ok (.aaload, 1) := by decide +kernel
theorem dX0_begin_31 : decode cX0_begin 31 = .ok (.iload 6, 2) := by decide +kernel
theorem dX0_begin_33 : decode cX0_begin 33 = .ok (.iaload, 1) := by decide +kernel
theorem dX0_begin_34 : decode cX0_begin 34 = .ok (.aload_n 0, 1) := by decide +kernel
theorem dX0_begin_35 : decode cX0_begin 35 = .ok (.getfield 29, 3) := by decide +kernel
theorem dX0_begin_38 : decode cX0_begin 38 = .ok (.iconst 1, 1) := by decide +kernel
theorem dX0_begin_39 : decode cX0_begin 39 = .ok (.aaload, 1) := by decide +kernel
theorem dX0_begin_40 : decode cX0_begin 40 = .ok (.iload_n 1, 1) := by decide +kernel
theorem dX0_begin_41 : decode cX0_begin 41 = .ok (.iaload, 1) := by decide +kernel
theorem dX0_begin_42 : decode cX0_begin 42 = .ok (.if_icmp .ge 26, 3) := by decide +kernel
theorem dX0_begin_45 : decode cX0_begin 45 = .ok (.iload_n 3, 1) := by decide +kernel
theorem dX0_begin_46 : decode cX0_begin 46 = .ok (.aload_n 0, 1) := by decide +kernel
theorem dX0_begin_47 : decode cX0_begin 47 = .ok (.getfield 35, 3) := by decide +kernel
theorem dX0_begin_50 : decode cX0_begin 50 = .ok (.iload 6, 2) := by decide +kernel
theorem dX0_begin_52 : decode cX0_begin 52 = .ok (.iaload, 1) := by decide +kernel
theorem dX0_begin_53 : decode cX0_begin 53 = .ok (.aload_n 0, 1) := by decide +kernel
theorem dX0_begin_54 : decode cX0_begin 54 = .ok (.getfield 18, 3) := by decide +kernel
theorem dX0_begin_57 : decode cX0_begin 57 = .ok (.iload 6, 2) := by decide +kernel
theorem dX0_begin_59 : decode cX0_begin 59 = .ok (.iaload, 1) := by decide +kernel
theorem dX0_begin_60 : decode cX0_begin 60 = .ok (.iadd, 1) := by decide +kernel
theorem dX0_begin_61 : decode cX0_begin 61 = .ok (.invokestatic 75, 3) := by decide +kernel
theorem dX0_begin_64 : decode cX0_begin 64 = .ok (.istore_n 3, 1) := by decide +kernel
theorem dX0_begin_65 : decode cX0_begin 65 = .ok (.goto 25, 3) := by decide +kernel
theorem dX0_begin_68 : decode cX0_begin 68 = .ok (.iload 4, 2) := by decide +kernel
theorem dX0_begin_70 : decode cX0_begin 70 = .ok (.aload_n 0, 1) := by decide +kernel
theorem dX0_begin_71 : decode cX0_begin 71 = .ok (.getfield 38, 3) := by decide +kernel
theorem dX0_begin_74 : decode cX0_begin 74 = .ok (.iload 6, 2) := by decide +kernel
theorem dX0_begin_76 : decode cX0_begin 76 = .ok (.iaload, 1) := by decide +kernel
theorem dX0_begin_77 : decode cX0_begin 77 = .ok (.aload_n 0, 1) := by decide +kernel
theorem dX0_begin_78 : decode cX0_begin 78 = .ok (.getfield 32, 3) := by decide +kernel
theorem dX0_begin_81 : decode cX0_begin 81 = .ok (.iload 6, 2) := by decide +kernel
theorem dX0_begin_83 : decode cX0_begin 83 = .ok (.iaload, 1) := by decide +kernel
theorem dX0_begin_84 : decode cX0_begin 84 = .ok (.iadd, 1) := by decide +kernel
theorem dX0_begin_85 : decode cX0_begin 85 = .ok (.invokestatic 75, 3) := by decide +kernel
theorem dX0_begin_88 : decode cX0_begin 88 = .ok (.istore 4, 2) := by decide +kernel
theorem dX0_begin_90 : decode cX0_begin 90 = .ok (.iinc 5 1, 3) := by decide +kernel
theorem dX0_begin_93 : decode cX0_begin 93 = .ok (.goto (-85), 3) := by decide +kernel
theorem dX0_begin_96 : decode cX0_begin 96 = .ok (.aload_n 0, 1) := by decide +kernel
theorem dX0_begin_97 : decode cX0_begin 97 = .ok (.getfield 35, 3) := by decide +kernel
theorem dX0_begin_100 : decode cX0_begin 100 = .ok (.iload_n 1, 1) := by decide +kernel
theorem dX0_begin_101 : decode cX0_begin 101 = .ok (.iload_n 3, 1) := by decide +kernel
theorem dX0_begin_102 : decode cX0_begin 102 = .ok (.iastore, 1) := by decide +kernel
theorem dX0_begin_103 : decode cX0_begin 103 = .ok (.aload_n 0, 1) := by decide +kernel
theorem dX0_begin_104 : decode cX0_begin 104 = .ok (.getfield 38, 3) := by decide +kernel
theorem dX0_begin_107 : decode cX0_begin 107 = .ok (.iload_n 1, 1) := by decide +kernel
theorem dX0_begin_108 : decode cX0_begin 108 = .ok (.iload 4, 2) := by decide +kernel
theorem dX0_begin_110 : decode cX0_begin 110 = .ok (.iastore, 1) := by decide +kernel
theorem dX0_begin_111 : decode cX0_begin 111 = .ok (.return_, 1) := by decide +kernel
theorem dX0_sizeOf_0 : decode cX0_sizeOf 0 = .ok (.aload_n 0, 1) := by decide +kernel
theorem dX0_sizeOf_1 : decode cX0_sizeOf 1 = .ok (.getfield 9, 3) := by decide +kernel
theorem dX0_sizeOf_4 : decode cX0_sizeOf 4 = .ok (.iload_n 1, 1) := by decide +kernel
theorem dX0_sizeOf_5 : decode cX0_sizeOf 5 = .ok (.iaload, 1) := by decide +kernel
theorem dX0_sizeOf_6 : decode cX0_sizeOf 6 = .ok (.lookupswitch 44 #[(1, 35), (2, 26)], 26) := by decide +kernel
theorem dX0_sizeOf_32 : decode cX0_sizeOf 32 = .ok (.iconst 2, 1) := by decide +kernel
theorem dX0_sizeOf_33 : decode cX0_sizeOf 33 = .ok (.aload_n 0, 1) := by decide +kernel
theorem dX0_sizeOf_34 : decode cX0_sizeOf 34 = .ok (.getfield 15, 3) := by decide +kernel
theorem dX0_sizeOf_37 : decode cX0_sizeOf 37 = .ok (.iload_n 1, 1) := by decide +kernel
theorem dX0_sizeOf_38 : decode cX0_sizeOf 38 = .ok (.iaload, 1) := by decide +kernel
theorem dX0_sizeOf_39 : decode cX0_sizeOf 39 = .ok (.imul, 1) := by decide +kernel
theorem dX0_sizeOf_40 : decode cX0_sizeOf 40 = .ok (.ireturn, 1) := by decide +kernel
theorem dX0_sizeOf_41 : decode cX0_sizeOf 41 = .ok (.aload_n 0, 1) := by decide +kernel
theorem dX0_sizeOf_42 : decode cX0_sizeOf 42 = .ok (.getfield 15, 3) := by decide +kernel
theorem dX0_sizeOf_45 : decode cX0_sizeOf 45 = .ok (.iload_n 1, 1) := by decide +kernel
theorem dX0_sizeOf_46 : decode cX0_sizeOf 46 = .ok (.iaload, 1) := by decide +kernel
theorem dX0_sizeOf_47 : decode cX0_sizeOf 47 = .ok (.iconst 1, 1) := by decide +kernel
theorem dX0_sizeOf_48 : decode cX0_sizeOf 48 = .ok (.iadd, 1) := by decide +kernel
theorem dX0_sizeOf_49 : decode cX0_sizeOf 49 = .ok (.ireturn, 1) := by decide +kernel
theorem dX0_sizeOf_50 : decode cX0_sizeOf 50 = .ok (.aload_n 0, 1) := by decide +kernel
theorem dX0_sizeOf_51 : decode cX0_sizeOf 51 = .ok (.getfield 15, 3) := by decide +kernel
theorem dX0_sizeOf_54 : decode cX0_sizeOf 54 = .ok (.iload_n 1, 1) := by decide +kernel
theorem dX0_sizeOf_55 : decode cX0_sizeOf 55 = .ok (.iaload, 1) := by decide +kernel
theorem dX0_sizeOf_56 : decode cX0_sizeOf 56 = .ok (.ireturn, 1) := by decide +kernel
theorem dX0_heightOf_0 : decode cX0_heightOf 0 = .ok (.aload_n 0, 1) := by decide +kernel
theorem dX0_heightOf_1 : decode cX0_heightOf 1 = .ok (.getfield 18, 3) := by decide +kernel
theorem dX0_heightOf_4 : decode cX0_heightOf 4 = .ok (.iload_n 1, 1) := by decide +kernel
theorem dX0_heightOf_5 : decode cX0_heightOf 5 = .ok (.iaload, 1) := by decide +kernel
theorem dX0_heightOf_6 : decode cX0_heightOf 6 = .ok (.istore_n 2, 1) := by decide +kernel
theorem dX0_heightOf_7 : decode cX0_heightOf 7 = .ok (.iload_n 2, 1) := by decide +kernel
theorem dX0_heightOf_8 : decode cX0_heightOf 8 = .ok (.iconst 1, 1) := by decide +kernel
theorem dX0_heightOf_9 : decode cX0_heightOf 9 = .ok (.if_icmp .ge 7, 3) := by decide +kernel
theorem dX0_heightOf_12 : decode cX0_heightOf 12 = .ok (.iconst 0, 1) := by decide +kernel
theorem dX0_heightOf_13 : decode cX0_heightOf 13 = .ok (.goto 14, 3) := by decide +kernel
theorem dX0_heightOf_16 : decode cX0_heightOf 16 = .ok (.aload_n 0, 1) := by decide +kernel
theorem dX0_heightOf_17 : decode cX0_heightOf 17 = .ok (.iload_n 1, 1) := by decide +kernel
theorem dX0_heightOf_18 : decode cX0_heightOf 18 = .ok (.invokevirtual 81, 3) := by decide +kernel
theorem dX0_heightOf_21 : decode cX0_heightOf 21 = .ok (.iload_n 2, 1) := by decide +kernel
theorem dX0_heightOf_22 : decode cX0_heightOf 22 = .ok (.iadd, 1) := by decide +kernel
theorem dX0_heightOf_23 : decode cX0_heightOf 23 = .ok (.iconst 1, 1) := by decide +kernel
theorem dX0_heightOf_24 : decode cX0_heightOf 24 = .ok (.isub, 1) := by decide +kernel
theorem dX0_heightOf_25 : decode cX0_heightOf 25 = .ok (.iload_n 2, 1) := by decide +kernel
theorem dX0_heightOf_26 : decode cX0_heightOf 26 = .ok (.idiv, 1) := by decide +kernel
theorem dX0_heightOf_27 : decode cX0_heightOf 27 = .ok (.ireturn, 1) := by decide +kernel
theorem dX0_isLeft_0 : decode cX0_isLeft 0 = .ok (.aload_n 0, 1) := by decide +kernel
theorem dX0_isLeft_1 : decode cX0_isLeft 1 = .ok (.getfield 29, 3) := by decide +kernel
theorem dX0_isLeft_4 : decode cX0_isLeft 4 = .ok (.iconst 0, 1) := by decide +kernel
theorem dX0_isLeft_5 : decode cX0_isLeft 5 = .ok (.aaload, 1) := by decide +kernel
theorem dX0_isLeft_6 : decode cX0_isLeft 6 = .ok (.iload_n 1, 1) := by decide +kernel
theorem dX0_isLeft_7 : decode cX0_isLeft 7 = .ok (.iaload, 1) := by decide +kernel
theorem dX0_isLeft_8 : decode cX0_isLeft 8 = .ok (.aload_n 0, 1) := by decide +kernel
theorem dX0_isLeft_9 : decode cX0_isLeft 9 = .ok (.getfield 29, 3) := by decide +kernel
theorem dX0_isLeft_12 : decode cX0_isLeft 12 = .ok (.iconst 0, 1) := by decide +kernel
theorem dX0_isLeft_13 : decode cX0_isLeft 13 = .ok (.aaload, 1) := by decide +kernel
theorem dX0_isLeft_14 : decode cX0_isLeft 14 = .ok (.iload_n 2, 1) := by decide +kernel
theorem dX0_isLeft_15 : decode cX0_isLeft 15 = .ok (.iaload, 1) := by decide +kernel
theorem dX0_isLeft_16 : decode cX0_isLeft 16 = .ok (.if_icmp .ge 26, 3) := by decide +kernel
theorem dX0_isLeft_19 : decode cX0_isLeft 19 = .ok (.aload_n 0, 1) := by decide +kernel
theorem dX0_isLeft_20 : decode cX0_isLeft 20 = .ok (.getfield 29, 3) := by decide +kernel
theorem dX0_isLeft_23 : decode cX0_isLeft 23 = .ok (.iconst 1, 1) := by decide +kernel
theorem dX0_isLeft_24 : decode cX0_isLeft 24 = .ok (.aaload, 1) := by decide +kernel
theorem dX0_isLeft_25 : decode cX0_isLeft 25 = .ok (.iload_n 1, 1) := by decide +kernel
theorem dX0_isLeft_26 : decode cX0_isLeft 26 = .ok (.iaload, 1) := by decide +kernel
theorem dX0_isLeft_27 : decode cX0_isLeft 27 = .ok (.aload_n 0, 1) := by decide +kernel
theorem dX0_isLeft_28 : decode cX0_isLeft 28 = .ok (.getfield 29, 3) := by decide +kernel
theorem dX0_isLeft_31 : decode cX0_isLeft 31 = .ok (.iconst 1, 1) := by decide +kernel
theorem dX0_isLeft_32 : decode cX0_isLeft 32 = .ok (.aaload, 1) := by decide +kernel
theorem dX0_isLeft_33 : decode cX0_isLeft 33 = .ok (.iload_n 2, 1) := by decide +kernel
theorem dX0_isLeft_34 : decode cX0_isLeft 34 = .ok (.iaload, 1) := by decide +kernel
theorem dX0_isLeft_35 : decode cX0_isLeft 35 = .ok (.if_icmp .ge 7, 3) := by decide +kernel
theorem dX0_isLeft_38 : decode cX0_isLeft 38 = .ok (.iconst 1, 1) := by decide +kernel
theorem dX0_isLeft_39 : decode cX0_isLeft 39 = .ok (.goto 4, 3) := by decide +kernel
theorem dX0_isLeft_42 : decode cX0_isLeft 42 = .ok (.iconst 0, 1) := by decide +kernel
theorem dX0_isLeft_43 : decode cX0_isLeft 43 = .ok (.ireturn, 1) := by decide +kernel
theorem dX0_isAbove_0 : decode cX0_isAbove 0 = .ok (.aload_n 0, 1) := by decide +kernel
theorem dX0_isAbove_1 : decode cX0_isAbove 1 = .ok (.getfield 29, 3) := by decide +kernel
theorem dX0_isAbove_4 : decode cX0_isAbove 4 = .ok (.iconst 0, 1) := by decide +kernel
theorem dX0_isAbove_5 : decode cX0_isAbove 5 = .ok (.aaload, 1) := by decide +kernel
theorem dX0_isAbove_6 : decode cX0_isAbove 6 = .ok (.iload_n 1, 1) := by decide +kernel
theorem dX0_isAbove_7 : decode cX0_isAbove 7 = .ok (.iaload, 1) := by decide +kernel
theorem dX0_isAbove_8 : decode cX0_isAbove 8 = .ok (.aload_n 0, 1) := by decide +kernel
theorem dX0_isAbove_9 : decode cX0_isAbove 9 = .ok (.getfield 29, 3) := by decide +kernel
theorem dX0_isAbove_12 : decode cX0_isAbove 12 = .ok (.iconst 0, 1) := by decide +kernel
theorem dX0_isAbove_13 : decode cX0_isAbove 13 = .ok (.aaload, 1) := by decide +kernel
theorem dX0_isAbove_14 : decode cX0_isAbove 14 = .ok (.iload_n 2, 1) := by decide +kernel
theorem dX0_isAbove_15 : decode cX0_isAbove 15 = .ok (.iaload, 1) := by decide +kernel
theorem dX0_isAbove_16 : decode cX0_isAbove 16 = .ok (.if_icmp .ge 26, 3) := by decide +kernel
theorem dX0_isAbove_19 : decode cX0_isAbove 19 = .ok (.aload_n 0, 1) := by decide +kernel
theorem dX0_isAbove_20 : decode cX0_isAbove 20 = .ok (.getfield 29, 3) := by decide +kernel
theorem dX0_isAbove_23 : decode cX0_isAbove 23 = .ok (.iconst 1, 1) := by decide +kernel
theorem dX0_isAbove_24 : decode cX0_isAbove 24 = .ok (.aaload, 1) := by decide +kernel
theorem dX0_isAbove_25 : decode cX0_isAbove 25 = .ok (.iload_n 1, 1) := by decide +kernel
theorem dX0_isAbove_26 : decode cX0_isAbove 26 = .ok (.iaload, 1) := by decide +kernel
theorem dX0_isAbove_27 : decode cX0_isAbove 27 = .ok (.aload_n 0, 1) := by decide +kernel
theorem dX0_isAbove_28 : decode cX0_isAbove 28 = .ok (.getfield 29, 3) := by decide +kernel
theorem dX0_isAbove_31 : decode cX0_isAbove 31 = .ok (.iconst 1, 1) := by decide +kernel
theorem dX0_isAbove_32 : decode cX0_isAbove 32 = .ok (.aaload, 1) := by decide +kernel
theorem dX0_isAbove_33 : decode cX0_isAbove 33 = .ok (.iload_n 2, 1) := by decide +kernel
theorem dX0_isAbove_34 : decode cX0_isAbove 34 = .ok (.iaload, 1) := by decide +kernel
theorem dX0_isAbove_35 : decode cX0_isAbove 35 = .ok (.if_icmp .le 7, 3) := by decide +kernel
theorem dX0_isAbove_38 : decode cX0_isAbove 38 = .ok (.iconst 1, 1) := by decide +kernel
theorem dX0_isAbove_39 : decode cX0_isAbove 39 = .ok (.goto 4, 3) := by decide +kernel
theorem dX0_isAbove_42 : decode cX0_isAbove 42 = .ok (.iconst 0, 1) := by decide +kernel
theorem dX0_isAbove_43 : decode cX0_isAbove 43 = .ok (.ireturn, 1) := by decide +kernel
theorem dX0_leftOf_0 : decode cX0_leftOf 0 = .ok (.iconst 0, 1) := by decide +kernel
theorem dX0_leftOf_1 : decode cX0_leftOf 1 = .ok (.istore_n 2, 1) := by decide +kernel
theorem dX0_leftOf_2 : decode cX0_leftOf 2 = .ok (.iconst 0, 1) := by decide +kernel
theorem dX0_leftOf_3 : decode cX0_leftOf 3 = .ok (.istore_n 3, 1) := by decide +kernel
theorem dX0_leftOf_4 : decode cX0_leftOf 4 = .ok (.iload_n 3, 1) := by decide +kernel
theorem dX0_leftOf_5 : decode cX0_leftOf 5 = .ok (.aload_n 0, 1) := by decide +kernel
theorem dX0_leftOf_6 : decode cX0_leftOf 6 = .ok (.getfield 41, 3) := by decide +kernel
theorem dX0_leftOf_9 : decode cX0_leftOf 9 = .ok (.if_icmp .ge 24, 3) := by decide +kernel
theorem dX0_leftOf_12 : decode cX0_leftOf 12 = .ok (.aload_n 0, 1) := by decide +kernel
theorem dX0_leftOf_13 : decode cX0_leftOf 13 = .ok (.iload_n 3, 1) := by decide +kernel
theorem dX0_leftOf_14 : decode cX0_leftOf 14 = .ok (.iload_n 1, 1) := by decide +kernel
theorem dX0_leftOf_15 : decode cX0_leftOf 15 = .ok (.invokevirtual 84, 3) := by decide +kernel
theorem dX0_leftOf_18 : decode cX0_leftOf 18 = .ok (.ifCond .eq 9, 3) := by decide +kernel
theorem dX0_leftOf_21 : decode cX0_leftOf 21 = .ok (.iload_n 2, 1) := by decide +kernel
theorem dX0_leftOf_22 : decode cX0_leftOf 22 = .ok (.iconst 1, 1) := by decide +kernel
theorem dX0_leftOf_23 : decode cX0_leftOf 23 = .ok (.iload_n 3, 1) := by decide +kernel
theorem dX0_leftOf_24 : decode cX0_leftOf 24 = .ok (.ishl, 1) := by decide +kernel
theorem dX0_leftOf_25 : decode cX0_leftOf 25 = .ok (.ior, 1) := by decide +kernel
theorem dX0_leftOf_26 : decode cX0_leftOf 26 = .ok (.istore_n 2, 1) := by decide +kernel
theorem dX0_leftOf_27 : decode cX0_leftOf 27 = .ok (.iinc 3 1, 3) := by decide +kernel
theorem dX0_leftOf_30 : decode cX0_leftOf 30 = .ok (.goto (-26), 3) := by decide +kernel
theorem dX0_leftOf_33 : decode cX0_leftOf 33 = .ok (.iload_n 2, 1) := by decide +kernel
theorem dX0_leftOf_34 : decode cX0_leftOf 34 = .ok (.ireturn, 1) := by decide +kernel
theorem dX0_aboveOf_0 : decode cX0_aboveOf 0 = .ok (.iconst 0, 1) := by decide +kernel
theorem dX0_aboveOf_1 : decode cX0_aboveOf 1 = .ok (.istore_n 2, 1) := by decide +kernel
theorem dX0_aboveOf_2 : decode cX0_aboveOf 2 = .ok (.iconst 0, 1) := by decide +kernel
theorem dX0_aboveOf_3 : decode cX0_aboveOf 3 = .ok (.istore_n 3, 1) := by decide +kernel
theorem dX0_aboveOf_4 : decode cX0_aboveOf 4 = .ok (.iload_n 3, 1) := by decide +kernel
theorem dX0_aboveOf_5 : decode cX0_aboveOf 5 = .ok (.aload_n 0, 1) := by decide +kernel
theorem dX0_aboveOf_6 : decode cX0_aboveOf 6 = .ok (.getfield 41, 3) := by decide +kernel
theorem dX0_aboveOf_9 : decode cX0_aboveOf 9 = .ok (.if_icmp .ge 24, 3) := by decide +kernel
theorem dX0_aboveOf_12 : decode cX0_aboveOf 12 = .ok (.aload_n 0, 1) := by decide +kernel
theorem dX0_aboveOf_13 : decode cX0_aboveOf 13 = .ok (.iload_n 3, 1) := by decide +kernel
theorem dX0_aboveOf_14 : decode cX0_aboveOf 14 = .ok (.iload_n 1, 1) := by decide +kernel
theorem dX0_aboveOf_15 : decode cX0_aboveOf 15 = .ok (.invokevirtual 88, 3) := by decide +kernel
theorem dX0_aboveOf_18 : decode cX0_aboveOf 18 = .ok (.ifCond .eq 9, 3) := by decide +kernel
theorem dX0_aboveOf_21 : decode cX0_aboveOf 21 = .ok (.iload_n 2, 1) := by decide +kernel
theorem dX0_aboveOf_22 : decode cX0_aboveOf 22 = .ok (.iconst 1, 1) := by decide +kernel
theorem dX0_aboveOf_23 : decode cX0_aboveOf 23 = .ok (.iload_n 3, 1) := by decide +kernel
theorem dX0_aboveOf_24 : decode cX0_aboveOf 24 = .ok (.ishl, 1) := by decide +kernel
theorem dX0_aboveOf_25 : decode cX0_aboveOf 25 = .ok (.ior, 1) := by decide +kernel
theorem dX0_aboveOf_26 : decode cX0_aboveOf 26 = .ok (.istore_n 2, 1) := by decide +kernel
theorem dX0_aboveOf_27 : decode cX0_aboveOf 27 = .ok (.iinc 3 1, 3) := by decide +kernel
theorem dX0_aboveOf_30 : decode cX0_aboveOf 30 = .ok (.goto (-26), 3) := by decide +kernel
theorem dX0_aboveOf_33 : decode cX0_aboveOf 33 = .ok (.iload_n 2, 1) := by decide +kernel
theorem dX0_aboveOf_34 : decode cX0_aboveOf 34 = .ok (.ireturn, 1) := by decide +kernel
theorem dX0_touching_0 : decode cX0_touching 0 = .ok (.iconst 0, 1) := by decide +kernel
theorem dX0_touching_1 : decode cX0_touching 1 = .ok (.istore_n 2, 1) := by decide +kernel
theorem dX0_touching_2 : decode cX0_touching 2 = .ok (.iconst 0, 1) := by decide +kernel
theorem dX0_touching_3 : decode cX0_touching 3 = .ok (.istore_n 3, 1) := by decide +kernel
theorem dX0_touching_4 : decode cX0_touching 4 = .ok (.iload_n 3, 1) := by decide +kernel
theorem dX0_touching_5 : decode cX0_touching 5 = .ok (.aload_n 0, 1) := by decide +kernel
theorem dX0_touching_6 : decode cX0_touching 6 = .ok (.getfield 41, 3) := by decide +kernel
theorem dX0_touching_9 : decode cX0_touching 9 = .ok (.if_icmp .ge 24, 3) := by decide +kernel
theorem dX0_touching_12 : decode cX0_touching 12 = .ok (.aload_n 0, 1) := by decide +kernel
theorem dX0_touching_13 : decode cX0_touching 13 = .ok (.iload_n 1, 1) := by decide +kernel
theorem dX0_touching_14 : decode cX0_touching 14 = .ok (.iload_n 3, 1) := by decide +kernel
theorem dX0_touching_15 : decode cX0_touching 15 = .ok (.invokevirtual 91, 3) := by decide +kernel
theorem dX0_touching_18 : decode cX0_touching 18 = .ok (.ifCond .eq 9, 3) := by decide +kernel
theorem dX0_touching_21 : decode cX0_touching 21 = .ok (.iload_n 2, 1) := by decide +kernel
theorem dX0_touching_22 : decode cX0_touching 22 = .ok (.iconst 1, 1) := by decide +kernel
theorem dX0_touching_23 : decode cX0_touching 23 = .ok (.iload_n 3, 1) := by decide +kernel
theorem dX0_touching_24 : decode cX0_touching 24 = .ok (.ishl, 1) := by decide +kernel
theorem dX0_touching_25 : decode cX0_touching 25 = .ok (.ior, 1) := by decide +kernel
theorem dX0_touching_26 : decode cX0_touching 26 = .ok (.istore_n 2, 1) := by decide +kernel
theorem dX0_touching_27 : decode cX0_touching 27 = .ok (.iinc 3 1, 3) := by decide +kernel
theorem dX0_touching_30 : decode cX0_touching 30 = .ok (.goto (-26), 3) := by decide +kernel
theorem dX0_touching_33 : decode cX0_touching 33 = .ok (.iload_n 2, 1) := by decide +kernel
theorem dX0_touching_34 : decode cX0_touching 34 = .ok (.ireturn, 1) := by decide +kernel
theorem dX0_touchingTwos_0 : decode cX0_touchingTwos 0 = .ok (.iconst 0, 1) := by decide +kernel
theorem dX0_touchingTwos_1 : decode cX0_touchingTwos 1 = .ok (.istore_n 1, 1) := by decide +kernel
theorem dX0_touchingTwos_2 : decode cX0_touchingTwos 2 = .ok (.iconst 0, 1) := by decide +kernel
theorem dX0_touchingTwos_3 : decode cX0_touchingTwos 3 = .ok (.istore_n 2, 1) := by decide +kernel
theorem dX0_touchingTwos_4 : decode cX0_touchingTwos 4 = .ok (.iload_n 2, 1) := by decide +kernel
theorem dX0_touchingTwos_5 : decode cX0_touchingTwos 5 = .ok (.aload_n 0, 1) := by decide +kernel
theorem dX0_touchingTwos_6 : decode cX0_touchingTwos 6 = .ok (.getfield 41, 3) := by decide +kernel
theorem dX0_touchingTwos_9 : decode cX0_touchingTwos 9 = .ok (.if_icmp .ge 20, 3) := by decide +kernel
theorem dX0_touchingTwos_12 : decode cX0_touchingTwos 12 = .ok (.iload_n 1, 1) := by decide +kernel
theorem dX0_touchingTwos_13 : decode cX0_touchingTwos 13 = .ok (.aload_n 0, 1) := by decide +kernel
theorem dX0_touchingTwos_14 : decode cX0_touchingTwos 14 = .ok (.iload_n 2, 1) := by decide +kernel
theorem dX0_touchingTwos_15 : decode cX0_touchingTwos 15 = .ok (.invokevirtual 94, 3) := by decide +kernel
theorem dX0_touchingTwos_18 : decode cX0_touchingTwos 18 = .ok (.invokestatic 97, 3) := by decide +kernel
theorem dX0_touchingTwos_21 : decode cX0_touchingTwos 21 = .ok (.iadd, 1) := by decide +kernel
theorem dX0_touchingTwos_22 : decode cX0_touchingTwos 22 = .ok (.istore_n 1, 1) := by decide +kernel
theorem dX0_touchingTwos_23 : decode cX0_touchingTwos 23 = .ok (.iinc 2 1, 3) := by decide +kernel
theorem dX0_touchingTwos_26 : decode cX0_touchingTwos 26 = .ok (.goto (-22), 3) := by decide +kernel
theorem dX0_touchingTwos_29 : decode cX0_touchingTwos 29 = .ok (.iload_n 1, 1) := by decide +kernel
theorem dX0_touchingTwos_30 : decode cX0_touchingTwos 30 = .ok (.iconst 2, 1) := by decide +kernel
theorem dX0_touchingTwos_31 : decode cX0_touchingTwos 31 = .ok (.idiv, 1) := by decide +kernel
theorem dX0_touchingTwos_32 : decode cX0_touchingTwos 32 = .ok (.ireturn, 1) := by decide +kernel
theorem dX0_touch_0 : decode cX0_touch 0 = .ok (.aload_n 0, 1) := by decide +kernel
theorem dX0_touch_1 : decode cX0_touch 1 = .ok (.getfield 35, 3) := by decide +kernel
theorem dX0_touch_4 : decode cX0_touch 4 = .ok (.iload_n 1, 1) := by decide +kernel
theorem dX0_touch_5 : decode cX0_touch 5 = .ok (.iaload, 1) := by decide +kernel
theorem dX0_touch_6 : decode cX0_touch 6 = .ok (.aload_n 0, 1) := by decide +kernel
theorem dX0_touch_7 : decode cX0_touch 7 = .ok (.getfield 18, 3) := by decide +kernel
theorem dX0_touch_10 : decode cX0_touch 10 = .ok (.iload_n 1, 1) := by decide +kernel
theorem dX0_touch_11 : decode cX0_touch 11 = .ok (.iaload, 1) := by decide +kernel
theorem dX0_touch_12 : decode cX0_touch 12 = .ok (.aload_n 0, 1) := by decide +kernel
theorem dX0_touch_13 : decode cX0_touch 13 = .ok (.getfield 35, 3) := by decide +kernel
theorem dX0_touch_16 : decode cX0_touch 16 = .ok (.iload_n 2, 1) := by decide +kernel
theorem dX0_touch_17 : decode cX0_touch 17 = .ok (.iaload, 1) := by decide +kernel
theorem dX0_touch_18 : decode cX0_touch 18 = .ok (.aload_n 0, 1) := by decide +kernel
theorem dX0_touch_19 : decode cX0_touch 19 = .ok (.getfield 18, 3) := by decide +kernel
theorem dX0_touch_22 : decode cX0_touch 22 = .ok (.iload_n 2, 1) := by decide +kernel
theorem dX0_touch_23 : decode cX0_touch 23 = .ok (.iaload, 1) := by decide +kernel
theorem dX0_touch_24 : decode cX0_touch 24 = .ok (.invokestatic 102, 3) := by decide +kernel
theorem dX0_touch_27 : decode cX0_touch 27 = .ok (.ifCond .eq 33, 3) := by decide +kernel
theorem dX0_touch_30 : decode cX0_touch 30 = .ok (.aload_n 0, 1) := by decide +kernel
theorem dX0_touch_31 : decode cX0_touch 31 = .ok (.getfield 38, 3) := by decide +kernel
theorem dX0_touch_34 : decode cX0_touch 34 = .ok (.iload_n 1, 1) := by decide +kernel
theorem dX0_touch_35 : decode cX0_touch 35 = .ok (.iaload, 1) := by decide +kernel
theorem dX0_touch_36 : decode cX0_touch 36 = .ok (.aload_n 0, 1) := by decide +kernel
theorem dX0_touch_37 : decode cX0_touch 37 = .ok (.getfield 32, 3) := by decide +kernel
theorem dX0_touch_40 : decode cX0_touch 40 = .ok (.iload_n 1, 1) := by decide +kernel
theorem dX0_touch_41 : decode cX0_touch 41 = .ok (.iaload, 1) := by decide +kernel
theorem dX0_touch_42 : decode cX0_touch 42 = .ok (.aload_n 0, 1) := by decide +kernel
theorem dX0_touch_43 : decode cX0_touch 43 = .ok (.getfield 38, 3) := by decide +kernel
theorem dX0_touch_46 : decode cX0_touch 46 = .ok (.iload_n 2, 1) := by decide +kernel
theorem dX0_touch_47 : decode cX0_touch 47 = .ok (.iaload, 1) := by decide +kernel
theorem dX0_touch_48 : decode cX0_touch 48 = .ok (.aload_n 0, 1) := by decide +kernel
theorem dX0_touch_49 : decode cX0_touch 49 = .ok (.getfield 32, 3) := by decide +kernel
theorem dX0_touch_52 : decode cX0_touch 52 = .ok (.iload_n 2, 1) := by decide +kernel
theorem dX0_touch_53 : decode cX0_touch 53 = .ok (.iaload, 1) := by decide +kernel
theorem dX0_touch_54 : decode cX0_touch 54 = .ok (.invokestatic 106, 3) := by decide +kernel
theorem dX0_touch_57 : decode cX0_touch 57 = .ok (.ifCond .ne 63, 3) := by decide +kernel
theorem dX0_touch_60 : decode cX0_touch 60 = .ok (.aload_n 0, 1) := by decide +kernel
theorem dX0_touch_61 : decode cX0_touch 61 = .ok (.getfield 38, 3) := by decide +kernel
theorem dX0_touch_64 : decode cX0_touch 64 = .ok (.iload_n 1, 1) := by decide +kernel
theorem dX0_touch_65 : decode cX0_touch 65 = .ok (.iaload, 1) := by decide +kernel
theorem dX0_touch_66 : decode cX0_touch 66 = .ok (.aload_n 0, 1) := by decide +kernel
theorem dX0_touch_67 : decode cX0_touch 67 = .ok (.getfield 32, 3) := by decide +kernel
theorem dX0_touch_70 : decode cX0_touch 70 = .ok (.iload_n 1, 1) := by decide +kernel
theorem dX0_touch_71 : decode cX0_touch 71 = .ok (.iaload, 1) := by decide +kernel
theorem dX0_touch_72 : decode cX0_touch 72 = .ok (.aload_n 0, 1) := by decide +kernel
theorem dX0_touch_73 : decode cX0_touch 73 = .ok (.getfield 38, 3) := by decide +kernel
theorem dX0_touch_76 : decode cX0_touch 76 = .ok (.iload_n 2, 1) := by decide +kernel
theorem dX0_touch_77 : decode cX0_touch 77 = .ok (.iaload, 1) := by decide +kernel
theorem dX0_touch_78 : decode cX0_touch 78 = .ok (.aload_n 0, 1) := by decide +kernel
theorem dX0_touch_79 : decode cX0_touch 79 = .ok (.getfield 32, 3) := by decide +kernel
theorem dX0_touch_82 : decode cX0_touch 82 = .ok (.iload_n 2, 1) := by decide +kernel
theorem dX0_touch_83 : decode cX0_touch 83 = .ok (.iaload, 1) := by decide +kernel
theorem dX0_touch_84 : decode cX0_touch 84 = .ok (.invokestatic 102, 3) := by decide +kernel
theorem dX0_touch_87 : decode cX0_touch 87 = .ok (.ifCond .eq 37, 3) := by decide +kernel
theorem dX0_touch_90 : decode cX0_touch 90 = .ok (.aload_n 0, 1) := by decide +kernel
theorem dX0_touch_91 : decode cX0_touch 91 = .ok (.getfield 35, 3) := by decide +kernel
theorem dX0_touch_94 : decode cX0_touch 94 = .ok (.iload_n 1, 1) := by decide +kernel
theorem dX0_touch_95 : decode cX0_touch 95 = .ok (.iaload, 1) := by decide +kernel
theorem dX0_touch_96 : decode cX0_touch 96 = .ok (.aload_n 0, 1) := by decide +kernel
theorem dX0_touch_97 : decode cX0_touch 97 = .ok (.getfield 18, 3) := by decide +kernel
theorem dX0_touch_100 : decode cX0_touch 100 = .ok (.iload_n 1, 1) := by decide +kernel
theorem dX0_touch_101 : decode cX0_touch 101 = .ok (.iaload, 1) := by decide +kernel
theorem dX0_touch_102 : decode cX0_touch 102 = .ok (.aload_n 0, 1) := by decide +kernel
theorem dX0_touch_103 : decode cX0_touch 103 = .ok (.getfield 35, 3) := by decide +kernel
theorem dX0_touch_106 : decode cX0_touch 106 = .ok (.iload_n 2, 1) := by decide +kernel
theorem dX0_touch_107 : decode cX0_touch 107 = .ok (.iaload, 1) := by decide +kernel
theorem dX0_touch_108 : decode cX0_touch 108 = .ok (.aload_n 0, 1) := by decide +kernel
theorem dX0_touch_109 : decode cX0_touch 109 = .ok (.getfield 18, 3) := by decide +kernel
theorem dX0_touch_112 : decode cX0_touch 112 = .ok (.iload_n 2, 1) := by decide +kernel
theorem dX0_touch_113 : decode cX0_touch 113 = .ok (.iaload, 1) := by decide +kernel
theorem dX0_touch_114 : decode cX0_touch 114 = .ok (.invokestatic 106, 3) := by decide +kernel
theorem dX0_touch_117 : decode cX0_touch 117 = .ok (.ifCond .eq 7, 3) := by decide +kernel
theorem dX0_touch_120 : decode cX0_touch 120 = .ok (.iconst 1, 1) := by decide +kernel
theorem dX0_touch_121 : decode cX0_touch 121 = .ok (.goto 4, 3) := by decide +kernel
theorem dX0_touch_124 : decode cX0_touch 124 = .ok (.iconst 0, 1) := by decide +kernel
theorem dX0_touch_125 : decode cX0_touch 125 = .ok (.ireturn, 1) := by decide +kernel
theorem dX0_meet_0 : decode cX0_meet 0 = .ok (.iload_n 0, 1) := by decide +kernel
theorem dX0_meet_1 : decode cX0_meet 1 = .ok (.iload_n 1, 1) := by decide +kernel
theorem dX0_meet_2 : decode cX0_meet 2 = .ok (.iadd, 1) := by decide +kernel
theorem dX0_meet_3 : decode cX0_meet 3 = .ok (.iload_n 2, 1) := by decide +kernel
theorem dX0_meet_4 : decode cX0_meet 4 = .ok (.if_icmp .eq 10, 3) := by decide +kernel
theorem dX0_meet_7 : decode cX0_meet 7 = .ok (.iload_n 2, 1) := by decide +kernel
theorem dX0_meet_8 : decode cX0_meet 8 = .ok (.iload_n 3, 1) := by decide +kernel
theorem dX0_meet_9 : decode cX0_meet 9 = .ok (.iadd, 1) := by decide +kernel
theorem dX0_meet_10 : decode cX0_meet 10 = .ok (.iload_n 0, 1) := by decide +kernel
theorem dX0_meet_11 : decode cX0_meet 11 = .ok (.if_icmp .ne 7, 3) := by decide +kernel
theorem dX0_meet_14 : decode cX0_meet 14 = .ok (.iconst 1, 1) := by decide +kernel
theorem dX0_meet_15 : decode cX0_meet 15 = .ok (.goto 4, 3) := by decide +kernel
theorem dX0_meet_18 : decode cX0_meet 18 = .ok (.iconst 0, 1) := by decide +kernel
theorem dX0_meet_19 : decode cX0_meet 19 = .ok (.ireturn, 1) := by decide +kernel
theorem dX0_share_0 : decode cX0_share 0 = .ok (.iload_n 0, 1) := by decide +kernel
theorem dX0_share_1 : decode cX0_share 1 = .ok (.iload_n 2, 1) := by decide +kernel
theorem dX0_share_2 : decode cX0_share 2 = .ok (.iload_n 3, 1) := by decide +kernel
theorem dX0_share_3 : decode cX0_share 3 = .ok (.iadd, 1) := by decide +kernel
theorem dX0_share_4 : decode cX0_share 4 = .ok (.if_icmp .ge 14, 3) := by decide +kernel
theorem dX0_share_7 : decode cX0_share 7 = .ok (.iload_n 2, 1) := by decide +kernel
theorem dX0_share_8 : decode cX0_share 8 = .ok (.iload_n 0, 1) := by decide +kernel
theorem dX0_share_9 : decode cX0_share 9 = .ok (.iload_n 1, 1) := by decide +kernel
theorem dX0_share_10 : decode cX0_share 10 = .ok (.iadd, 1) := by decide +kernel
theorem dX0_share_11 : decode cX0_share 11 = .ok (.if_icmp .ge 7, 3) := by decide +kernel
theorem dX0_share_14 : decode cX0_share 14 = .ok (.iconst 1, 1) := by decide +kernel
theorem dX0_share_15 : decode cX0_share 15 = .ok (.goto 4, 3) := by decide +kernel
theorem dX0_share_18 : decode cX0_share 18 = .ok (.iconst 0, 1) := by decide +kernel
theorem dX0_share_19 : decode cX0_share 19 = .ok (.ireturn, 1) := by decide +kernel
theorem dX0_waste_0 : decode cX0_waste 0 = .ok (.iconst 0, 1) := by decide +kernel
theorem dX0_waste_1 : decode cX0_waste 1 = .ok (.istore_n 1, 1) := by decide +kernel
theorem dX0_waste_2 : decode cX0_waste 2 = .ok (.iconst 0, 1) := by decide +kernel
theorem dX0_waste_3 : decode cX0_waste 3 = .ok (.istore_n 2, 1) := by decide +kernel
theorem dX0_waste_4 : decode cX0_waste 4 = .ok (.iload_n 2, 1) := by decide +kernel
theorem dX0_waste_5 : decode cX0_waste 5 = .ok (.aload_n 0, 1) := by decide +kernel
theorem dX0_waste_6 : decode cX0_waste 6 = .ok (.getfield 41, 3) := by decide +kernel
theorem dX0_waste_9 : decode cX0_waste 9 = .ok (.if_icmp .ge 25, 3) := by decide +kernel
theorem dX0_waste_12 : decode cX0_waste 12 = .ok (.iload_n 1, 1) := by decide +kernel
theorem dX0_waste_13 : decode cX0_waste 13 = .ok (.aload_n 0, 1) := by decide +kernel
theorem dX0_waste_14 : decode cX0_waste 14 = .ok (.getfield 18, 3) := by decide +kernel
theorem dX0_waste_17 : decode cX0_waste 17 = .ok (.iload_n 2, 1) := by decide +kernel
theorem dX0_waste_18 : decode cX0_waste 18 = .ok (.iaload, 1) := by decide +kernel
theorem dX0_waste_19 : decode cX0_waste 19 = .ok (.aload_n 0, 1) := by decide +kernel
theorem dX0_waste_20 : decode cX0_waste 20 = .ok (.getfield 32, 3) := by decide +kernel
theorem dX0_waste_23 : decode cX0_waste 23 = .ok (.iload_n 2, 1) := by decide +kernel
theorem dX0_waste_24 : decode cX0_waste 24 = .ok (.iaload, 1) := by decide +kernel
theorem dX0_waste_25 : decode cX0_waste 25 = .ok (.imul, 1) := by decide +kernel
theorem dX0_waste_26 : decode cX0_waste 26 = .ok (.iadd, 1) := by decide +kernel
theorem dX0_waste_27 : decode cX0_waste 27 = .ok (.istore_n 1, 1) := by decide +kernel
theorem dX0_waste_28 : decode cX0_waste 28 = .ok (.iinc 2 1, 3) := by decide +kernel
theorem dX0_waste_31 : decode cX0_waste 31 = .ok (.goto (-27), 3) := by decide +kernel
theorem dX0_waste_34 : decode cX0_waste 34 = .ok (.aload_n 0, 1) := by decide +kernel
theorem dX0_waste_35 : decode cX0_waste 35 = .ok (.getfield 61, 3) := by decide +kernel
theorem dX0_waste_38 : decode cX0_waste 38 = .ok (.aload_n 0, 1) := by decide +kernel
theorem dX0_waste_39 : decode cX0_waste 39 = .ok (.getfield 64, 3) := by decide +kernel
theorem dX0_waste_42 : decode cX0_waste 42 = .ok (.imul, 1) := by decide +kernel
theorem dX0_waste_43 : decode cX0_waste 43 = .ok (.iload_n 1, 1) := by decide +kernel
theorem dX0_waste_44 : decode cX0_waste 44 = .ok (.isub, 1) := by decide +kernel
theorem dX0_waste_45 : decode cX0_waste 45 = .ok (.ireturn, 1) := by decide +kernel
theorem dX0_isCritical_0 : decode cX0_isCritical 0 = .ok (.aload_n 0, 1) := by decide +kernel
theorem dX0_isCritical_1 : decode cX0_isCritical 1 = .ok (.getfield 61, 3) := by decide +kernel
theorem dX0_isCritical_4 : decode cX0_isCritical 4 = .ok (.istore_n 2, 1) := by decide +kernel
theorem dX0_isCritical_5 : decode cX0_isCritical 5 = .ok (.aload_n 0, 1) := by decide +kernel
theorem dX0_isCritical_6 : decode cX0_isCritical 6 = .ok (.getfield 18, 3) := by decide +kernel
theorem dX0_isCritical_9 : decode cX0_isCritical 9 = .ok (.iload_n 1, 1) := by decide +kernel
theorem dX0_isCritical_10 : decode cX0_isCritical 10 = .ok (.dup2, 1) := by decide +kernel
theorem dX0_isCritical_11 : decode cX0_isCritical 11 = .ok (.iaload, 1) := by decide +kernel
theorem dX0_isCritical_12 : decode cX0_isCritical 12 = .ok (.iconst 1, 1) := by decide +kernel
theorem dX0_isCritical_13 : decode cX0_isCritical 13 = .ok (.isub, 1) := by decide +kernel
theorem dX0_isCritical_14 : decode cX0_isCritical 14 = .ok (.iastore, 1) := by decide +kernel
theorem dX0_isCritical_15 : decode cX0_isCritical 15 = .ok (.aload_n 0, 1) := by decide +kernel
theorem dX0_isCritical_16 : decode cX0_isCritical 16 = .ok (.invokevirtual 51, 3) := by decide +kernel
theorem dX0_isCritical_19 : decode cX0_isCritical 19 = .ok (.aload_n 0, 1) := by decide +kernel
theorem dX0_isCritical_20 : decode cX0_isCritical 20 = .ok (.getfield 61, 3) := by decide +kernel
theorem dX0_isCritical_23 : decode cX0_isCritical 23 = .ok (.iload_n 2, 1) := by decide +kernel
theorem dX0_isCritical_24 : decode cX0_isCritical 24 = .ok (.if_icmp .ge 7, 3) := by decide +kernel
theorem dX0_isCritical_27 : decode cX0_isCritical 27 = .ok (.iconst 1, 1) := by decide +kernel
theorem dX0_isCritical_28 : decode cX0_isCritical 28 = .ok (.goto 4, 3) := by decide +kernel
theorem dX0_isCritical_31 : decode cX0_isCritical 31 = .ok (.iconst 0, 1) := by decide +kernel
theorem dX0_isCritical_32 : decode cX0_isCritical 32 = .ok (.istore_n 3, 1) := by decide +kernel
theorem dX0_isCritical_33 : decode cX0_isCritical 33 = .ok (.aload_n 0, 1) := by decide +kernel
theorem dX0_isCritical_34 : decode cX0_isCritical 34 = .ok (.getfield 18, 3) := by decide +kernel
theorem dX0_isCritical_37 : decode cX0_isCritical 37 = .ok (.iload_n 1, 1) := by decide +kernel
theorem dX0_isCritical_38 : decode cX0_isCritical 38 = .ok (.dup2, 1) := by decide +kernel
theorem dX0_isCritical_39 : decode cX0_isCritical 39 = .ok (.iaload, 1) := by decide +kernel
theorem dX0_isCritical_40 : decode cX0_isCritical 40 = .ok (.iconst 1, 1) := by decide +kernel
theorem dX0_isCritical_41 : decode cX0_isCritical 41 = .ok (.iadd, 1) := by decide +kernel
theorem dX0_isCritical_42 : decode cX0_isCritical 42 = .ok (.iastore, 1) := by decide +kernel
theorem dX0_isCritical_43 : decode cX0_isCritical 43 = .ok (.aload_n 0, 1) := by decide +kernel
theorem dX0_isCritical_44 : decode cX0_isCritical 44 = .ok (.invokevirtual 51, 3) := by decide +kernel
theorem dX0_isCritical_47 : decode cX0_isCritical 47 = .ok (.iload_n 3, 1) := by decide +kernel
theorem dX0_isCritical_48 : decode cX0_isCritical 48 = .ok (.ireturn, 1) := by decide +kernel
theorem dX0_criticalOnes_0 : decode cX0_criticalOnes 0 = .ok (.iconst 0, 1) := by decide +kernel
theorem dX0_criticalOnes_1 : decode cX0_criticalOnes 1 = .ok (.istore_n 1, 1) := by decide +kernel
theorem dX0_criticalOnes_2 : decode cX0_criticalOnes 2 = .ok (.iconst 0, 1) := by decide +kernel
theorem dX0_criticalOnes_3 : decode cX0_criticalOnes 3 = .ok (.istore_n 2, 1) := by decide +kernel
theorem dX0_criticalOnes_4 : decode cX0_criticalOnes 4 = .ok (.iload_n 2, 1) := by decide +kernel
theorem dX0_criticalOnes_5 : decode cX0_criticalOnes 5 = .ok (.aload_n 0, 1) := by decide +kernel
theorem dX0_criticalOnes_6 : decode cX0_criticalOnes 6 = .ok (.getfield 41, 3) := by decide +kernel
theorem dX0_criticalOnes_9 : decode cX0_criticalOnes 9 = .ok (.if_icmp .ge 23, 3) := by decide +kernel
theorem dX0_criticalOnes_12 : decode cX0_criticalOnes 12 = .ok (.aload_n 0, 1) := by decide +kernel
theorem dX0_criticalOnes_13 : decode cX0_criticalOnes 13 = .ok (.iload_n 2, 1) := by decide +kernel
theorem dX0_criticalOnes_14 : decode cX0_criticalOnes 14 = .ok (.invokevirtual 109, 3) := by decide +kernel
theorem dX0_criticalOnes_17 : decode cX0_criticalOnes 17 = .ok (.ifCond .eq 9, 3) := by decide +kernel
theorem dX0_criticalOnes_20 : decode cX0_criticalOnes 20 = .ok (.iload_n 1, 1) := by decide +kernel
theorem dX0_criticalOnes_21 : decode cX0_criticalOnes 21 = .ok (.iconst 1, 1) := by decide +kernel
theorem dX0_criticalOnes_22 : decode cX0_criticalOnes 22 = .ok (.iload_n 2, 1) := by decide +kernel
theorem dX0_criticalOnes_23 : decode cX0_criticalOnes 23 = .ok (.ishl, 1) := by decide +kernel
theorem dX0_criticalOnes_24 : decode cX0_criticalOnes 24 = .ok (.ior, 1) := by decide +kernel
theorem dX0_criticalOnes_25 : decode cX0_criticalOnes 25 = .ok (.istore_n 1, 1) := by decide +kernel
theorem dX0_criticalOnes_26 : decode cX0_criticalOnes 26 = .ok (.iinc 2 1, 3) := by decide +kernel
theorem dX0_criticalOnes_29 : decode cX0_criticalOnes 29 = .ok (.goto (-25), 3) := by decide +kernel
theorem dX0_criticalOnes_32 : decode cX0_criticalOnes 32 = .ok (.iload_n 1, 1) := by decide +kernel
theorem dX0_criticalOnes_33 : decode cX0_criticalOnes 33 = .ok (.ireturn, 1) := by decide +kernel
theorem dX0_nextToNarrow_0 : decode cX0_nextToNarrow 0 = .ok (.aload_n 0, 1) := by decide +kernel
theorem dX0_nextToNarrow_1 : decode cX0_nextToNarrow 1 = .ok (.aload_n 0, 1) := by decide +kernel
theorem dX0_nextToNarrow_2 : decode cX0_nextToNarrow 2 = .ok (.invokevirtual 113, 3) := by decide +kernel
theorem dX0_nextToNarrow_5 : decode cX0_nextToNarrow 5 = .ok (.invokevirtual 117, 3) := by decide +kernel
theorem dX0_nextToNarrow_8 : decode cX0_nextToNarrow 8 = .ok (.istore_n 1, 1) := by decide +kernel
theorem dX0_nextToNarrow_9 : decode cX0_nextToNarrow 9 = .ok (.iload_n 1, 1) := by decide +kernel
theorem dX0_nextToNarrow_10 : decode cX0_nextToNarrow 10 = .ok (.iconst (-1), 1) := by decide +kernel
theorem dX0_nextToNarrow_11 : decode cX0_nextToNarrow 11 = .ok (.if_icmp .ne 11, 3) := by decide +kernel
theorem dX0_nextToNarrow_14 : decode cX0_nextToNarrow 14 = .ok (.aload_n 0, 1) := by decide +kernel
theorem dX0_nextToNarrow_15 : decode cX0_nextToNarrow 15 = .ok (.iconst (-1), 1) := by decide +kernel
theorem dX0_nextToNarrow_16 : decode cX0_nextToNarrow 16 = .ok (.invokevirtual 117, 3) := by decide +kernel
theorem dX0_nextToNarrow_19 : decode cX0_nextToNarrow 19 = .ok (.goto 4, 3) := by decide +kernel
theorem dX0_nextToNarrow_22 : decode cX0_nextToNarrow 22 = .ok (.iload_n 1, 1) := by decide +kernel
theorem dX0_nextToNarrow_23 : decode cX0_nextToNarrow 23 = .ok (.ireturn, 1) := by decide +kernel
theorem dX0_widestOf_0 : decode cX0_widestOf 0 = .ok (.iconst (-1), 1) := by decide +kernel
theorem dX0_widestOf_1 : decode cX0_widestOf 1 = .ok (.istore_n 2, 1) := by decide +kernel
theorem dX0_widestOf_2 : decode cX0_widestOf 2 = .ok (.iconst 1, 1) := by decide +kernel
theorem dX0_widestOf_3 : decode cX0_widestOf 3 = .ok (.istore_n 3, 1) := by decide +kernel
theorem dX0_widestOf_4 : decode cX0_widestOf 4 = .ok (.iconst 0, 1) := by decide +kernel
theorem dX0_widestOf_5 : decode cX0_widestOf 5 = .ok (.istore 4, 2) := by decide +kernel
theorem dX0_widestOf_7 : decode cX0_widestOf 7 = .ok (.iload 4, 2) := by decide +kernel
theorem dX0_widestOf_9 : decode cX0_widestOf 9 = .ok (.aload_n 0, 1) := by decide +kernel
theorem dX0_widestOf_10 : decode cX0_widestOf 10 = .ok (.getfield 41, 3) := by decide +kernel
theorem dX0_widestOf_13 : decode cX0_widestOf 13 = .ok (.if_icmp .ge 40, 3) := by decide +kernel
theorem dX0_widestOf_16 : decode cX0_widestOf 16 = .ok (.iload_n 1, 1) := by decide +kernel
theorem dX0_widestOf_17 : decode cX0_widestOf 17 = .ok (.iload 4, 2) := by decide +kernel
theorem dX0_widestOf_19 : decode cX0_widestOf 19 = .ok (.ishr, 1) := by decide +kernel
theorem dX0_widestOf_20 : decode cX0_widestOf 20 = .ok (.iconst 1, 1) := by decide +kernel
theorem dX0_widestOf_21 : decode cX0_widestOf 21 = .ok (.iand, 1) := by decide +kernel
theorem dX0_widestOf_22 : decode cX0_widestOf 22 = .ok (.ifCond .eq 25, 3) := by decide +kernel
theorem dX0_widestOf_25 : decode cX0_widestOf 25 = .ok (.aload_n 0, 1) := by decide +kernel
theorem dX0_widestOf_26 : decode cX0_widestOf 26 = .ok (.getfield 18, 3) := by decide +kernel
theorem dX0_widestOf_29 : decode cX0_widestOf 29 = .ok (.iload 4, 2) := by decide +kernel
theorem dX0_widestOf_31 : decode cX0_widestOf 31 = .ok (.iaload, 1) := by decide +kernel
theorem dX0_widestOf_32 : decode cX0_widestOf 32 = .ok (.iload_n 3, 1) := by decide +kernel
theorem dX0_widestOf_33 : decode cX0_widestOf 33 = .ok (.if_icmp .le 14, 3) := by decide +kernel
theorem dX0_widestOf_36 : decode cX0_widestOf 36 = .ok (.iload 4, 2) := by decide +kernel
theorem dX0_widestOf_38 : decode cX0_widestOf 38 = .ok (.istore_n 2, 1) := by decide +kernel
theorem dX0_widestOf_39 : decode cX0_widestOf 39 = .ok (.aload_n 0, 1) := by decide +kernel
theorem dX0_widestOf_40 : decode cX0_widestOf 40 = .ok (.getfield 18, 3) := by decide +kernel
theorem dX0_widestOf_43 : decode cX0_widestOf 43 = .ok (.iload 4, 2) := by decide +kernel
theorem dX0_widestOf_45 : decode cX0_widestOf 45 = .ok (.iaload, 1) := by decide +kernel
theorem dX0_widestOf_46 : decode cX0_widestOf 46 = .ok (.istore_n 3, 1) := by decide +kernel
theorem dX0_widestOf_47 : decode cX0_widestOf 47 = .ok (.iinc 4 1, 3) := by decide +kernel
theorem dX0_widestOf_50 : decode cX0_widestOf 50 = .ok (.goto (-43), 3) := by decide +kernel
theorem dX0_widestOf_53 : decode cX0_widestOf 53 = .ok (.iload_n 2, 1) := by decide +kernel
theorem dX0_widestOf_54 : decode cX0_widestOf 54 = .ok (.ireturn, 1) := by decide +kernel
theorem dX1_init_0 : decode cX1_init 0 = .ok (.aload_n 0, 1) := by decide +kernel
theorem dX1_init_1 : decode cX1_init 1 = .ok (.invokespecial 3, 3) := by decide +kernel
theorem dX1_init_4 : decode cX1_init 4 = .ok (.aload_n 0, 1) := by decide +kernel
theorem dX1_init_5 : decode cX1_init 5 = .ok (.new 9, 3) := by decide +kernel
theorem dX1_init_8 : decode cX1_init 8 = .ok (.dup, 1) := by decide +kernel
theorem dX1_init_9 : decode cX1_init 9 = .ok (.invokespecial 11, 3) := by decide +kernel
theorem dX1_init_12 : decode cX1_init 12 = .ok (.putfield 12, 3) := by decide +kernel
theorem dX1_init_15 : decode cX1_init 15 = .ok (.aload_n 0, 1) := by decide +kernel
theorem dX1_init_16 : decode cX1_init 16 = .ok (.bipush 60, 2) := by decide +kernel
theorem dX1_init_18 : decode cX1_init 18 = .ok (.newarray .int, 2) := by decide +kernel
theorem dX1_init_20 : decode cX1_init 20 = .ok (.putfield 18, 3) := by decide +kernel
theorem dX1_init_23 : decode cX1_init 23 = .ok (.return_, 1) := by decide +kernel
theorem dX1_takes_0 : decode cX1_takes 0 = .ok (.aload_n 1, 1) := by decide +kernel
theorem dX1_takes_1 : decode cX1_takes 1 = .ok (.iload_n 2, 1) := by decide +kernel
theorem dX1_takes_2 : decode cX1_takes 2 = .ok (.aload_n 0, 1) := by decide +kernel
theorem dX1_takes_3 : decode cX1_takes 3 = .ok (.getfield 18, 3) := by decide +kernel
theorem dX1_takes_6 : decode cX1_takes 6 = .ok (.iconst 0, 1) := by decide +kernel
theorem dX1_takes_7 : decode cX1_takes 7 = .ok (.iload_n 3, 1) := by decide +kernel
theorem dX1_takes_8 : decode cX1_takes 8 = .ok (.invokestatic 22, 3) := by decide +kernel
theorem dX1_takes_11 : decode cX1_takes 11 = .ok (.aload_n 0, 1) := by decide +kernel
theorem dX1_takes_12 : decode cX1_takes 12 = .ok (.iload_n 3, 1) := by decide +kernel
theorem dX1_takes_13 : decode cX1_takes 13 = .ok (.putfield 28, 3) := by decide +kernel
theorem dX1_takes_16 : decode cX1_takes 16 = .ok (.aload_n 0, 1) := by decide +kernel
theorem dX1_takes_17 : decode cX1_takes 17 = .ok (.iconst 0, 1) := by decide +kernel
theorem dX1_takes_18 : decode cX1_takes 18 = .ok (.putfield 32, 3) := by decide +kernel
theorem dX1_takes_21 : decode cX1_takes 21 = .ok (.aload_n 0, 1) := by decide +kernel
theorem dX1_takes_22 : decode cX1_takes 22 = .ok (.getfield 12, 3) := by decide +kernel
theorem dX1_takes_25 : decode cX1_takes 25 = .ok (.iconst 0, 1) := by decide +kernel
theorem dX1_takes_26 : decode cX1_takes 26 = .ok (.putfield 35, 3) := by decide +kernel
theorem dX1_takes_29 : decode cX1_takes 29 = .ok (.aload_n 0, 1) := by decide +kernel
theorem dX1_takes_30 : decode cX1_takes 30 = .ok (.bipush 109, 2) := by decide +kernel
theorem dX1_takes_32 : decode cX1_takes 32 = .ok (.invokevirtual 38, 3) := by decide +kernel
theorem dX1_takes_35 : decode cX1_takes 35 = .ok (.ifCond .eq 41, 3) := by decide +kernel
theorem dX1_takes_38 : decode cX1_takes 38 = .ok (.aload_n 0, 1) := by decide +kernel
theorem dX1_takes_39 : decode cX1_takes 39 = .ok (.invokevirtual 42, 3) := by decide +kernel
theorem dX1_takes_42 : decode cX1_takes 42 = .ok (.ifCond .eq 34, 3) := by decide +kernel
theorem dX1_takes_45 : decode cX1_takes 45 = .ok (.aload_n 0, 1) := by decide +kernel
theorem dX1_takes_46 : decode cX1_takes 46 = .ok (.iconst 0, 1) := by decide +kernel
theorem dX1_takes_47 : decode cX1_takes 47 = .ok (.invokevirtual 46, 3) := by decide +kernel
theorem dX1_takes_50 : decode cX1_takes 50 = .ok (.ifCond .eq 26, 3) := by decide +kernel
theorem dX1_takes_53 : decode cX1_takes 53 = .ok (.aload_n 0, 1) := by decide +kernel
theorem dX1_takes_54 : decode cX1_takes 54 = .ok (.iconst 1, 1) := by decide +kernel
theorem dX1_takes_55 : decode cX1_takes 55 = .ok (.invokevirtual 46, 3) := by decide +kernel
theorem dX1_takes_58 : decode cX1_takes 58 = .ok (.ifCond .eq 18, 3) := by decide +kernel
theorem dX1_takes_61 : decode cX1_takes 61 = .ok (.aload_n 0, 1) := by decide +kernel
theorem dX1_takes_62 : decode cX1_takes 62 = .ok (.getfield 32, 3) := by decide +kernel
theorem dX1_takes_65 : decode cX1_takes 65 = .ok (.aload_n 0, 1) := by decide +kernel
theorem dX1_takes_66 : decode cX1_takes 66 = .ok (.getfield 28, 3) := by decide +kernel
theorem dX1_takes_69 : decode cX1_takes 69 = .ok (.if_icmp .ne 7, 3) := by decide +kernel
theorem dX1_takes_72 : decode cX1_takes 72 = .ok (.iconst 1, 1) := by decide +kernel
theorem dX1_takes_73 : decode cX1_takes 73 = .ok (.goto 4, 3) := by decide +kernel
theorem dX1_takes_76 : decode cX1_takes 76 = .ok (.iconst 0, 1) := by decide +kernel
theorem dX1_takes_77 : decode cX1_takes 77 = .ok (.ireturn, 1) := by decide +kernel
theorem dX1_takesCode_0 : decode cX1_takesCode 0 = .ok (.aload_n 0, 1) := by decide +kernel
theorem dX1_takesCode_1 : decode cX1_takesCode 1 = .ok (.getfield 32, 3) := by decide +kernel
theorem dX1_takesCode_4 : decode cX1_takesCode 4 = .ok (.aload_n 0, 1) := by decide +kernel
theorem dX1_takesCode_5 : decode cX1_takesCode 5 = .ok (.getfield 28, 3) := by decide +kernel
theorem dX1_takesCode_8 : decode cX1_takesCode 8 = .ok (.if_icmp .ge 16, 3) := by decide +kernel
theorem dX1_takesCode_11 : decode cX1_takesCode 11 = .ok (.aload_n 0, 1) := by decide +kernel
theorem dX1_takesCode_12 : decode cX1_takesCode 12 = .ok (.getfield 18, 3) := by decide +kernel
theorem dX1_takesCode_15 : decode cX1_takesCode 15 = .ok (.aload_n 0, 1) := by decide +kernel
theorem dX1_takesCode_16 : decode cX1_takesCode 16 = .ok (.getfield 32, 3) := by decide +kernel
theorem dX1_takesCode_19 : decode cX1_takesCode 19 = .ok (.iaload, 1) := by decide +kernel
theorem dX1_takesCode_20 : decode cX1_takesCode 20 = .ok (.iload_n 1, 1) := by decide +kernel
theorem dX1_takesCode_21 : decode cX1_takesCode 21 = .ok (.if_icmp .eq 5, 3) := by decide +kernel
theorem dX1_takesCode_24 : decode cX1_takesCode 24 = .ok (.iconst 0, 1) := by decide +kernel
theorem dX1_takesCode_25 : decode cX1_takesCode 25 = .ok (.ireturn, 1) := by decide +kernel
theorem dX1_takesCode_26 : decode cX1_takesCode 26 = .ok (.aload_n 0, 1) := by decide +kernel
theorem dX1_takesCode_27 : decode cX1_takesCode 27 = .ok (.dup, 1) := by decide +kernel
theorem dX1_takesCode_28 : decode cX1_takesCode 28 = .ok (.getfield 32, 3) := by decide +kernel
theorem dX1_takesCode_31 : decode cX1_takesCode 31 = .ok (.iconst 1, 1) := by decide +kernel
theorem dX1_takesCode_32 : decode cX1_takesCode 32 = .ok (.iadd, 1) := by decide +kernel
theorem dX1_takesCode_33 : decode cX1_takesCode 33 = .ok (.putfield 32, 3) := by decide +kernel
theorem dX1_takesCode_36 : decode cX1_takesCode 36 = .ok (.iconst 1, 1) := by decide +kernel
theorem dX1_takesCode_37 : decode cX1_takesCode 37 = .ok (.ireturn, 1) := by decide +kernel
theorem dX1_takeDigit_0 : decode cX1_takeDigit 0 = .ok (.aload_n 0, 1) := by decide +kernel
theorem dX1_takeDigit_1 : decode cX1_takeDigit 1 = .ok (.getfield 32, 3) := by decide +kernel
theorem dX1_takeDigit_4 : decode cX1_takeDigit 4 = .ok (.aload_n 0, 1) := by decide +kernel
theorem dX1_takeDigit_5 : decode cX1_takeDigit 5 = .ok (.getfield 28, 3) := by decide +kernel
theorem dX1_takeDigit_8 : decode cX1_takeDigit 8 = .ok (.if_icmp .ge 35, 3) := by decide +kernel
theorem dX1_takeDigit_11 : decode cX1_takeDigit 11 = .ok (.aload_n 0, 1) := by decide +kernel
theorem dX1_takeDigit_12 : decode cX1_takeDigit 12 = .ok (.getfield 18, 3) := by decide +kernel
theorem dX1_takeDigit_15 : decode cX1_takeDigit 15 = .ok (.aload_n 0, 1) := by decide +kernel
theorem dX1_takeDigit_16 : decode cX1_takeDigit 16 = .ok (.getfield 32, 3) := by decide +kernel
theorem dX1_takeDigit_19 : decode cX1_takeDigit 19 = .ok (.iaload, 1) := by decide +kernel
theorem dX1_takeDigit_20 : decode cX1_takeDigit 20 = .ok (.bipush 48, 2) := by decide +kernel
theorem dX1_takeDigit_22 : decode cX1_takeDigit 22 = .ok (.iload_n 1, 1) := by decide +kernel
theorem dX1_takeDigit_23 : decode cX1_takeDigit 23 = .ok (.iadd, 1) := by decide +kernel
theorem dX1_takeDigit_24 : decode cX1_takeDigit 24 = .ok (.if_icmp .lt 19, 3) := by decide +kernel
theorem dX1_takeDigit_27 : decode cX1_takeDigit 27 = .ok (.aload_n 0, 1) := by decide +kernel
theorem dX1_takeDigit_28 : decode cX1_takeDigit 28 = .ok (.getfield 18, 3) := by decide +kernel
theorem dX1_takeDigit_31 : decode cX1_takeDigit 31 = .ok (.aload_n 0, 1) := by decide +kernel
theorem dX1_takeDigit_32 : decode cX1_takeDigit 32 = .ok (.getfield 32, 3) := by decide +kernel
theorem dX1_takeDigit_35 : decode cX1_takeDigit 35 = .ok (.iaload, 1) := by decide +kernel
theorem dX1_takeDigit_36 : decode cX1_takeDigit 36 = .ok (.bipush 48, 2) := by decide +kernel
theorem dX1_takeDigit_38 : decode cX1_takeDigit 38 = .ok (.iload_n 2, 1) := by decide +kernel
theorem dX1_takeDigit_39 : decode cX1_takeDigit 39 = .ok (.iadd, 1) := by decide +kernel
theorem dX1_takeDigit_40 : decode cX1_takeDigit 40 = .ok (.if_icmp .le 5, 3) := by decide +kernel
theorem dX1_takeDigit_43 : decode cX1_takeDigit 43 = .ok (.iconst (-1), 1) := by decide +kernel
theorem dX1_takeDigit_44 : decode cX1_takeDigit 44 = .ok (.ireturn, 1) := by decide +kernel
theorem dX1_takeDigit_45 : decode cX1_takeDigit 45 = .ok (.aload_n 0, 1) := by decide +kernel
theorem dX1_takeDigit_46 : decode cX1_takeDigit 46 = .ok (.dup, 1) := by decide +kernel
theorem dX1_takeDigit_47 : decode cX1_takeDigit 47 = .ok (.getfield 32, 3) := by decide +kernel
theorem dX1_takeDigit_50 : decode cX1_takeDigit 50 = .ok (.iconst 1, 1) := by decide +kernel
theorem dX1_takeDigit_51 : decode cX1_takeDigit 51 = .ok (.iadd, 1) := by decide +kernel
theorem dX1_takeDigit_52 : decode cX1_takeDigit 52 = .ok (.putfield 32, 3) := by decide +kernel
theorem dX1_takeDigit_55 : decode cX1_takeDigit 55 = .ok (.aload_n 0, 1) := by decide +kernel
theorem dX1_takeDigit_56 : decode cX1_takeDigit 56 = .ok (.getfield 18, 3) := by decide +kernel
theorem dX1_takeDigit_59 : decode cX1_takeDigit 59 = .ok (.aload_n 0, 1) := by decide +kernel
theorem dX1_takeDigit_60 : decode cX1_takeDigit 60 = .ok (.getfield 32, 3) := by decide +kernel
theorem dX1_takeDigit_63 : decode cX1_takeDigit 63 = .ok (.iconst 1, 1) := by decide +kernel
theorem dX1_takeDigit_64 : decode cX1_takeDigit 64 = .ok (.isub, 1) := by decide +kernel
theorem dX1_takeDigit_65 : decode cX1_takeDigit 65 = .ok (.iaload, 1) := by decide +kernel
theorem dX1_takeDigit_66 : decode cX1_takeDigit 66 = .ok (.bipush 48, 2) := by decide +kernel
theorem dX1_takeDigit_68 : decode cX1_takeDigit 68 = .ok (.isub, 1) := by decide +kernel
theorem dX1_takeDigit_69 : decode cX1_takeDigit 69 = .ok (.ireturn, 1) := by decide +kernel
theorem dX1_takeKind_0 : decode cX1_takeKind 0 = .ok (.aload_n 0, 1) := by decide +kernel
theorem dX1_takeKind_1 : decode cX1_takeKind 1 = .ok (.bipush 112, 2) := by decide +kernel
theorem dX1_takeKind_3 : decode cX1_takeKind 3 = .ok (.invokevirtual 38, 3) := by decide +kernel
theorem dX1_takeKind_6 : decode cX1_takeKind 6 = .ok (.ifCond .eq 5, 3) := by decide +kernel
theorem dX1_takeKind_9 : decode cX1_takeKind 9 = .ok (.iconst 0, 1) := by decide +kernel
theorem dX1_takeKind_10 : decode cX1_takeKind 10 = .ok (.ireturn, 1) := by decide +kernel
theorem dX1_takeKind_11 : decode cX1_takeKind 11 = .ok (.aload_n 0, 1) := by decide +kernel
theorem dX1_takeKind_12 : decode cX1_takeKind 12 = .ok (.bipush 98, 2) := by decide +kernel
theorem dX1_takeKind_14 : decode cX1_takeKind 14 = .ok (.invokevirtual 38, 3) := by decide +kernel
theorem dX1_takeKind_17 : decode cX1_takeKind 17 = .ok (.ifCond .eq 5, 3) := by decide +kernel
theorem dX1_takeKind_20 : decode cX1_takeKind 20 = .ok (.iconst 1, 1) := by decide +kernel
theorem dX1_takeKind_21 : decode cX1_takeKind 21 = .ok (.ireturn, 1) := by decide +kernel
theorem dX1_takeKind_22 : decode cX1_takeKind 22 = .ok (.aload_n 0, 1) := by decide +kernel
theorem dX1_takeKind_23 : decode cX1_takeKind 23 = .ok (.bipush 100, 2) := by decide +kernel
theorem dX1_takeKind_25 : decode cX1_takeKind 25 = .ok (.invokevirtual 38, 3) := by decide +kernel
theorem dX1_takeKind_28 : decode cX1_takeKind 28 = .ok (.ifCond .eq 7, 3) := by decide +kernel
theorem dX1_takeKind_31 : decode cX1_takeKind 31 = .ok (.iconst 2, 1) := by decide +kernel
theorem dX1_takeKind_32 : decode cX1_takeKind 32 = .ok (.goto 4, 3) := by decide +kernel
theorem dX1_takeKind_35 : decode cX1_takeKind 35 = .ok (.iconst (-1), 1) := by decide +kernel
theorem dX1_takeKind_36 : decode cX1_takeKind 36 = .ok (.ireturn, 1) := by decide +kernel
theorem dX1_takesAreas_0 : decode cX1_takesAreas 0 = .ok (.iconst 0, 1) := by decide +kernel
theorem dX1_takesAreas_1 : decode cX1_takesAreas 1 = .ok (.istore_n 1, 1) := by decide +kernel
theorem dX1_takesAreas_2 : decode cX1_takesAreas 2 = .ok (.iload_n 1, 1) := by decide +kernel
theorem dX1_takesAreas_3 : decode cX1_takesAreas 3 = .ok (.bipush 6, 2) := by decide +kernel
theorem dX1_takesAreas_5 : decode cX1_takesAreas 5 = .ok (.if_icmp .ge 28, 3) := by decide +kernel
theorem dX1_takesAreas_8 : decode cX1_takesAreas 8 = .ok (.aload_n 0, 1) := by decide +kernel
theorem dX1_takesAreas_9 : decode cX1_takesAreas 9 = .ok (.bipush 59, 2) := by decide +kernel
theorem dX1_takesAreas_11 : decode cX1_takesAreas 11 = .ok (.invokevirtual 38, 3) := by decide +kernel
theorem dX1_takesAreas_14 : decode cX1_takesAreas 14 = .ok (.ifCond .eq 19, 3) := by decide +kernel
theorem dX1_takesAreas_17 : decode cX1_takesAreas 17 = .ok (.aload_n 0, 1) := by decide +kernel
theorem dX1_takesAreas_18 : decode cX1_takesAreas 18 = .ok (.iload_n 1, 1) := by decide +kernel
theorem dX1_takesAreas_19 : decode cX1_takesAreas 19 = .ok (.invokevirtual 49, 3) := by decide +kernel
theorem dX1_takesAreas_22 : decode cX1_takesAreas 22 = .ok (.ifCond .ne 5, 3) := by decide +kernel
theorem dX1_takesAreas_25 : decode cX1_takesAreas 25 = .ok (.iconst 0, 1) := by decide +kernel
theorem dX1_takesAreas_26 : decode cX1_takesAreas 26 = .ok (.ireturn, 1) := by decide +kernel
theorem dX1_takesAreas_27 : decode cX1_takesAreas 27 = .ok (.iinc 1 1, 3) := by decide +kernel
theorem dX1_takesAreas_30 : decode cX1_takesAreas 30 = .ok (.goto (-28), 3) := by decide +kernel
theorem dX1_takesAreas_33 : decode cX1_takesAreas 33 = .ok (.aload_n 0, 1) := by decide +kernel
theorem dX1_takesAreas_34 : decode cX1_takesAreas 34 = .ok (.getfield 12, 3) := by decide +kernel
theorem dX1_takesAreas_37 : decode cX1_takesAreas 37 = .ok (.getfield 35, 3) := by decide +kernel
theorem dX1_takesAreas_40 : decode cX1_takesAreas 40 = .ok (.ifCond .le 7, 3) := by decide +kernel
theorem dX1_takesAreas_43 : decode cX1_takesAreas 43 = .ok (.iconst 1, 1) := by decide +kernel
theorem dX1_takesAreas_44 : decode cX1_takesAreas 44 = .ok (.goto 4, 3) := by decide +kernel
theorem dX1_takesAreas_47 : decode cX1_takesAreas 47 = .ok (.iconst 0, 1) := by decide +kernel
theorem dX1_takesAreas_48 : decode cX1_takesAreas 48 = .ok (.ireturn, 1) := by decide +kernel
theorem dX1_takesArea_0 : decode cX1_takesArea 0 = .ok (.aload_n 0, 1) := by decide +kernel
theorem dX1_takesArea_1 : decode cX1_takesArea 1 = .ok (.invokevirtual 52, 3) := by decide +kernel
theorem dX1_takesArea_4 : decode cX1_takesArea 4 = .ok (.istore_n 2, 1) := by decide +kernel
theorem dX1_takesArea_5 : decode cX1_takesArea 5 = .ok (.iload_n 2, 1) := by decide +kernel
theorem dX1_takesArea_6 : decode cX1_takesArea 6 = .ok (.ifCond .ge 5, 3) := by decide +kernel
theorem dX1_takesArea_9 : decode cX1_takesArea 9 = .ok (.iconst 0, 1) := by decide +kernel
theorem dX1_takesArea_10 : decode cX1_takesArea 10 = .ok (.ireturn, 1) := by decide +kernel
theorem dX1_takesArea_11 : decode cX1_takesArea 11 = .ok (.aload_n 0, 1) := by decide +kernel
theorem dX1_takesArea_12 : decode cX1_takesArea 12 = .ok (.iconst 1, 1) := by decide +kernel
theorem dX1_takesArea_13 : decode cX1_takesArea 13 = .ok (.bipush 9, 2) := by decide +kernel
theorem dX1_takesArea_15 : decode cX1_takesArea 15 = .ok (.invokevirtual 56, 3) := by decide +kernel
theorem dX1_takesArea_18 : decode cX1_takesArea 18 = .ok (.istore_n 3, 1) := by decide +kernel
theorem dX1_takesArea_19 : decode cX1_takesArea 19 = .ok (.iload_n 3, 1) := by decide +kernel
theorem dX1_takesArea_20 : decode cX1_takesArea 20 = .ok (.ifCond .ge 5, 3) := by decide +kernel
theorem dX1_takesArea_23 : decode cX1_takesArea 23 = .ok (.iconst 0, 1) := by decide +kernel
theorem dX1_takesArea_24 : decode cX1_takesArea 24 = .ok (.ireturn, 1) := by decide +kernel
theorem dX1_takesArea_25 : decode cX1_takesArea 25 = .ok (.aload_n 0, 1) := by decide +kernel
theorem dX1_takesArea_26 : decode cX1_takesArea 26 = .ok (.iconst 1, 1) := by decide +kernel
theorem dX1_takesArea_27 : decode cX1_takesArea 27 = .ok (.bipush 9, 2) := by decide +kernel
theorem dX1_takesArea_29 : decode cX1_takesArea 29 = .ok (.invokevirtual 56, 3) := by decide +kernel
theorem dX1_takesArea_32 : decode cX1_takesArea 32 = .ok (.istore 4, 2) := by decide +kernel
theorem dX1_takesArea_34 : decode cX1_takesArea 34 = .ok (.iload 4, 2) := by decide +kernel
theorem dX1_takesArea_36 : decode cX1_takesArea 36 = .ok (.ifCond .ge 5, 3) := by decide +kernel
theorem dX1_takesArea_39 : decode cX1_takesArea 39 = .ok (.iconst 0, 1) := by decide +kernel
theorem dX1_takesArea_40 : decode cX1_takesArea 40 = .ok (.ireturn, 1) := by decide +kernel
theorem dX1_takesArea_41 : decode cX1_takesArea 41 = .ok (.aload_n 0, 1) := by decide +kernel
theorem dX1_takesArea_42 : decode cX1_takesArea 42 = .ok (.dup, 1) := by decide +kernel
theorem dX1_takesArea_43 : decode cX1_takesArea 43 = .ok (.getfield 60, 3) := by decide +kernel
theorem dX1_takesArea_46 : decode cX1_takesArea 46 = .ok (.iconst 1, 1) := by decide +kernel
theorem dX1_takesArea_47 : decode cX1_takesArea 47 = .ok (.iadd, 1) := by decide +kernel
theorem dX1_takesArea_48 : decode cX1_takesArea 48 = .ok (.putfield 60, 3) := by decide +kernel
theorem dX1_takesArea_51 : decode cX1_takesArea 51 = .ok (.aload_n 0, 1) := by decide +kernel
theorem dX1_takesArea_52 : decode cX1_takesArea 52 = .ok (.getfield 12, 3) := by decide +kernel
theorem dX1_takesArea_55 : decode cX1_takesArea 55 = .ok (.getfield 63, 3) := by decide +kernel
theorem dX1_takesArea_58 : decode cX1_takesArea 58 = .ok (.iload_n 1, 1) := by decide +kernel
theorem dX1_takesArea_59 : decode cX1_takesArea 59 = .ok (.iload_n 2, 1) := by decide +kernel
theorem dX1_takesArea_60 : decode cX1_takesArea 60 = .ok (.iastore, 1) := by decide +kernel
theorem dX1_takesArea_61 : decode cX1_takesArea 61 = .ok (.aload_n 0, 1) := by decide +kernel
theorem dX1_takesArea_62 : decode cX1_takesArea 62 = .ok (.getfield 12, 3) := by decide +kernel
theorem dX1_takesArea_65 : decode cX1_takesArea 65 = .ok (.getfield 66, 3) := by decide +kernel
theorem dX1_takesArea_68 : decode cX1_takesArea 68 = .ok (.iload_n 1, 1) := by decide +kernel
theorem dX1_takesArea_69 : decode cX1_takesArea 69 = .ok (.iload_n 3, 1) := by decide +kernel
theorem dX1_takesArea_70 : decode cX1_takesArea 70 = .ok (.iastore, 1) := by decide +kernel
theorem dX1_takesArea_71 : decode cX1_takesArea 71 = .ok (.aload_n 0, 1) := by decide +kernel
theorem dX1_takesArea_72 : decode cX1_takesArea 72 = .ok (.getfield 12, 3) := by decide +kernel
theorem dX1_takesArea_75 : decode cX1_takesArea 75 = .ok (.getfield 69, 3) := by decide +kernel
theorem dX1_takesArea_78 : decode cX1_takesArea 78 = .ok (.iload_n 1, 1) := by decide +kernel
theorem dX1_takesArea_79 : decode cX1_takesArea 79 = .ok (.iload 4, 2) := by decide +kernel
theorem dX1_takesArea_81 : decode cX1_takesArea 81 = .ok (.iastore, 1) := by decide +kernel
theorem dX1_takesArea_82 : decode cX1_takesArea 82 = .ok (.aload_n 0, 1) := by decide +kernel
theorem dX1_takesArea_83 : decode cX1_takesArea 83 = .ok (.getfield 12, 3) := by decide +kernel
theorem dX1_takesArea_86 : decode cX1_takesArea 86 = .ok (.getfield 72, 3) := by decide +kernel
theorem dX1_takesArea_89 : decode cX1_takesArea 89 = .ok (.iload_n 1, 1) := by decide +kernel
theorem dX1_takesArea_90 : decode cX1_takesArea 90 = .ok (.aload_n 0, 1) := by decide +kernel
theorem dX1_takesArea_91 : decode cX1_takesArea 91 = .ok (.getfield 60, 3) := by decide +kernel
theorem dX1_takesArea_94 : decode cX1_takesArea 94 = .ok (.iastore, 1) := by decide +kernel
theorem dX1_takesArea_95 : decode cX1_takesArea 95 = .ok (.aload_n 0, 1) := by decide +kernel
theorem dX1_takesArea_96 : decode cX1_takesArea 96 = .ok (.getfield 12, 3) := by decide +kernel
theorem dX1_takesArea_99 : decode cX1_takesArea 99 = .ok (.iload_n 1, 1) := by decide +kernel
theorem dX1_takesArea_100 : decode cX1_takesArea 100 = .ok (.iconst 1, 1) := by decide +kernel
theorem dX1_takesArea_101 : decode cX1_takesArea 101 = .ok (.iadd, 1) := by decide +kernel
theorem dX1_takesArea_102 : decode cX1_takesArea 102 = .ok (.putfield 35, 3) := by decide +kernel
theorem dX1_takesArea_105 : decode cX1_takesArea 105 = .ok (.iconst 1, 1) := by decide +kernel
theorem dX1_takesArea_106 : decode cX1_takesArea 106 = .ok (.ireturn, 1) := by decide +kernel
theorem dX1_takesOrder_0 : decode cX1_takesOrder 0 = .ok (.aload_n 0, 1) := by decide +kernel
theorem dX1_takesOrder_1 : decode cX1_takesOrder 1 = .ok (.bipush 44, 2) := by decide +kernel
theorem dX1_takesOrder_3 : decode cX1_takesOrder 3 = .ok (.invokevirtual 38, 3) := by decide +kernel
theorem dX1_takesOrder_6 : decode cX1_takesOrder 6 = .ok (.ifCond .ne 5, 3) := by decide +kernel
theorem dX1_takesOrder_9 : decode cX1_takesOrder 9 = .ok (.iconst 0, 1) := by decide +kernel
theorem dX1_takesOrder_10 : decode cX1_takesOrder 10 = .ok (.ireturn, 1) := by decide +kernel
theorem dX1_takesOrder_11 : decode cX1_takesOrder 11 = .ok (.iconst 0, 1) := by decide +kernel
theorem dX1_takesOrder_12 : decode cX1_takesOrder 12 = .ok (.istore_n 2, 1) := by decide +kernel
theorem dX1_takesOrder_13 : decode cX1_takesOrder 13 = .ok (.iconst 0, 1) := by decide +kernel
theorem dX1_takesOrder_14 : decode cX1_takesOrder 14 = .ok (.istore_n 3, 1) := by decide +kernel
theorem dX1_takesOrder_15 : decode cX1_takesOrder 15 = .ok (.iload_n 3, 1) := by decide +kernel
theorem dX1_takesOrder_16 : decode cX1_takesOrder 16 = .ok (.aload_n 0, 1) := by decide +kernel
theorem dX1_takesOrder_17 : decode cX1_takesOrder 17 = .ok (.getfield 12, 3) := by decide +kernel
theorem dX1_takesOrder_20 : decode cX1_takesOrder 20 = .ok (.getfield 35, 3) := by decide +kernel
theorem dX1_takesOrder_23 : decode cX1_takesOrder 23 = .ok (.if_icmp .ge 73, 3) := by decide +kernel
theorem dX1_takesOrder_26 : decode cX1_takesOrder 26 = .ok (.aload_n 0, 1) := by decide +kernel
theorem dX1_takesOrder_27 : decode cX1_takesOrder 27 = .ok (.iconst 0, 1) := by decide +kernel
theorem dX1_takesOrder_28 : decode cX1_takesOrder 28 = .ok (.aload_n 0, 1) := by decide +kernel
theorem dX1_takesOrder_29 : decode cX1_takesOrder 29 = .ok (.getfield 12, 3) := by decide +kernel
theorem dX1_takesOrder_32 : decode cX1_takesOrder 32 = .ok (.getfield 35, 3) := by decide +kernel
theorem dX1_takesOrder_35 : decode cX1_takesOrder 35 = .ok (.iconst 1, 1) := by decide +kernel
theorem dX1_takesOrder_36 : decode cX1_takesOrder 36 = .ok (.isub, 1) := by decide +kernel
theorem dX1_takesOrder_37 : decode cX1_takesOrder 37 = .ok (.invokevirtual 56, 3) := by decide +kernel
theorem dX1_takesOrder_40 : decode cX1_takesOrder 40 = .ok (.istore 4, 2) := by decide +kernel
theorem dX1_takesOrder_42 : decode cX1_takesOrder 42 = .ok (.iload 4, 2) := by decide +kernel
theorem dX1_takesOrder_44 : decode cX1_takesOrder 44 = .ok (.ifCond .ge 5, 3) := by decide +kernel
theorem dX1_takesOrder_47 : decode cX1_takesOrder 47 = .ok (.iconst 0, 1) := by decide +kernel
theorem dX1_takesOrder_48 : decode cX1_takesOrder 48 = .ok (.ireturn, 1) := by decide +kernel
theorem dX1_takesOrder_49 : decode cX1_takesOrder 49 = .ok (.iload_n 2, 1) := by decide +kernel
theorem dX1_takesOrder_50 : decode cX1_takesOrder 50 = .ok (.iload 4, 2) := by decide +kernel
theorem dX1_takesOrder_52 : decode cX1_takesOrder 52 = .ok (.ishr, 1) := by decide +kernel
theorem dX1_takesOrder_53 : decode cX1_takesOrder 53 = .ok (.iconst 1, 1) := by decide +kernel
theorem dX1_takesOrder_54 : decode cX1_takesOrder 54 = .ok (.iand, 1) := by decide +kernel
theorem dX1_takesOrder_55 : decode cX1_takesOrder 55 = .ok (.ifCond .eq 15, 3) := by decide +kernel
theorem dX1_takesOrder_58 : decode cX1_takesOrder 58 = .ok (.aload_n 0, 1) := by decide +kernel
theorem dX1_takesOrder_59 : decode cX1_takesOrder 59 = .ok (.dup, 1) := by decide +kernel
theorem dX1_takesOrder_60 : decode cX1_takesOrder 60 = .ok (.getfield 32, 3) := by decide +kernel
theorem dX1_takesOrder_63 : decode cX1_takesOrder 63 = .ok (.iconst 1, 1) := by decide +kernel
theorem dX1_takesOrder_64 : decode cX1_takesOrder 64 = .ok (.isub, 1) := by decide +kernel
theorem dX1_takesOrder_65 : decode cX1_takesOrder 65 = .ok (.putfield 32, 3) := by decide +kernel
theorem dX1_takesOrder_68 : decode cX1_takesOrder 68 = .ok (.iconst 0, 1) := by decide +kernel
theorem dX1_takesOrder_69 : decode cX1_takesOrder 69 = .ok (.ireturn, 1) := by decide +kernel
theorem dX1_takesOrder_70 : decode cX1_takesOrder 70 = .ok (.iload_n 2, 1) := by decide +kernel
theorem dX1_takesOrder_71 : decode cX1_takesOrder 71 = .ok (.iconst 1, 1) := by decide +kernel
theorem dX1_takesOrder_72 : decode cX1_takesOrder 72 = .ok (.iload 4, 2) := by decide +kernel
theorem dX1_takesOrder_74 : decode cX1_takesOrder 74 = .ok (.ishl, 1) := by decide +kernel
theorem dX1_takesOrder_75 : decode cX1_takesOrder 75 = .ok (.ior, 1) := by decide +kernel
theorem dX1_takesOrder_76 : decode cX1_takesOrder 76 = .ok (.istore_n 2, 1) := by decide +kernel
theorem dX1_takesOrder_77 : decode cX1_takesOrder 77 = .ok (.aload_n 0, 1) := by decide +kernel
theorem dX1_takesOrder_78 : decode cX1_takesOrder 78 = .ok (.getfield 12, 3) := by decide +kernel
theorem dX1_takesOrder_81 : decode cX1_takesOrder 81 = .ok (.getfield 75, 3) := by decide +kernel
theorem dX1_takesOrder_84 : decode cX1_takesOrder 84 = .ok (.iload_n 1, 1) := by decide +kernel
theorem dX1_takesOrder_85 : decode cX1_takesOrder 85 = .ok (.aaload, 1) := by decide +kernel
theorem dX1_takesOrder_86 : decode cX1_takesOrder 86 = .ok (.iload_n 3, 1) := by decide +kernel
theorem dX1_takesOrder_87 : decode cX1_takesOrder 87 = .ok (.iload 4, 2) := by decide +kernel
theorem dX1_takesOrder_89 : decode cX1_takesOrder 89 = .ok (.iastore, 1) := by decide +kernel
theorem dX1_takesOrder_90 : decode cX1_takesOrder 90 = .ok (.iinc 3 1, 3) := by decide +kernel
theorem dX1_takesOrder_93 : decode cX1_takesOrder 93 = .ok (.goto (-78), 3) := by decide +kernel
theorem dX1_takesOrder_96 : decode cX1_takesOrder 96 = .ok (.iconst 1, 1) := by decide +kernel
theorem dX1_takesOrder_97 : decode cX1_takesOrder 97 = .ok (.ireturn, 1) := by decide +kernel
theorem dX2_init_0 : decode cX2_init 0 = .ok (.aload_n 0, 1) := by decide +kernel
theorem dX2_init_1 : decode cX2_init 1 = .ok (.invokespecial 3, 3) := by decide +kernel
theorem dX2_init_4 : decode cX2_init 4 = .ok (.aload_n 0, 1) := by decide +kernel
theorem dX2_init_5 : decode cX2_init 5 = .ok (.bipush 60, 2) := by decide +kernel
theorem dX2_init_7 : decode cX2_init 7 = .ok (.newarray .int, 2) := by decide +kernel
theorem dX2_init_9 : decode cX2_init 9 = .ok (.putfield 9, 3) := by decide +kernel
theorem dX2_init_12 : decode cX2_init 12 = .ok (.return_, 1) := by decide +kernel
theorem dX2_renew_0 : decode cX2_renew 0 = .ok (.aload_n 0, 1) := by decide +kernel
theorem dX2_renew_1 : decode cX2_renew 1 = .ok (.iconst 1, 1) := by decide +kernel
theorem dX2_renew_2 : decode cX2_renew 2 = .ok (.putfield 15, 3) := by decide +kernel
theorem dX2_renew_5 : decode cX2_renew 5 = .ok (.aload_n 0, 1) := by decide +kernel
theorem dX2_renew_6 : decode cX2_renew 6 = .ok (.iload_n 1, 1) := by decide +kernel
theorem dX2_renew_7 : decode cX2_renew 7 = .ok (.putfield 19, 3) := by decide +kernel
theorem dX2_renew_10 : decode cX2_renew 10 = .ok (.aload_n 0, 1) := by decide +kernel
theorem dX2_renew_11 : decode cX2_renew 11 = .ok (.iload_n 2, 1) := by decide +kernel
theorem dX2_renew_12 : decode cX2_renew 12 = .ok (.putfield 23, 3) := by decide +kernel
theorem dX2_renew_15 : decode cX2_renew 15 = .ok (.iconst 0, 1) := by decide +kernel
theorem dX2_renew_16 : decode cX2_renew 16 = .ok (.istore_n 3, 1) := by decide +kernel
theorem dX2_renew_17 : decode cX2_renew 17 = .ok (.iload_n 3, 1) := by decide +kernel
theorem dX2_renew_18 : decode cX2_renew 18 = .ok (.bipush 60, 2) := by decide +kernel
theorem dX2_renew_20 : decode cX2_renew 20 = .ok (.if_icmp .ge 16, 3) := by decide +kernel
theorem dX2_renew_23 : decode cX2_renew 23 = .ok (.aload_n 0, 1) := by decide +kernel
theorem dX2_renew_24 : decode cX2_renew 24 = .ok (.getfield 9, 3) := by decide +kernel
theorem dX2_renew_27 : decode cX2_renew 27 = .ok (.iload_n 3, 1) := by decide +kernel
theorem dX2_renew_28 : decode cX2_renew 28 = .ok (.iconst 0, 1) := by decide +kernel
theorem dX2_renew_29 : decode cX2_renew 29 = .ok (.iastore, 1) := by decide +kernel
theorem dX2_renew_30 : decode cX2_renew 30 = .ok (.iinc 3 1, 3) := by decide +kernel
theorem dX2_renew_33 : decode cX2_renew 33 = .ok (.goto (-16), 3) := by decide +kernel
theorem dX2_renew_36 : decode cX2_renew 36 = .ok (.return_, 1) := by decide +kernel
theorem dX2_faultAs_0 : decode cX2_faultAs 0 = .ok (.aload_n 0, 1) := by decide +kernel
theorem dX2_faultAs_1 : decode cX2_faultAs 1 = .ok (.getfield 15, 3) := by decide +kernel
theorem dX2_faultAs_4 : decode cX2_faultAs 4 = .ok (.ifCond .ne 5, 3) := by decide +kernel
theorem dX2_faultAs_7 : decode cX2_faultAs 7 = .ok (.iconst 1, 1) := by decide +kernel
theorem dX2_faultAs_8 : decode cX2_faultAs 8 = .ok (.ireturn, 1) := by decide +kernel
theorem dX2_faultAs_9 : decode cX2_faultAs 9 = .ok (.aload_n 0, 1) := by decide +kernel
theorem dX2_faultAs_10 : decode cX2_faultAs 10 = .ok (.getfield 19, 3) := by decide +kernel
theorem dX2_faultAs_13 : decode cX2_faultAs 13 = .ok (.iload_n 1, 1) := by decide +kernel
theorem dX2_faultAs_14 : decode cX2_faultAs 14 = .ok (.if_icmp .ne 7, 3) := by decide +kernel
theorem dX2_faultAs_17 : decode cX2_faultAs 17 = .ok (.iconst 0, 1) := by decide +kernel
theorem dX2_faultAs_18 : decode cX2_faultAs 18 = .ok (.goto 4, 3) := by decide +kernel
theorem dX2_faultAs_21 : decode cX2_faultAs 21 = .ok (.iconst 2, 1) := by decide +kernel
theorem dX2_faultAs_22 : decode cX2_faultAs 22 = .ok (.ireturn, 1) := by decide +kernel
theorem dX2_hasCell_0 : decode cX2_hasCell 0 = .ok (.iload_n 1, 1) := by decide +kernel
theorem dX2_hasCell_1 : decode cX2_hasCell 1 = .ok (.ifCond .lt 15, 3) := by decide +kernel
theorem dX2_hasCell_4 : decode cX2_hasCell 4 = .ok (.iload_n 1, 1) := by decide +kernel
theorem dX2_hasCell_5 : decode cX2_hasCell 5 = .ok (.aload_n 0, 1) := by decide +kernel
theorem dX2_hasCell_6 : decode cX2_hasCell 6 = .ok (.getfield 23, 3) := by decide +kernel
theorem dX2_hasCell_9 : decode cX2_hasCell 9 = .ok (.if_icmp .ge 7, 3) := by decide +kernel
theorem dX2_hasCell_12 : decode cX2_hasCell 12 = .ok (.iconst 1, 1) := by decide +kernel
theorem dX2_hasCell_13 : decode cX2_hasCell 13 = .ok (.goto 4, 3) := by decide +kernel
theorem dX2_hasCell_16 : decode cX2_hasCell 16 = .ok (.iconst 0, 1) := by decide +kernel
theorem dX2_hasCell_17 : decode cX2_hasCell 17 = .ok (.ireturn, 1) := by decide +kernel
theorem dX2_hasCells_0 : decode cX2_hasCells 0 = .ok (.iload_n 1, 1) := by decide +kernel
theorem dX2_hasCells_1 : decode cX2_hasCells 1 = .ok (.ifCond .lt 29, 3) := by decide +kernel
theorem dX2_hasCells_4 : decode cX2_hasCells 4 = .ok (.iload_n 1, 1) := by decide +kernel
theorem dX2_hasCells_5 : decode cX2_hasCells 5 = .ok (.aload_n 0, 1) := by decide +kernel
theorem dX2_hasCells_6 : decode cX2_hasCells 6 = .ok (.getfield 23, 3) := by decide +kernel
theorem dX2_hasCells_9 : decode cX2_hasCells 9 = .ok (.if_icmp .gt 21, 3) := by decide +kernel
theorem dX2_hasCells_12 : decode cX2_hasCells 12 = .ok (.iload_n 2, 1) := by decide +kernel
theorem dX2_hasCells_13 : decode cX2_hasCells 13 = .ok (.ifCond .lt 17, 3) := by decide +kernel
theorem dX2_hasCells_16 : decode cX2_hasCells 16 = .ok (.iload_n 2, 1) := by decide +kernel
theorem dX2_hasCells_17 : decode cX2_hasCells 17 = .ok (.aload_n 0, 1) := by decide +kernel
theorem dX2_hasCells_18 : decode cX2_hasCells 18 = .ok (.getfield 23, 3) := by decide +kernel
theorem dX2_hasCells_21 : decode cX2_hasCells 21 = .ok (.iload_n 1, 1) := by decide +kernel
theorem dX2_hasCells_22 : decode cX2_hasCells 22 = .ok (.isub, 1) := by decide +kernel
theorem dX2_hasCells_23 : decode cX2_hasCells 23 = .ok (.if_icmp .gt 7, 3) := by decide +kernel
theorem dX2_hasCells_26 : decode cX2_hasCells 26 = .ok (.iconst 1, 1) := by decide +kernel
theorem dX2_hasCells_27 : decode cX2_hasCells 27 = .ok (.goto 4, 3) := by decide +kernel
theorem dX2_hasCells_30 : decode cX2_hasCells 30 = .ok (.iconst 0, 1) := by decide +kernel
theorem dX2_hasCells_31 : decode cX2_hasCells 31 = .ok (.ireturn, 1) := by decide +kernel
theorem dJ6_bitCount_0f7a4_0 : decode cJ6_bitCount_0f7a4 0 = .ok (.iload_n 0, 1) := by decide +kernel
theorem dJ6_bitCount_0f7a4_1 : decode cJ6_bitCount_0f7a4 1 = .ok (.iload_n 0, 1) := by decide +kernel
theorem dJ6_bitCount_0f7a4_2 : decode cJ6_bitCount_0f7a4 2 = .ok (.iconst 1, 1) := by decide +kernel
theorem dJ6_bitCount_0f7a4_3 : decode cJ6_bitCount_0f7a4 3 = .ok (.iushr, 1) := by decide +kernel
theorem dJ6_bitCount_0f7a4_4 : decode cJ6_bitCount_0f7a4 4 = .ok (.ldc_w 265, 3) := by decide +kernel
theorem dJ6_bitCount_0f7a4_7 : decode cJ6_bitCount_0f7a4 7 = .ok (.iand, 1) := by decide +kernel
theorem dJ6_bitCount_0f7a4_8 : decode cJ6_bitCount_0f7a4 8 = .ok (.isub, 1) := by decide +kernel
theorem dJ6_bitCount_0f7a4_9 : decode cJ6_bitCount_0f7a4 9 = .ok (.istore_n 0, 1) := by decide +kernel
theorem dJ6_bitCount_0f7a4_10 : decode cJ6_bitCount_0f7a4 10 = .ok (.iload_n 0, 1) := by decide +kernel
theorem dJ6_bitCount_0f7a4_11 : decode cJ6_bitCount_0f7a4 11 = .ok (.ldc_w 266, 3) := by decide +kernel
theorem dJ6_bitCount_0f7a4_14 : decode cJ6_bitCount_0f7a4 14 = .ok (.iand, 1) := by decide +kernel
theorem dJ6_bitCount_0f7a4_15 : decode cJ6_bitCount_0f7a4 15 = .ok (.iload_n 0, 1) := by decide +kernel
theorem dJ6_bitCount_0f7a4_16 : decode cJ6_bitCount_0f7a4 16 = .ok (.iconst 2, 1) := by decide +kernel
theorem dJ6_bitCount_0f7a4_17 : decode cJ6_bitCount_0f7a4 17 = .ok (.iushr, 1) := by decide +kernel
theorem dJ6_bitCount_0f7a4_18 : decode cJ6_bitCount_0f7a4 18 = .ok (.ldc_w 266, 3) := by decide +kernel
theorem dJ6_bitCount_0f7a4_21 : decode cJ6_bitCount_0f7a4 21 = .ok (.iand, 1) := by decide +kernel
theorem dJ6_bitCount_0f7a4_22 : decode cJ6_bitCount_0f7a4 22 = .ok (.iadd, 1) := by decide +kernel
theorem dJ6_bitCount_0f7a4_23 : decode cJ6_bitCount_0f7a4 23 = .ok (.istore_n 0, 1) := by decide +kernel
theorem dJ6_bitCount_0f7a4_24 : decode cJ6_bitCount_0f7a4 24 = .ok (.iload_n 0, 1) := by decide +kernel
theorem dJ6_bitCount_0f7a4_25 : decode cJ6_bitCount_0f7a4 25 = .ok (.iload_n 0, 1) := by decide +kernel
theorem dJ6_bitCount_0f7a4_26 : decode cJ6_bitCount_0f7a4 26 = .ok (.iconst 4, 1) := by decide +kernel
theorem dJ6_bitCount_0f7a4_27 : decode cJ6_bitCount_0f7a4 27 = .ok (.iushr, 1) := by decide +kernel
theorem dJ6_bitCount_0f7a4_28 : decode cJ6_bitCount_0f7a4 28 = .ok (.iadd, 1) := by decide +kernel
theorem dJ6_bitCount_0f7a4_29 : decode cJ6_bitCount_0f7a4 29 = .ok (.ldc_w 267, 3) := by decide +kernel
theorem dJ6_bitCount_0f7a4_32 : decode cJ6_bitCount_0f7a4 32 = .ok (.iand, 1) := by decide +kernel
theorem dJ6_bitCount_0f7a4_33 : decode cJ6_bitCount_0f7a4 33 = .ok (.istore_n 0, 1) := by decide +kernel
theorem dJ6_bitCount_0f7a4_34 : decode cJ6_bitCount_0f7a4 34 = .ok (.iload_n 0, 1) := by decide +kernel
theorem dJ6_bitCount_0f7a4_35 : decode cJ6_bitCount_0f7a4 35 = .ok (.iload_n 0, 1) := by decide +kernel
theorem dJ6_bitCount_0f7a4_36 : decode cJ6_bitCount_0f7a4 36 = .ok (.bipush 8, 2) := by decide +kernel
theorem dJ6_bitCount_0f7a4_38 : decode cJ6_bitCount_0f7a4 38 = .ok (.iushr, 1) := by decide +kernel
theorem dJ6_bitCount_0f7a4_39 : decode cJ6_bitCount_0f7a4 39 = .ok (.iadd, 1) := by decide +kernel
theorem dJ6_bitCount_0f7a4_40 : decode cJ6_bitCount_0f7a4 40 = .ok (.istore_n 0, 1) := by decide +kernel
theorem dJ6_bitCount_0f7a4_41 : decode cJ6_bitCount_0f7a4 41 = .ok (.iload_n 0, 1) := by decide +kernel
theorem dJ6_bitCount_0f7a4_42 : decode cJ6_bitCount_0f7a4 42 = .ok (.iload_n 0, 1) := by decide +kernel
theorem dJ6_bitCount_0f7a4_43 : decode cJ6_bitCount_0f7a4 43 = .ok (.bipush 16, 2) := by decide +kernel
theorem dJ6_bitCount_0f7a4_45 : decode cJ6_bitCount_0f7a4 45 = .ok (.iushr, 1) := by decide +kernel
theorem dJ6_bitCount_0f7a4_46 : decode cJ6_bitCount_0f7a4 46 = .ok (.iadd, 1) := by decide +kernel
theorem dJ6_bitCount_0f7a4_47 : decode cJ6_bitCount_0f7a4 47 = .ok (.istore_n 0, 1) := by decide +kernel
theorem dJ6_bitCount_0f7a4_48 : decode cJ6_bitCount_0f7a4 48 = .ok (.iload_n 0, 1) := by decide +kernel
theorem dJ6_bitCount_0f7a4_49 : decode cJ6_bitCount_0f7a4 49 = .ok (.bipush 63, 2) := by decide +kernel
theorem dJ6_bitCount_0f7a4_51 : decode cJ6_bitCount_0f7a4 51 = .ok (.iand, 1) := by decide +kernel
theorem dJ6_bitCount_0f7a4_52 : decode cJ6_bitCount_0f7a4 52 = .ok (.ireturn, 1) := by decide +kernel
theorem dJ9_max_7cf53_0 : decode cJ9_max_7cf53 0 = .ok (.iload_n 0, 1) := by decide +kernel
theorem dJ9_max_7cf53_1 : decode cJ9_max_7cf53 1 = .ok (.iload_n 1, 1) := by decide +kernel
theorem dJ9_max_7cf53_2 : decode cJ9_max_7cf53 2 = .ok (.if_icmp .lt 7, 3) := by decide +kernel
theorem dJ9_max_7cf53_5 : decode cJ9_max_7cf53 5 = .ok (.iload_n 0, 1) := by decide +kernel
theorem dJ9_max_7cf53_6 : decode cJ9_max_7cf53 6 = .ok (.goto 4, 3) := by decide +kernel
theorem dJ9_max_7cf53_9 : decode cJ9_max_7cf53 9 = .ok (.iload_n 1, 1) := by decide +kernel
theorem dJ9_max_7cf53_10 : decode cJ9_max_7cf53 10 = .ok (.ireturn, 1) := by decide +kernel
