theorem dX7_readHarbour_52 : decode cX7_readHarbour 52 = .ok (.putfield 54, 3) := by decide +kernel
theorem dX7_readHarbour_55 : decode cX7_readHarbour 55 = .ok (.aload_n 0, 1) := by decide +kernel
theorem dX7_readHarbour_56 : decode cX7_readHarbour 56 = .ok (.invokevirtual 43, 3) := by decide +kernel
theorem dX7_readHarbour_59 : decode cX7_readHarbour 59 = .ok (.iconst 0, 1) := by decide +kernel
theorem dX7_readHarbour_60 : decode cX7_readHarbour 60 = .ok (.istore_n 3, 1) := by decide +kernel
theorem dX7_readHarbour_61 : decode cX7_readHarbour 61 = .ok (.iload_n 3, 1) := by decide +kernel
theorem dX7_readHarbour_62 : decode cX7_readHarbour 62 = .ok (.bipush 100, 2) := by decide +kernel
theorem dX7_readHarbour_64 : decode cX7_readHarbour 64 = .ok (.if_icmp .ge 39, 3) := by decide +kernel
theorem dX7_readHarbour_67 : decode cX7_readHarbour 67 = .ok (.aload_n 0, 1) := by decide +kernel
theorem dX7_readHarbour_68 : decode cX7_readHarbour 68 = .ok (.getfield 32, 3) := by decide +kernel
theorem dX7_readHarbour_71 : decode cX7_readHarbour 71 = .ok (.aload_n 0, 1) := by decide +kernel
theorem dX7_readHarbour_72 : decode cX7_readHarbour 72 = .ok (.getfield 28, 3) := by decide +kernel
theorem dX7_readHarbour_75 : decode cX7_readHarbour 75 = .ok (.getfield 57, 3) := by decide +kernel
theorem dX7_readHarbour_78 : decode cX7_readHarbour 78 = .ok (.if_icmp .ge 25, 3) := by decide +kernel
theorem dX7_readHarbour_81 : decode cX7_readHarbour 81 = .ok (.aload_n 0, 1) := by decide +kernel
theorem dX7_readHarbour_82 : decode cX7_readHarbour 82 = .ok (.invokevirtual 60, 3) := by decide +kernel
theorem dX7_readHarbour_85 : decode cX7_readHarbour 85 = .ok (.ifCond .ne 8, 3) := by decide +kernel
theorem dX7_readHarbour_88 : decode cX7_readHarbour 88 = .ok (.aload_n 0, 1) := by decide +kernel
theorem dX7_readHarbour_89 : decode cX7_readHarbour 89 = .ok (.getfield 32, 3) := by decide +kernel
theorem dX7_readHarbour_92 : decode cX7_readHarbour 92 = .ok (.ireturn, 1) := by decide +kernel
theorem dX7_readHarbour_93 : decode cX7_readHarbour 93 = .ok (.aload_n 0, 1) := by decide +kernel
theorem dX7_readHarbour_94 : decode cX7_readHarbour 94 = .ok (.invokevirtual 43, 3) := by decide +kernel
theorem dX7_readHarbour_97 : decode cX7_readHarbour 97 = .ok (.iinc 3 1, 3) := by decide +kernel
theorem dX7_readHarbour_100 : decode cX7_readHarbour 100 = .ok (.goto (-39), 3) := by decide +kernel
theorem dX7_readHarbour_103 : decode cX7_readHarbour 103 = .ok (.bipush (-9), 2) := by decide +kernel
theorem dX7_readHarbour_105 : decode cX7_readHarbour 105 = .ok (.ireturn, 1) := by decide +kernel
theorem dX7_readSea_0 : decode cX7_readSea 0 = .ok (.aload_n 0, 1) := by decide +kernel
theorem dX7_readSea_1 : decode cX7_readSea 1 = .ok (.aload_n 1, 1) := by decide +kernel
theorem dX7_readSea_2 : decode cX7_readSea 2 = .ok (.invokevirtual 36, 3) := by decide +kernel
theorem dX7_readSea_5 : decode cX7_readSea 5 = .ok (.aload_n 0, 1) := by decide +kernel
theorem dX7_readSea_6 : decode cX7_readSea 6 = .ok (.getfield 21, 3) := by decide +kernel
theorem dX7_readSea_9 : decode cX7_readSea 9 = .ok (.invokevirtual 64, 3) := by decide +kernel
theorem dX7_readSea_12 : decode cX7_readSea 12 = .ok (.aload_n 0, 1) := by decide +kernel
theorem dX7_readSea_13 : decode cX7_readSea 13 = .ok (.invokevirtual 43, 3) := by decide +kernel
theorem dX7_readSea_16 : decode cX7_readSea 16 = .ok (.iconst 0, 1) := by decide +kernel
theorem dX7_readSea_17 : decode cX7_readSea 17 = .ok (.istore_n 2, 1) := by decide +kernel
theorem dX7_readSea_18 : decode cX7_readSea 18 = .ok (.iload_n 2, 1) := by decide +kernel
theorem dX7_readSea_19 : decode cX7_readSea 19 = .ok (.bipush 100, 2) := by decide +kernel
theorem dX7_readSea_21 : decode cX7_readSea 21 = .ok (.if_icmp .ge 39, 3) := by decide +kernel
theorem dX7_readSea_24 : decode cX7_readSea 24 = .ok (.aload_n 0, 1) := by decide +kernel
theorem dX7_readSea_25 : decode cX7_readSea 25 = .ok (.getfield 32, 3) := by decide +kernel
theorem dX7_readSea_28 : decode cX7_readSea 28 = .ok (.aload_n 0, 1) := by decide +kernel
theorem dX7_readSea_29 : decode cX7_readSea 29 = .ok (.getfield 28, 3) := by decide +kernel
theorem dX7_readSea_32 : decode cX7_readSea 32 = .ok (.getfield 57, 3) := by decide +kernel
theorem dX7_readSea_35 : decode cX7_readSea 35 = .ok (.if_icmp .ge 25, 3) := by decide +kernel
theorem dX7_readSea_38 : decode cX7_readSea 38 = .ok (.aload_n 0, 1) := by decide +kernel
theorem dX7_readSea_39 : decode cX7_readSea 39 = .ok (.invokevirtual 65, 3) := by decide +kernel
theorem dX7_readSea_42 : decode cX7_readSea 42 = .ok (.ifCond .ne 8, 3) := by decide +kernel
theorem dX7_readSea_45 : decode cX7_readSea 45 = .ok (.aload_n 0, 1) := by decide +kernel
theorem dX7_readSea_46 : decode cX7_readSea 46 = .ok (.getfield 32, 3) := by decide +kernel
theorem dX7_readSea_49 : decode cX7_readSea 49 = .ok (.ireturn, 1) := by decide +kernel
theorem dX7_readSea_50 : decode cX7_readSea 50 = .ok (.aload_n 0, 1) := by decide +kernel
theorem dX7_readSea_51 : decode cX7_readSea 51 = .ok (.invokevirtual 43, 3) := by decide +kernel
theorem dX7_readSea_54 : decode cX7_readSea 54 = .ok (.iinc 2 1, 3) := by decide +kernel
theorem dX7_readSea_57 : decode cX7_readSea 57 = .ok (.goto (-39), 3) := by decide +kernel
theorem dX7_readSea_60 : decode cX7_readSea 60 = .ok (.bipush (-9), 2) := by decide +kernel
theorem dX7_readSea_62 : decode cX7_readSea 62 = .ok (.ireturn, 1) := by decide +kernel
theorem dX7_harbourItem_0 : decode cX7_harbourItem 0 = .ok (.aload_n 0, 1) := by decide +kernel
theorem dX7_harbourItem_1 : decode cX7_harbourItem 1 = .ok (.bipush 100, 2) := by decide +kernel
theorem dX7_harbourItem_3 : decode cX7_harbourItem 3 = .ok (.invokevirtual 46, 3) := by decide +kernel
theorem dX7_harbourItem_6 : decode cX7_harbourItem 6 = .ok (.ifCond .eq 8, 3) := by decide +kernel
theorem dX7_harbourItem_9 : decode cX7_harbourItem 9 = .ok (.aload_n 0, 1) := by decide +kernel
theorem dX7_harbourItem_10 : decode cX7_harbourItem 10 = .ok (.invokevirtual 68, 3) := by decide +kernel
theorem dX7_harbourItem_13 : decode cX7_harbourItem 13 = .ok (.ireturn, 1) := by decide +kernel
theorem dX7_harbourItem_14 : decode cX7_harbourItem 14 = .ok (.aload_n 0, 1) := by decide +kernel
theorem dX7_harbourItem_15 : decode cX7_harbourItem 15 = .ok (.bipush 119, 2) := by decide +kernel
theorem dX7_harbourItem_17 : decode cX7_harbourItem 17 = .ok (.invokevirtual 46, 3) := by decide +kernel
theorem dX7_harbourItem_20 : decode cX7_harbourItem 20 = .ok (.ifCond .eq 8, 3) := by decide +kernel
theorem dX7_harbourItem_23 : decode cX7_harbourItem 23 = .ok (.aload_n 0, 1) := by decide +kernel
theorem dX7_harbourItem_24 : decode cX7_harbourItem 24 = .ok (.invokevirtual 71, 3) := by decide +kernel
theorem dX7_harbourItem_27 : decode cX7_harbourItem 27 = .ok (.ireturn, 1) := by decide +kernel
theorem dX7_harbourItem_28 : decode cX7_harbourItem 28 = .ok (.aload_n 0, 1) := by decide +kernel
theorem dX7_harbourItem_29 : decode cX7_harbourItem 29 = .ok (.bipush 109, 2) := by decide +kernel
theorem dX7_harbourItem_31 : decode cX7_harbourItem 31 = .ok (.invokevirtual 46, 3) := by decide +kernel
theorem dX7_harbourItem_34 : decode cX7_harbourItem 34 = .ok (.ifCond .eq 8, 3) := by decide +kernel
theorem dX7_harbourItem_37 : decode cX7_harbourItem 37 = .ok (.aload_n 0, 1) := by decide +kernel
theorem dX7_harbourItem_38 : decode cX7_harbourItem 38 = .ok (.invokevirtual 74, 3) := by decide +kernel
theorem dX7_harbourItem_41 : decode cX7_harbourItem 41 = .ok (.ireturn, 1) := by decide +kernel
theorem dX7_harbourItem_42 : decode cX7_harbourItem 42 = .ok (.aload_n 0, 1) := by decide +kernel
theorem dX7_harbourItem_43 : decode cX7_harbourItem 43 = .ok (.bipush 114, 2) := by decide +kernel
theorem dX7_harbourItem_45 : decode cX7_harbourItem 45 = .ok (.invokevirtual 46, 3) := by decide +kernel
theorem dX7_harbourItem_48 : decode cX7_harbourItem 48 = .ok (.ifCond .eq 14, 3) := by decide +kernel
theorem dX7_harbourItem_51 : decode cX7_harbourItem 51 = .ok (.aload_n 0, 1) := by decide +kernel
theorem dX7_harbourItem_52 : decode cX7_harbourItem 52 = .ok (.invokevirtual 77, 3) := by decide +kernel
theorem dX7_harbourItem_55 : decode cX7_harbourItem 55 = .ok (.ifCond .eq 7, 3) := by decide +kernel
theorem dX7_harbourItem_58 : decode cX7_harbourItem 58 = .ok (.iconst 1, 1) := by decide +kernel
theorem dX7_harbourItem_59 : decode cX7_harbourItem 59 = .ok (.goto 4, 3) := by decide +kernel
theorem dX7_harbourItem_62 : decode cX7_harbourItem 62 = .ok (.iconst 0, 1) := by decide +kernel
theorem dX7_harbourItem_63 : decode cX7_harbourItem 63 = .ok (.ireturn, 1) := by decide +kernel
theorem dX7_depthItem_0 : decode cX7_depthItem 0 = .ok (.aload_n 0, 1) := by decide +kernel
theorem dX7_depthItem_1 : decode cX7_depthItem 1 = .ok (.iconst 0, 1) := by decide +kernel
theorem dX7_depthItem_2 : decode cX7_depthItem 2 = .ok (.aload_n 0, 1) := by decide +kernel
theorem dX7_depthItem_3 : decode cX7_depthItem 3 = .ok (.getfield 12, 3) := by decide +kernel
theorem dX7_depthItem_6 : decode cX7_depthItem 6 = .ok (.getfield 54, 3) := by decide +kernel
theorem dX7_depthItem_9 : decode cX7_depthItem 9 = .ok (.iconst 1, 1) := by decide +kernel
theorem dX7_depthItem_10 : decode cX7_depthItem 10 = .ok (.isub, 1) := by decide +kernel
theorem dX7_depthItem_11 : decode cX7_depthItem 11 = .ok (.invokevirtual 50, 3) := by decide +kernel
theorem dX7_depthItem_14 : decode cX7_depthItem 14 = .ok (.istore_n 1, 1) := by decide +kernel
theorem dX7_depthItem_15 : decode cX7_depthItem 15 = .ok (.iload_n 1, 1) := by decide +kernel
theorem dX7_depthItem_16 : decode cX7_depthItem 16 = .ok (.ifCond .lt 12, 3) := by decide +kernel
theorem dX7_depthItem_19 : decode cX7_depthItem 19 = .ok (.aload_n 0, 1) := by decide +kernel
theorem dX7_depthItem_20 : decode cX7_depthItem 20 = .ok (.bipush 58, 2) := by decide +kernel
theorem dX7_depthItem_22 : decode cX7_depthItem 22 = .ok (.invokevirtual 46, 3) := by decide +kernel
theorem dX7_depthItem_25 : decode cX7_depthItem 25 = .ok (.ifCond .ne 5, 3) := by decide +kernel
theorem dX7_depthItem_28 : decode cX7_depthItem 28 = .ok (.iconst 0, 1) := by decide +kernel
theorem dX7_depthItem_29 : decode cX7_depthItem 29 = .ok (.ireturn, 1) := by decide +kernel
theorem dX7_depthItem_30 : decode cX7_depthItem 30 = .ok (.aload_n 0, 1) := by decide +kernel
theorem dX7_depthItem_31 : decode cX7_depthItem 31 = .ok (.iconst 1, 1) := by decide +kernel
theorem dX7_depthItem_32 : decode cX7_depthItem 32 = .ok (.invokevirtual 80, 3) := by decide +kernel
theorem dX7_depthItem_35 : decode cX7_depthItem 35 = .ok (.istore_n 2, 1) := by decide +kernel
theorem dX7_depthItem_36 : decode cX7_depthItem 36 = .ok (.iload_n 2, 1) := by decide +kernel
theorem dX7_depthItem_37 : decode cX7_depthItem 37 = .ok (.ifCond .lt 14, 3) := by decide +kernel
theorem dX7_depthItem_40 : decode cX7_depthItem 40 = .ok (.aload_n 0, 1) := by decide +kernel
theorem dX7_depthItem_41 : decode cX7_depthItem 41 = .ok (.getfield 12, 3) := by decide +kernel
theorem dX7_depthItem_44 : decode cX7_depthItem 44 = .ok (.iload_n 1, 1) := by decide +kernel
theorem dX7_depthItem_45 : decode cX7_depthItem 45 = .ok (.invokevirtual 84, 3) := by decide +kernel
theorem dX7_depthItem_48 : decode cX7_depthItem 48 = .ok (.ifCond .ne 5, 3) := by decide +kernel
theorem dX7_depthItem_51 : decode cX7_depthItem 51 = .ok (.iconst 0, 1) := by decide +kernel
theorem dX7_depthItem_52 : decode cX7_depthItem 52 = .ok (.ireturn, 1) := by decide +kernel
theorem dX7_depthItem_53 : decode cX7_depthItem 53 = .ok (.aload_n 0, 1) := by decide +kernel
theorem dX7_depthItem_54 : decode cX7_depthItem 54 = .ok (.getfield 12, 3) := by decide +kernel
theorem dX7_depthItem_57 : decode cX7_depthItem 57 = .ok (.getfield 88, 3) := by decide +kernel
theorem dX7_depthItem_60 : decode cX7_depthItem 60 = .ok (.iload_n 1, 1) := by decide +kernel
theorem dX7_depthItem_61 : decode cX7_depthItem 61 = .ok (.iload_n 2, 1) := by decide +kernel
theorem dX7_depthItem_62 : decode cX7_depthItem 62 = .ok (.iastore, 1) := by decide +kernel
theorem dX7_depthItem_63 : decode cX7_depthItem 63 = .ok (.iconst 1, 1) := by decide +kernel
theorem dX7_depthItem_64 : decode cX7_depthItem 64 = .ok (.ireturn, 1) := by decide +kernel
theorem dX7_wallItem_0 : decode cX7_wallItem 0 = .ok (.aload_n 0, 1) := by decide +kernel
theorem dX7_wallItem_1 : decode cX7_wallItem 1 = .ok (.iconst 0, 1) := by decide +kernel
theorem dX7_wallItem_2 : decode cX7_wallItem 2 = .ok (.aload_n 0, 1) := by decide +kernel
theorem dX7_wallItem_3 : decode cX7_wallItem 3 = .ok (.getfield 12, 3) := by decide +kernel
theorem dX7_wallItem_6 : decode cX7_wallItem 6 = .ok (.getfield 54, 3) := by decide +kernel
theorem dX7_wallItem_9 : decode cX7_wallItem 9 = .ok (.iconst 2, 1) := by decide +kernel
theorem dX7_wallItem_10 : decode cX7_wallItem 10 = .ok (.isub, 1) := by decide +kernel
theorem dX7_wallItem_11 : decode cX7_wallItem 11 = .ok (.invokevirtual 50, 3) := by decide +kernel
theorem dX7_wallItem_14 : decode cX7_wallItem 14 = .ok (.istore_n 1, 1) := by decide +kernel
theorem dX7_wallItem_15 : decode cX7_wallItem 15 = .ok (.iload_n 1, 1) := by decide +kernel
theorem dX7_wallItem_16 : decode cX7_wallItem 16 = .ok (.ifCond .ge 5, 3) := by decide +kernel
theorem dX7_wallItem_19 : decode cX7_wallItem 19 = .ok (.iconst 0, 1) := by decide +kernel
theorem dX7_wallItem_20 : decode cX7_wallItem 20 = .ok (.ireturn, 1) := by decide +kernel
theorem dX7_wallItem_21 : decode cX7_wallItem 21 = .ok (.aload_n 0, 1) := by decide +kernel
theorem dX7_wallItem_22 : decode cX7_wallItem 22 = .ok (.getfield 12, 3) := by decide +kernel
theorem dX7_wallItem_25 : decode cX7_wallItem 25 = .ok (.iload_n 1, 1) := by decide +kernel
theorem dX7_wallItem_26 : decode cX7_wallItem 26 = .ok (.invokevirtual 92, 3) := by decide +kernel
theorem dX7_wallItem_29 : decode cX7_wallItem 29 = .ok (.iconst 1, 1) := by decide +kernel
theorem dX7_wallItem_30 : decode cX7_wallItem 30 = .ok (.ireturn, 1) := by decide +kernel
theorem dX7_mouthItem_0 : decode cX7_mouthItem 0 = .ok (.aload_n 0, 1) := by decide +kernel
theorem dX7_mouthItem_1 : decode cX7_mouthItem 1 = .ok (.iconst 0, 1) := by decide +kernel
theorem dX7_mouthItem_2 : decode cX7_mouthItem 2 = .ok (.aload_n 0, 1) := by decide +kernel
theorem dX7_mouthItem_3 : decode cX7_mouthItem 3 = .ok (.getfield 12, 3) := by decide +kernel
theorem dX7_mouthItem_6 : decode cX7_mouthItem 6 = .ok (.getfield 54, 3) := by decide +kernel
theorem dX7_mouthItem_9 : decode cX7_mouthItem 9 = .ok (.iconst 1, 1) := by decide +kernel
theorem dX7_mouthItem_10 : decode cX7_mouthItem 10 = .ok (.isub, 1) := by decide +kernel
theorem dX7_mouthItem_11 : decode cX7_mouthItem 11 = .ok (.invokevirtual 50, 3) := by decide +kernel
theorem dX7_mouthItem_14 : decode cX7_mouthItem 14 = .ok (.istore_n 1, 1) := by decide +kernel
theorem dX7_mouthItem_15 : decode cX7_mouthItem 15 = .ok (.iload_n 1, 1) := by decide +kernel
theorem dX7_mouthItem_16 : decode cX7_mouthItem 16 = .ok (.ifCond .lt 12, 3) := by decide +kernel
theorem dX7_mouthItem_19 : decode cX7_mouthItem 19 = .ok (.aload_n 0, 1) := by decide +kernel
theorem dX7_mouthItem_20 : decode cX7_mouthItem 20 = .ok (.bipush 58, 2) := by decide +kernel
theorem dX7_mouthItem_22 : decode cX7_mouthItem 22 = .ok (.invokevirtual 46, 3) := by decide +kernel
theorem dX7_mouthItem_25 : decode cX7_mouthItem 25 = .ok (.ifCond .ne 5, 3) := by decide +kernel
theorem dX7_mouthItem_28 : decode cX7_mouthItem 28 = .ok (.iconst 0, 1) := by decide +kernel
theorem dX7_mouthItem_29 : decode cX7_mouthItem 29 = .ok (.ireturn, 1) := by decide +kernel
theorem dX7_mouthItem_30 : decode cX7_mouthItem 30 = .ok (.aload_n 0, 1) := by decide +kernel
theorem dX7_mouthItem_31 : decode cX7_mouthItem 31 = .ok (.iconst 0, 1) := by decide +kernel
theorem dX7_mouthItem_32 : decode cX7_mouthItem 32 = .ok (.invokevirtual 80, 3) := by decide +kernel
theorem dX7_mouthItem_35 : decode cX7_mouthItem 35 = .ok (.istore_n 2, 1) := by decide +kernel
theorem dX7_mouthItem_36 : decode cX7_mouthItem 36 = .ok (.iload_n 2, 1) := by decide +kernel
theorem dX7_mouthItem_37 : decode cX7_mouthItem 37 = .ok (.ifCond .ge 5, 3) := by decide +kernel
theorem dX7_mouthItem_40 : decode cX7_mouthItem 40 = .ok (.iconst 0, 1) := by decide +kernel
theorem dX7_mouthItem_41 : decode cX7_mouthItem 41 = .ok (.ireturn, 1) := by decide +kernel
theorem dX7_mouthItem_42 : decode cX7_mouthItem 42 = .ok (.aload_n 0, 1) := by decide +kernel
theorem dX7_mouthItem_43 : decode cX7_mouthItem 43 = .ok (.getfield 12, 3) := by decide +kernel
theorem dX7_mouthItem_46 : decode cX7_mouthItem 46 = .ok (.iload_n 1, 1) := by decide +kernel
theorem dX7_mouthItem_47 : decode cX7_mouthItem 47 = .ok (.putfield 96, 3) := by decide +kernel
theorem dX7_mouthItem_50 : decode cX7_mouthItem 50 = .ok (.aload_n 0, 1) := by decide +kernel
theorem dX7_mouthItem_51 : decode cX7_mouthItem 51 = .ok (.getfield 12, 3) := by decide +kernel
theorem dX7_mouthItem_54 : decode cX7_mouthItem 54 = .ok (.iload_n 2, 1) := by decide +kernel
theorem dX7_mouthItem_55 : decode cX7_mouthItem 55 = .ok (.putfield 99, 3) := by decide +kernel
theorem dX7_mouthItem_58 : decode cX7_mouthItem 58 = .ok (.iconst 1, 1) := by decide +kernel
theorem dX7_mouthItem_59 : decode cX7_mouthItem 59 = .ok (.ireturn, 1) := by decide +kernel
theorem dX7_rubItem_0 : decode cX7_rubItem 0 = .ok (.aload_n 0, 1) := by decide +kernel
theorem dX7_rubItem_1 : decode cX7_rubItem 1 = .ok (.iconst 0, 1) := by decide +kernel
theorem dX7_rubItem_2 : decode cX7_rubItem 2 = .ok (.invokevirtual 80, 3) := by decide +kernel
theorem dX7_rubItem_5 : decode cX7_rubItem 5 = .ok (.istore_n 1, 1) := by decide +kernel
theorem dX7_rubItem_6 : decode cX7_rubItem 6 = .ok (.iload_n 1, 1) := by decide +kernel
theorem dX7_rubItem_7 : decode cX7_rubItem 7 = .ok (.ifCond .ge 5, 3) := by decide +kernel
theorem dX7_rubItem_10 : decode cX7_rubItem 10 = .ok (.iconst 0, 1) := by decide +kernel
theorem dX7_rubItem_11 : decode cX7_rubItem 11 = .ok (.ireturn, 1) := by decide +kernel
theorem dX7_rubItem_12 : decode cX7_rubItem 12 = .ok (.aload_n 0, 1) := by decide +kernel
theorem dX7_rubItem_13 : decode cX7_rubItem 13 = .ok (.getfield 12, 3) := by decide +kernel
theorem dX7_rubItem_16 : decode cX7_rubItem 16 = .ok (.iload_n 1, 1) := by decide +kernel
theorem dX7_rubItem_17 : decode cX7_rubItem 17 = .ok (.putfield 102, 3) := by decide +kernel
theorem dX7_rubItem_20 : decode cX7_rubItem 20 = .ok (.iconst 1, 1) := by decide +kernel
theorem dX7_rubItem_21 : decode cX7_rubItem 21 = .ok (.ireturn, 1) := by decide +kernel
theorem dX7_seaItem_0 : decode cX7_seaItem 0 = .ok (.aload_n 0, 1) := by decide +kernel
theorem dX7_seaItem_1 : decode cX7_seaItem 1 = .ok (.getfield 21, 3) := by decide +kernel
theorem dX7_seaItem_4 : decode cX7_seaItem 4 = .ok (.getfield 105, 3) := by decide +kernel
theorem dX7_seaItem_7 : decode cX7_seaItem 7 = .ok (.iconst 4, 1) := by decide +kernel
theorem dX7_seaItem_8 : decode cX7_seaItem 8 = .ok (.if_icmp .ge 12, 3) := by decide +kernel
theorem dX7_seaItem_11 : decode cX7_seaItem 11 = .ok (.aload_n 0, 1) := by decide +kernel
theorem dX7_seaItem_12 : decode cX7_seaItem 12 = .ok (.bipush 112, 2) := by decide +kernel
theorem dX7_seaItem_14 : decode cX7_seaItem 14 = .ok (.invokevirtual 46, 3) := by decide +kernel
theorem dX7_seaItem_17 : decode cX7_seaItem 17 = .ok (.ifCond .ne 5, 3) := by decide +kernel
theorem dX7_seaItem_20 : decode cX7_seaItem 20 = .ok (.iconst 0, 1) := by decide +kernel
theorem dX7_seaItem_21 : decode cX7_seaItem 21 = .ok (.ireturn, 1) := by decide +kernel
theorem dX7_seaItem_22 : decode cX7_seaItem 22 = .ok (.aload_n 0, 1) := by decide +kernel
theorem dX7_seaItem_23 : decode cX7_seaItem 23 = .ok (.iconst 2, 1) := by decide +kernel
theorem dX7_seaItem_24 : decode cX7_seaItem 24 = .ok (.bipush 60, 2) := by decide +kernel
theorem dX7_seaItem_26 : decode cX7_seaItem 26 = .ok (.invokevirtual 50, 3) := by decide +kernel
theorem dX7_seaItem_29 : decode cX7_seaItem 29 = .ok (.istore_n 1, 1) := by decide +kernel
theorem dX7_seaItem_30 : decode cX7_seaItem 30 = .ok (.iload_n 1, 1) := by decide +kernel
theorem dX7_seaItem_31 : decode cX7_seaItem 31 = .ok (.ifCond .lt 12, 3) := by decide +kernel
theorem dX7_seaItem_34 : decode cX7_seaItem 34 = .ok (.aload_n 0, 1) := by decide +kernel
theorem dX7_seaItem_35 : decode cX7_seaItem 35 = .ok (.bipush 58, 2) := by decide +kernel
theorem dX7_seaItem_37 : decode cX7_seaItem 37 = .ok (.invokevirtual 46, 3) := by decide +kernel
theorem dX7_seaItem_40 : decode cX7_seaItem 40 = .ok (.ifCond .ne 5, 3) := by decide +kernel
theorem dX7_seaItem_43 : decode cX7_seaItem 43 = .ok (.iconst 0, 1) := by decide +kernel
theorem dX7_seaItem_44 : decode cX7_seaItem 44 = .ok (.ireturn, 1) := by decide +kernel
theorem dX7_seaItem_45 : decode cX7_seaItem 45 = .ok (.aload_n 0, 1) := by decide +kernel
theorem dX7_seaItem_46 : decode cX7_seaItem 46 = .ok (.iconst 0, 1) := by decide +kernel
theorem dX7_seaItem_47 : decode cX7_seaItem 47 = .ok (.bipush 99, 2) := by decide +kernel
theorem dX7_seaItem_49 : decode cX7_seaItem 49 = .ok (.invokevirtual 50, 3) := by decide +kernel
theorem dX7_seaItem_52 : decode cX7_seaItem 52 = .ok (.istore_n 2, 1) := by decide +kernel
theorem dX7_seaItem_53 : decode cX7_seaItem 53 = .ok (.iload_n 2, 1) := by decide +kernel
theorem dX7_seaItem_54 : decode cX7_seaItem 54 = .ok (.ifCond .ge 5, 3) := by decide +kernel
theorem dX7_seaItem_57 : decode cX7_seaItem 57 = .ok (.iconst 0, 1) := by decide +kernel
theorem dX7_seaItem_58 : decode cX7_seaItem 58 = .ok (.ireturn, 1) := by decide +kernel
theorem dX7_seaItem_59 : decode cX7_seaItem 59 = .ok (.aload_n 0, 1) := by decide +kernel
theorem dX7_seaItem_60 : decode cX7_seaItem 60 = .ok (.getfield 21, 3) := by decide +kernel
theorem dX7_seaItem_63 : decode cX7_seaItem 63 = .ok (.iload_n 1, 1) := by decide +kernel
theorem dX7_seaItem_64 : decode cX7_seaItem 64 = .ok (.iload_n 2, 1) := by decide +kernel
theorem dX7_seaItem_65 : decode cX7_seaItem 65 = .ok (.invokevirtual 108, 3) := by decide +kernel
theorem dX7_seaItem_68 : decode cX7_seaItem 68 = .ok (.iconst 1, 1) := by decide +kernel
theorem dX7_seaItem_69 : decode cX7_seaItem 69 = .ok (.ireturn, 1) := by decide +kernel
theorem dX7_open_0 : decode cX7_open 0 = .ok (.aload_n 0, 1) := by decide +kernel
theorem dX7_open_1 : decode cX7_open 1 = .ok (.aload_n 1, 1) := by decide +kernel
theorem dX7_open_2 : decode cX7_open 2 = .ok (.putfield 28, 3) := by decide +kernel
theorem dX7_open_5 : decode cX7_open 5 = .ok (.aload_n 0, 1) := by decide +kernel
theorem dX7_open_6 : decode cX7_open 6 = .ok (.iconst 0, 1) := by decide +kernel
theorem dX7_open_7 : decode cX7_open 7 = .ok (.putfield 32, 3) := by decide +kernel
theorem dX7_open_10 : decode cX7_open 10 = .ok (.return_, 1) := by decide +kernel
theorem dX7_sign_0 : decode cX7_sign 0 = .ok (.aload_n 0, 1) := by decide +kernel
theorem dX7_sign_1 : decode cX7_sign 1 = .ok (.getfield 28, 3) := by decide +kernel
theorem dX7_sign_4 : decode cX7_sign 4 = .ok (.aload_n 0, 1) := by decide +kernel
theorem dX7_sign_5 : decode cX7_sign 5 = .ok (.getfield 32, 3) := by decide +kernel
theorem dX7_sign_8 : decode cX7_sign 8 = .ok (.invokevirtual 112, 3) := by decide +kernel
theorem dX7_sign_11 : decode cX7_sign 11 = .ok (.ifCond .eq 18, 3) := by decide +kernel
theorem dX7_sign_14 : decode cX7_sign 14 = .ok (.aload_n 0, 1) := by decide +kernel
theorem dX7_sign_15 : decode cX7_sign 15 = .ok (.getfield 28, 3) := by decide +kernel
theorem dX7_sign_18 : decode cX7_sign 18 = .ok (.getfield 115, 3) := by decide +kernel
theorem dX7_sign_21 : decode cX7_sign 21 = .ok (.aload_n 0, 1) := by decide +kernel
theorem dX7_sign_22 : decode cX7_sign 22 = .ok (.getfield 32, 3) := by decide +kernel
theorem dX7_sign_25 : decode cX7_sign 25 = .ok (.baload, 1) := by decide +kernel
theorem dX7_sign_26 : decode cX7_sign 26 = .ok (.goto 6, 3) := by decide +kernel
theorem dX7_sign_29 : decode cX7_sign 29 = .ok (.sipush 1000, 3) := by decide +kernel
theorem dX7_sign_32 : decode cX7_sign 32 = .ok (.ireturn, 1) := by decide +kernel
theorem dX7_take_0 : decode cX7_take 0 = .ok (.aload_n 0, 1) := by decide +kernel
theorem dX7_take_1 : decode cX7_take 1 = .ok (.invokevirtual 119, 3) := by decide +kernel
theorem dX7_take_4 : decode cX7_take 4 = .ok (.iload_n 1, 1) := by decide +kernel
theorem dX7_take_5 : decode cX7_take 5 = .ok (.if_icmp .eq 5, 3) := by decide +kernel
theorem dX7_take_8 : decode cX7_take 8 = .ok (.iconst 0, 1) := by decide +kernel
theorem dX7_take_9 : decode cX7_take 9 = .ok (.ireturn, 1) := by decide +kernel
theorem dX7_take_10 : decode cX7_take 10 = .ok (.aload_n 0, 1) := by decide +kernel
theorem dX7_take_11 : decode cX7_take 11 = .ok (.dup, 1) := by decide +kernel
theorem dX7_take_12 : decode cX7_take 12 = .ok (.getfield 32, 3) := by decide +kernel
theorem dX7_take_15 : decode cX7_take 15 = .ok (.iconst 1, 1) := by decide +kernel
theorem dX7_take_16 : decode cX7_take 16 = .ok (.iadd, 1) := by decide +kernel
theorem dX7_take_17 : decode cX7_take 17 = .ok (.putfield 32, 3) := by decide +kernel
theorem dX7_take_20 : decode cX7_take 20 = .ok (.iconst 1, 1) := by decide +kernel
theorem dX7_take_21 : decode cX7_take 21 = .ok (.ireturn, 1) := by decide +kernel
theorem dX7_skipBlanks_0 : decode cX7_skipBlanks 0 = .ok (.iconst 0, 1) := by decide +kernel
theorem dX7_skipBlanks_1 : decode cX7_skipBlanks 1 = .ok (.istore_n 1, 1) := by decide +kernel
theorem dX7_skipBlanks_2 : decode cX7_skipBlanks 2 = .ok (.iload_n 1, 1) := by decide +kernel
theorem dX7_skipBlanks_3 : decode cX7_skipBlanks 3 = .ok (.bipush 100, 2) := by decide +kernel
theorem dX7_skipBlanks_5 : decode cX7_skipBlanks 5 = .ok (.if_icmp .ge 28, 3) := by decide +kernel
theorem dX7_skipBlanks_8 : decode cX7_skipBlanks 8 = .ok (.aload_n 0, 1) := by decide +kernel
theorem dX7_skipBlanks_9 : decode cX7_skipBlanks 9 = .ok (.invokevirtual 119, 3) := by decide +kernel
theorem dX7_skipBlanks_12 : decode cX7_skipBlanks 12 = .ok (.bipush 32, 2) := by decide +kernel
theorem dX7_skipBlanks_14 : decode cX7_skipBlanks 14 = .ok (.if_icmp .ne 19, 3) := by decide +kernel
theorem dX7_skipBlanks_17 : decode cX7_skipBlanks 17 = .ok (.aload_n 0, 1) := by decide +kernel
theorem dX7_skipBlanks_18 : decode cX7_skipBlanks 18 = .ok (.dup, 1) := by decide +kernel
theorem dX7_skipBlanks_19 : decode cX7_skipBlanks 19 = .ok (.getfield 32, 3) := by decide +kernel
theorem dX7_skipBlanks_22 : decode cX7_skipBlanks 22 = .ok (.iconst 1, 1) := by decide +kernel
theorem dX7_skipBlanks_23 : decode cX7_skipBlanks 23 = .ok (.iadd, 1) := by decide +kernel
theorem dX7_skipBlanks_24 : decode cX7_skipBlanks 24 = .ok (.putfield 32, 3) := by decide +kernel
theorem dX7_skipBlanks_27 : decode cX7_skipBlanks 27 = .ok (.iinc 1 1, 3) := by decide +kernel
theorem dX7_skipBlanks_30 : decode cX7_skipBlanks 30 = .ok (.goto (-28), 3) := by decide +kernel
theorem dX7_skipBlanks_33 : decode cX7_skipBlanks 33 = .ok (.return_, 1) := by decide +kernel
theorem dX7_figure_0 : decode cX7_figure 0 = .ok (.aload_n 0, 1) := by decide +kernel
theorem dX7_figure_1 : decode cX7_figure 1 = .ok (.invokevirtual 119, 3) := by decide +kernel
theorem dX7_figure_4 : decode cX7_figure 4 = .ok (.bipush 48, 2) := by decide +kernel
theorem dX7_figure_6 : decode cX7_figure 6 = .ok (.isub, 1) := by decide +kernel
theorem dX7_figure_7 : decode cX7_figure 7 = .ok (.istore_n 2, 1) := by decide +kernel
theorem dX7_figure_8 : decode cX7_figure 8 = .ok (.iload_n 2, 1) := by decide +kernel
theorem dX7_figure_9 : decode cX7_figure 9 = .ok (.iload_n 1, 1) := by decide +kernel
theorem dX7_figure_10 : decode cX7_figure 10 = .ok (.bipush 9, 2) := by decide +kernel
theorem dX7_figure_12 : decode cX7_figure 12 = .ok (.invokestatic 123, 3) := by decide +kernel
theorem dX7_figure_15 : decode cX7_figure 15 = .ok (.ifCond .ne 5, 3) := by decide +kernel
theorem dX7_figure_18 : decode cX7_figure 18 = .ok (.iconst (-1), 1) := by decide +kernel
theorem dX7_figure_19 : decode cX7_figure 19 = .ok (.ireturn, 1) := by decide +kernel
theorem dX7_figure_20 : decode cX7_figure 20 = .ok (.aload_n 0, 1) := by decide +kernel
theorem dX7_figure_21 : decode cX7_figure 21 = .ok (.dup, 1) := by decide +kernel
theorem dX7_figure_22 : decode cX7_figure 22 = .ok (.getfield 32, 3) := by decide +kernel
theorem dX7_figure_25 : decode cX7_figure 25 = .ok (.iconst 1, 1) := by decide +kernel
theorem dX7_figure_26 : decode cX7_figure 26 = .ok (.iadd, 1) := by decide +kernel
theorem dX7_figure_27 : decode cX7_figure 27 = .ok (.putfield 32, 3) := by decide +kernel
theorem dX7_figure_30 : decode cX7_figure 30 = .ok (.iload_n 2, 1) := by decide +kernel
theorem dX7_figure_31 : decode cX7_figure 31 = .ok (.ireturn, 1) := by decide +kernel
theorem dX7_number_0 : decode cX7_number 0 = .ok (.aload_n 0, 1) := by decide +kernel
theorem dX7_number_1 : decode cX7_number 1 = .ok (.iconst 0, 1) := by decide +kernel
theorem dX7_number_2 : decode cX7_number 2 = .ok (.invokevirtual 80, 3) := by decide +kernel
theorem dX7_number_5 : decode cX7_number 5 = .ok (.istore_n 3, 1) := by decide +kernel
theorem dX7_number_6 : decode cX7_number 6 = .ok (.iload_n 3, 1) := by decide +kernel
theorem dX7_number_7 : decode cX7_number 7 = .ok (.ifCond .ge 5, 3) := by decide +kernel
theorem dX7_number_10 : decode cX7_number 10 = .ok (.iconst (-1), 1) := by decide +kernel
theorem dX7_number_11 : decode cX7_number 11 = .ok (.ireturn, 1) := by decide +kernel
theorem dX7_number_12 : decode cX7_number 12 = .ok (.aload_n 0, 1) := by decide +kernel
theorem dX7_number_13 : decode cX7_number 13 = .ok (.iconst 0, 1) := by decide +kernel
theorem dX7_number_14 : decode cX7_number 14 = .ok (.invokevirtual 80, 3) := by decide +kernel
theorem dX7_number_17 : decode cX7_number 17 = .ok (.istore 4, 2) := by decide +kernel
theorem dX7_number_19 : decode cX7_number 19 = .ok (.iload 4, 2) := by decide +kernel
theorem dX7_number_21 : decode cX7_number 21 = .ok (.ifCond .lt 11, 3) := by decide +kernel
theorem dX7_number_24 : decode cX7_number 24 = .ok (.bipush 10, 2) := by decide +kernel
theorem dX7_number_26 : decode cX7_number 26 = .ok (.iload_n 3, 1) := by decide +kernel
theorem dX7_number_27 : decode cX7_number 27 = .ok (.imul, 1) := by decide +kernel
theorem dX7_number_28 : decode cX7_number 28 = .ok (.iload 4, 2) := by decide +kernel
theorem dX7_number_30 : decode cX7_number 30 = .ok (.iadd, 1) := by decide +kernel
theorem dX7_number_31 : decode cX7_number 31 = .ok (.istore_n 3, 1) := by decide +kernel
theorem dX7_number_32 : decode cX7_number 32 = .ok (.iload_n 3, 1) := by decide +kernel
theorem dX7_number_33 : decode cX7_number 33 = .ok (.iload_n 1, 1) := by decide +kernel
theorem dX7_number_34 : decode cX7_number 34 = .ok (.iload_n 2, 1) := by decide +kernel
theorem dX7_number_35 : decode cX7_number 35 = .ok (.invokestatic 123, 3) := by decide +kernel
theorem dX7_number_38 : decode cX7_number 38 = .ok (.ifCond .eq 7, 3) := by decide +kernel
theorem dX7_number_41 : decode cX7_number 41 = .ok (.iload_n 3, 1) := by decide +kernel
theorem dX7_number_42 : decode cX7_number 42 = .ok (.goto 4, 3) := by decide +kernel
theorem dX7_number_45 : decode cX7_number 45 = .ok (.iconst (-1), 1) := by decide +kernel
theorem dX7_number_46 : decode cX7_number 46 = .ok (.ireturn, 1) := by decide +kernel
theorem dX8_init_0 : decode cX8_init 0 = .ok (.aload_n 0, 1) := by decide +kernel
theorem dX8_init_1 : decode cX8_init 1 = .ok (.invokespecial 3, 3) := by decide +kernel
theorem dX8_init_4 : decode cX8_init 4 = .ok (.aload_n 0, 1) := by decide +kernel
theorem dX8_init_5 : decode cX8_init 5 = .ok (.iconst 4, 1) := by decide +kernel
theorem dX8_init_6 : decode cX8_init 6 = .ok (.newarray .int, 2) := by decide +kernel
theorem dX8_init_8 : decode cX8_init 8 = .ok (.putfield 9, 3) := by decide +kernel
theorem dX8_init_11 : decode cX8_init 11 = .ok (.aload_n 0, 1) := by decide +kernel
theorem dX8_init_12 : decode cX8_init 12 = .ok (.iconst 4, 1) := by decide +kernel
theorem dX8_init_13 : decode cX8_init 13 = .ok (.newarray .int, 2) := by decide +kernel
theorem dX8_init_15 : decode cX8_init 15 = .ok (.putfield 15, 3) := by decide +kernel
theorem dX8_init_18 : decode cX8_init 18 = .ok (.aload_n 0, 1) := by decide +kernel
theorem dX8_init_19 : decode cX8_init 19 = .ok (.iconst 0, 1) := by decide +kernel
theorem dX8_init_20 : decode cX8_init 20 = .ok (.putfield 18, 3) := by decide +kernel
theorem dX8_init_23 : decode cX8_init 23 = .ok (.aload_n 0, 1) := by decide +kernel
theorem dX8_init_24 : decode cX8_init 24 = .ok (.iconst 0, 1) := by decide +kernel
theorem dX8_init_25 : decode cX8_init 25 = .ok (.putfield 22, 3) := by decide +kernel
theorem dX8_init_28 : decode cX8_init 28 = .ok (.return_, 1) := by decide +kernel
theorem dX8_renew_0 : decode cX8_renew 0 = .ok (.aload_n 0, 1) := by decide +kernel
theorem dX8_renew_1 : decode cX8_renew 1 = .ok (.iconst 1, 1) := by decide +kernel
theorem dX8_renew_2 : decode cX8_renew 2 = .ok (.putfield 18, 3) := by decide +kernel
theorem dX8_renew_5 : decode cX8_renew 5 = .ok (.aload_n 0, 1) := by decide +kernel
theorem dX8_renew_6 : decode cX8_renew 6 = .ok (.iconst 0, 1) := by decide +kernel
theorem dX8_renew_7 : decode cX8_renew 7 = .ok (.putfield 22, 3) := by decide +kernel
theorem dX8_renew_10 : decode cX8_renew 10 = .ok (.return_, 1) := by decide +kernel
theorem dX8_take_0 : decode cX8_take 0 = .ok (.aload_n 0, 1) := by decide +kernel
theorem dX8_take_1 : decode cX8_take 1 = .ok (.aload_n 1, 1) := by decide +kernel
theorem dX8_take_2 : decode cX8_take 2 = .ok (.getfield 18, 3) := by decide +kernel
theorem dX8_take_5 : decode cX8_take 5 = .ok (.putfield 18, 3) := by decide +kernel
theorem dX8_take_8 : decode cX8_take 8 = .ok (.aload_n 0, 1) := by decide +kernel
theorem dX8_take_9 : decode cX8_take 9 = .ok (.aload_n 1, 1) := by decide +kernel
theorem dX8_take_10 : decode cX8_take 10 = .ok (.getfield 22, 3) := by decide +kernel
theorem dX8_take_13 : decode cX8_take 13 = .ok (.putfield 22, 3) := by decide +kernel
theorem dX8_take_16 : decode cX8_take 16 = .ok (.aload_n 1, 1) := by decide +kernel
theorem dX8_take_17 : decode cX8_take 17 = .ok (.getfield 9, 3) := by decide +kernel
theorem dX8_take_20 : decode cX8_take 20 = .ok (.iconst 0, 1) := by decide +kernel
theorem dX8_take_21 : decode cX8_take 21 = .ok (.aload_n 0, 1) := by decide +kernel
theorem dX8_take_22 : decode cX8_take 22 = .ok (.getfield 9, 3) := by decide +kernel
theorem dX8_take_25 : decode cX8_take 25 = .ok (.iconst 0, 1) := by decide +kernel
theorem dX8_take_26 : decode cX8_take 26 = .ok (.iconst 4, 1) := by decide +kernel
theorem dX8_take_27 : decode cX8_take 27 = .ok (.invokestatic 26, 3) := by decide +kernel
theorem dX8_take_30 : decode cX8_take 30 = .ok (.aload_n 1, 1) := by decide +kernel
theorem dX8_take_31 : decode cX8_take 31 = .ok (.getfield 15, 3) := by decide +kernel
theorem dX8_take_34 : decode cX8_take 34 = .ok (.iconst 0, 1) := by decide +kernel
theorem dX8_take_35 : decode cX8_take 35 = .ok (.aload_n 0, 1) := by decide +kernel
theorem dX8_take_36 : decode cX8_take 36 = .ok (.getfield 15, 3) := by decide +kernel
theorem dX8_take_39 : decode cX8_take 39 = .ok (.iconst 0, 1) := by decide +kernel
theorem dX8_take_40 : decode cX8_take 40 = .ok (.iconst 4, 1) := by decide +kernel
theorem dX8_take_41 : decode cX8_take 41 = .ok (.invokestatic 26, 3) := by decide +kernel
theorem dX8_take_44 : decode cX8_take 44 = .ok (.return_, 1) := by decide +kernel
theorem dX8_hasSet_0 : decode cX8_hasSet 0 = .ok (.iload_n 1, 1) := by decide +kernel
theorem dX8_hasSet_1 : decode cX8_hasSet 1 = .ok (.ifCond .lt 20, 3) := by decide +kernel
theorem dX8_hasSet_4 : decode cX8_hasSet 4 = .ok (.iload_n 1, 1) := by decide +kernel
theorem dX8_hasSet_5 : decode cX8_hasSet 5 = .ok (.aload_n 0, 1) := by decide +kernel
theorem dX8_hasSet_6 : decode cX8_hasSet 6 = .ok (.getfield 22, 3) := by decide +kernel
theorem dX8_hasSet_9 : decode cX8_hasSet 9 = .ok (.if_icmp .ge 12, 3) := by decide +kernel
theorem dX8_hasSet_12 : decode cX8_hasSet 12 = .ok (.iload_n 1, 1) := by decide +kernel
theorem dX8_hasSet_13 : decode cX8_hasSet 13 = .ok (.iconst 4, 1) := by decide +kernel
theorem dX8_hasSet_14 : decode cX8_hasSet 14 = .ok (.if_icmp .ge 7, 3) := by decide +kernel
theorem dX8_hasSet_17 : decode cX8_hasSet 17 = .ok (.iconst 1, 1) := by decide +kernel
theorem dX8_hasSet_18 : decode cX8_hasSet 18 = .ok (.goto 4, 3) := by decide +kernel
theorem dX8_hasSet_21 : decode cX8_hasSet 21 = .ok (.iconst 0, 1) := by decide +kernel
theorem dX8_hasSet_22 : decode cX8_hasSet 22 = .ok (.ireturn, 1) := by decide +kernel
theorem dX8_add_0 : decode cX8_add 0 = .ok (.aload_n 0, 1) := by decide +kernel
theorem dX8_add_1 : decode cX8_add 1 = .ok (.getfield 22, 3) := by decide +kernel
theorem dX8_add_4 : decode cX8_add 4 = .ok (.ifCond .lt 41, 3) := by decide +kernel
theorem dX8_add_7 : decode cX8_add 7 = .ok (.aload_n 0, 1) := by decide +kernel
theorem dX8_add_8 : decode cX8_add 8 = .ok (.getfield 22, 3) := by decide +kernel
theorem dX8_add_11 : decode cX8_add 11 = .ok (.iconst 4, 1) := by decide +kernel
theorem dX8_add_12 : decode cX8_add 12 = .ok (.if_icmp .ge 33, 3) := by decide +kernel
theorem dX8_add_15 : decode cX8_add 15 = .ok (.aload_n 0, 1) := by decide +kernel
theorem dX8_add_16 : decode cX8_add 16 = .ok (.getfield 9, 3) := by decide +kernel
theorem dX8_add_19 : decode cX8_add 19 = .ok (.aload_n 0, 1) := by decide +kernel
theorem dX8_add_20 : decode cX8_add 20 = .ok (.getfield 22, 3) := by decide +kernel
theorem dX8_add_23 : decode cX8_add 23 = .ok (.iload_n 1, 1) := by decide +kernel
theorem dX8_add_24 : decode cX8_add 24 = .ok (.iastore, 1) := by decide +kernel
theorem dX8_add_25 : decode cX8_add 25 = .ok (.aload_n 0, 1) := by decide +kernel
theorem dX8_add_26 : decode cX8_add 26 = .ok (.getfield 15, 3) := by decide +kernel
theorem dX8_add_29 : decode cX8_add 29 = .ok (.aload_n 0, 1) := by decide +kernel
theorem dX8_add_30 : decode cX8_add 30 = .ok (.getfield 22, 3) := by decide +kernel
theorem dX8_add_33 : decode cX8_add 33 = .ok (.iload_n 2, 1) := by decide +kernel
theorem dX8_add_34 : decode cX8_add 34 = .ok (.iastore, 1) := by decide +kernel
theorem dX8_add_35 : decode cX8_add 35 = .ok (.aload_n 0, 1) := by decide +kernel
theorem dX8_add_36 : decode cX8_add 36 = .ok (.dup, 1) := by decide +kernel
theorem dX8_add_37 : decode cX8_add 37 = .ok (.getfield 22, 3) := by decide +kernel
theorem dX8_add_40 : decode cX8_add 40 = .ok (.iconst 1, 1) := by decide +kernel
theorem dX8_add_41 : decode cX8_add 41 = .ok (.iadd, 1) := by decide +kernel
theorem dX8_add_42 : decode cX8_add 42 = .ok (.putfield 22, 3) := by decide +kernel
theorem dX8_add_45 : decode cX8_add 45 = .ok (.return_, 1) := by decide +kernel
theorem dX8_pushAt_0 : decode cX8_pushAt 0 = .ok (.iconst 0, 1) := by decide +kernel
theorem dX8_pushAt_1 : decode cX8_pushAt 1 = .ok (.istore_n 2, 1) := by decide +kernel
theorem dX8_pushAt_2 : decode cX8_pushAt 2 = .ok (.iconst 0, 1) := by decide +kernel
theorem dX8_pushAt_3 : decode cX8_pushAt 3 = .ok (.istore_n 3, 1) := by decide +kernel
theorem dX8_pushAt_4 : decode cX8_pushAt 4 = .ok (.iload_n 3, 1) := by decide +kernel
theorem dX8_pushAt_5 : decode cX8_pushAt 5 = .ok (.aload_n 0, 1) := by decide +kernel
theorem dX8_pushAt_6 : decode cX8_pushAt 6 = .ok (.getfield 22, 3) := by decide +kernel
theorem dX8_pushAt_9 : decode cX8_pushAt 9 = .ok (.if_icmp .ge 61, 3) := by decide +kernel
theorem dX8_pushAt_12 : decode cX8_pushAt 12 = .ok (.iload_n 3, 1) := by decide +kernel
theorem dX8_pushAt_13 : decode cX8_pushAt 13 = .ok (.iconst 4, 1) := by decide +kernel
theorem dX8_pushAt_14 : decode cX8_pushAt 14 = .ok (.if_icmp .ge 56, 3) := by decide +kernel
theorem dX8_pushAt_17 : decode cX8_pushAt 17 = .ok (.aload_n 0, 1) := by decide +kernel
theorem dX8_pushAt_18 : decode cX8_pushAt 18 = .ok (.getfield 9, 3) := by decide +kernel
theorem dX8_pushAt_21 : decode cX8_pushAt 21 = .ok (.iload_n 3, 1) := by decide +kernel
theorem dX8_pushAt_22 : decode cX8_pushAt 22 = .ok (.iaload, 1) := by decide +kernel
theorem dX8_pushAt_23 : decode cX8_pushAt 23 = .ok (.ifCond .le 41, 3) := by decide +kernel
theorem dX8_pushAt_26 : decode cX8_pushAt 26 = .ok (.iload_n 2, 1) := by decide +kernel
theorem dX8_pushAt_27 : decode cX8_pushAt 27 = .ok (.iload_n 1, 1) := by decide +kernel
theorem dX8_pushAt_28 : decode cX8_pushAt 28 = .ok (.aload_n 0, 1) := by decide +kernel
theorem dX8_pushAt_29 : decode cX8_pushAt 29 = .ok (.getfield 9, 3) := by decide +kernel
theorem dX8_pushAt_32 : decode cX8_pushAt 32 = .ok (.iload_n 3, 1) := by decide +kernel
theorem dX8_pushAt_33 : decode cX8_pushAt 33 = .ok (.iaload, 1) := by decide +kernel
theorem dX8_pushAt_34 : decode cX8_pushAt 34 = .ok (.irem, 1) := by decide +kernel
theorem dX8_pushAt_35 : decode cX8_pushAt 35 = .ok (.aload_n 0, 1) := by decide +kernel
theorem dX8_pushAt_36 : decode cX8_pushAt 36 = .ok (.getfield 9, 3) := by decide +kernel
theorem dX8_pushAt_39 : decode cX8_pushAt 39 = .ok (.iload_n 3, 1) := by decide +kernel
theorem dX8_pushAt_40 : decode cX8_pushAt 40 = .ok (.iaload, 1) := by decide +kernel
theorem dX8_pushAt_41 : decode cX8_pushAt 41 = .ok (.iconst 2, 1) := by decide +kernel
theorem dX8_pushAt_42 : decode cX8_pushAt 42 = .ok (.idiv, 1) := by decide +kernel
theorem dX8_pushAt_43 : decode cX8_pushAt 43 = .ok (.if_icmp .ge 12, 3) := by decide +kernel
theorem dX8_pushAt_46 : decode cX8_pushAt 46 = .ok (.aload_n 0, 1) := by decide +kernel
theorem dX8_pushAt_47 : decode cX8_pushAt 47 = .ok (.getfield 15, 3) := by decide +kernel
theorem dX8_pushAt_50 : decode cX8_pushAt 50 = .ok (.iload_n 3, 1) := by decide +kernel
theorem dX8_pushAt_51 : decode cX8_pushAt 51 = .ok (.iaload, 1) := by decide +kernel
theorem dX8_pushAt_52 : decode cX8_pushAt 52 = .ok (.goto 10, 3) := by decide +kernel
theorem dX8_pushAt_55 : decode cX8_pushAt 55 = .ok (.aload_n 0, 1) := by decide +kernel
theorem dX8_pushAt_56 : decode cX8_pushAt 56 = .ok (.getfield 15, 3) := by decide +kernel
theorem dX8_pushAt_59 : decode cX8_pushAt 59 = .ok (.iload_n 3, 1) := by decide +kernel
theorem dX8_pushAt_60 : decode cX8_pushAt 60 = .ok (.iaload, 1) := by decide +kernel
theorem dX8_pushAt_61 : decode cX8_pushAt 61 = .ok (.ineg, 1) := by decide +kernel
theorem dX8_pushAt_62 : decode cX8_pushAt 62 = .ok (.iadd, 1) := by decide +kernel
theorem dX8_pushAt_63 : decode cX8_pushAt 63 = .ok (.istore_n 2, 1) := by decide +kernel
theorem dX8_pushAt_64 : decode cX8_pushAt 64 = .ok (.iinc 3 1, 3) := by decide +kernel
theorem dX8_pushAt_67 : decode cX8_pushAt 67 = .ok (.goto (-63), 3) := by decide +kernel
theorem dX8_pushAt_70 : decode cX8_pushAt 70 = .ok (.iload_n 2, 1) := by decide +kernel
theorem dX8_pushAt_71 : decode cX8_pushAt 71 = .ok (.ireturn, 1) := by decide +kernel
theorem dX8_mixInto_0 : decode cX8_mixInto 0 = .ok (.aload_n 0, 1) := by decide +kernel
theorem dX8_mixInto_1 : decode cX8_mixInto 1 = .ok (.getfield 18, 3) := by decide +kernel
theorem dX8_mixInto_4 : decode cX8_mixInto 4 = .ok (.ifCond .ne 11, 3) := by decide +kernel
theorem dX8_mixInto_7 : decode cX8_mixInto 7 = .ok (.lload_n 1, 1) := by decide +kernel
theorem dX8_mixInto_8 : decode cX8_mixInto 8 = .ok (.ldc2_w 32, 3) := by decide +kernel
theorem dX8_mixInto_11 : decode cX8_mixInto 11 = .ok (.invokestatic 34, 3) := by decide +kernel
theorem dX8_mixInto_14 : decode cX8_mixInto 14 = .ok (.lreturn, 1) := by decide +kernel
theorem dX8_mixInto_15 : decode cX8_mixInto 15 = .ok (.lload_n 1, 1) := by decide +kernel
theorem dX8_mixInto_16 : decode cX8_mixInto 16 = .ok (.lstore_n 3, 1) := by decide +kernel
theorem dX8_mixInto_17 : decode cX8_mixInto 17 = .ok (.iconst 0, 1) := by decide +kernel
theorem dX8_mixInto_18 : decode cX8_mixInto 18 = .ok (.istore 5, 2) := by decide +kernel
theorem dX8_mixInto_20 : decode cX8_mixInto 20 = .ok (.iload 5, 2) := by decide +kernel
theorem dX8_mixInto_22 : decode cX8_mixInto 22 = .ok (.aload_n 0, 1) := by decide +kernel
theorem dX8_mixInto_23 : decode cX8_mixInto 23 = .ok (.getfield 22, 3) := by decide +kernel
theorem dX8_mixInto_26 : decode cX8_mixInto 26 = .ok (.if_icmp .ge 39, 3) := by decide +kernel
theorem dX8_mixInto_29 : decode cX8_mixInto 29 = .ok (.iload 5, 2) := by decide +kernel
theorem dX8_mixInto_31 : decode cX8_mixInto 31 = .ok (.iconst 4, 1) := by decide +kernel
theorem dX8_mixInto_32 : decode cX8_mixInto 32 = .ok (.if_icmp .ge 33, 3) := by decide +kernel
theorem dX8_mixInto_35 : decode cX8_mixInto 35 = .ok (.lload_n 3, 1) := by decide +kernel
theorem dX8_mixInto_36 : decode cX8_mixInto 36 = .ok (.aload_n 0, 1) := by decide +kernel
theorem dX8_mixInto_37 : decode cX8_mixInto 37 = .ok (.getfield 9, 3) := by decide +kernel
theorem dX8_mixInto_40 : decode cX8_mixInto 40 = .ok (.iload 5, 2) := by decide +kernel
theorem dX8_mixInto_42 : decode cX8_mixInto 42 = .ok (.iaload, 1) := by decide +kernel
theorem dX8_mixInto_43 : decode cX8_mixInto 43 = .ok (.i2l, 1) := by decide +kernel
theorem dX8_mixInto_44 : decode cX8_mixInto 44 = .ok (.invokestatic 34, 3) := by decide +kernel
theorem dX8_mixInto_47 : decode cX8_mixInto 47 = .ok (.aload_n 0, 1) := by decide +kernel
theorem dX8_mixInto_48 : decode cX8_mixInto 48 = .ok (.getfield 15, 3) := by decide +kernel
theorem dX8_mixInto_51 : decode cX8_mixInto 51 = .ok (.iload 5, 2) := by decide +kernel
theorem dX8_mixInto_53 : decode cX8_mixInto 53 = .ok (.iaload, 1) := by decide +kernel
theorem dX8_mixInto_54 : decode cX8_mixInto 54 = .ok (.i2l, 1) := by decide +kernel
theorem dX8_mixInto_55 : decode cX8_mixInto 55 = .ok (.invokestatic 34, 3) := by decide +kernel
theorem dX8_mixInto_58 : decode cX8_mixInto 58 = .ok (.lstore_n 3, 1) := by decide +kernel
theorem dX8_mixInto_59 : decode cX8_mixInto 59 = .ok (.iinc 5 1, 3) := by decide +kernel
theorem dX8_mixInto_62 : decode cX8_mixInto 62 = .ok (.goto (-42), 3) := by decide +kernel
theorem dX8_mixInto_65 : decode cX8_mixInto 65 = .ok (.lload_n 3, 1) := by decide +kernel
theorem dX8_mixInto_66 : decode cX8_mixInto 66 = .ok (.lreturn, 1) := by decide +kernel
theorem dX9_init_0 : decode cX9_init 0 = .ok (.aload_n 0, 1) := by decide +kernel
theorem dX9_init_1 : decode cX9_init 1 = .ok (.invokespecial 3, 3) := by decide +kernel
theorem dX9_init_4 : decode cX9_init 4 = .ok (.aload_n 0, 1) := by decide +kernel
theorem dX9_init_5 : decode cX9_init 5 = .ok (.new 9, 3) := by decide +kernel
theorem dX9_init_8 : decode cX9_init 8 = .ok (.dup, 1) := by decide +kernel
theorem dX9_init_9 : decode cX9_init 9 = .ok (.invokespecial 11, 3) := by decide +kernel
theorem dX9_init_12 : decode cX9_init 12 = .ok (.putfield 12, 3) := by decide +kernel
theorem dX9_init_15 : decode cX9_init 15 = .ok (.aload_n 0, 1) := by decide +kernel
theorem dX9_init_16 : decode cX9_init 16 = .ok (.new 18, 3) := by decide +kernel
theorem dX9_init_19 : decode cX9_init 19 = .ok (.dup, 1) := by decide +kernel
theorem dX9_init_20 : decode cX9_init 20 = .ok (.invokespecial 20, 3) := by decide +kernel
theorem dX9_init_23 : decode cX9_init 23 = .ok (.putfield 21, 3) := by decide +kernel
theorem dX9_init_26 : decode cX9_init 26 = .ok (.aload_n 0, 1) := by decide +kernel
theorem dX9_init_27 : decode cX9_init 27 = .ok (.bipush 16, 2) := by decide +kernel
theorem dX9_init_29 : decode cX9_init 29 = .ok (.newarray .int, 2) := by decide +kernel
theorem dX9_init_31 : decode cX9_init 31 = .ok (.putfield 25, 3) := by decide +kernel
theorem dX9_init_34 : decode cX9_init 34 = .ok (.aload_n 0, 1) := by decide +kernel
theorem dX9_init_35 : decode cX9_init 35 = .ok (.bipush 16, 2) := by decide +kernel
theorem dX9_init_37 : decode cX9_init 37 = .ok (.newarray .int, 2) := by decide +kernel
theorem dX9_init_39 : decode cX9_init 39 = .ok (.putfield 29, 3) := by decide +kernel
theorem dX9_init_42 : decode cX9_init 42 = .ok (.aload_n 0, 1) := by decide +kernel
theorem dX9_init_43 : decode cX9_init 43 = .ok (.bipush 16, 2) := by decide +kernel
theorem dX9_init_45 : decode cX9_init 45 = .ok (.newarray .int, 2) := by decide +kernel
theorem dX9_init_47 : decode cX9_init 47 = .ok (.putfield 32, 3) := by decide +kernel
theorem dX9_init_50 : decode cX9_init 50 = .ok (.aload_n 0, 1) := by decide +kernel
theorem dX9_init_51 : decode cX9_init 51 = .ok (.bipush 16, 2) := by decide +kernel
theorem dX9_init_53 : decode cX9_init 53 = .ok (.newarray .int, 2) := by decide +kernel
theorem dX9_init_55 : decode cX9_init 55 = .ok (.putfield 35, 3) := by decide +kernel
theorem dX9_init_58 : decode cX9_init 58 = .ok (.aload_n 0, 1) := by decide +kernel
theorem dX9_init_59 : decode cX9_init 59 = .ok (.bipush 16, 2) := by decide +kernel
theorem dX9_init_61 : decode cX9_init 61 = .ok (.newarray .int, 2) := by decide +kernel
theorem dX9_init_63 : decode cX9_init 63 = .ok (.putfield 38, 3) := by decide +kernel
theorem dX9_init_66 : decode cX9_init 66 = .ok (.aload_n 0, 1) := by decide +kernel
theorem dX9_init_67 : decode cX9_init 67 = .ok (.iconst 0, 1) := by decide +kernel
theorem dX9_init_68 : decode cX9_init 68 = .ok (.putfield 41, 3) := by decide +kernel
theorem dX9_init_71 : decode cX9_init 71 = .ok (.return_, 1) := by decide +kernel
theorem dX9_begin_0 : decode cX9_begin 0 = .ok (.aload_n 0, 1) := by decide +kernel
theorem dX9_begin_1 : decode cX9_begin 1 = .ok (.getfield 12, 3) := by decide +kernel
theorem dX9_begin_4 : decode cX9_begin 4 = .ok (.aload_n 1, 1) := by decide +kernel
theorem dX9_begin_5 : decode cX9_begin 5 = .ok (.invokevirtual 45, 3) := by decide +kernel
theorem dX9_begin_8 : decode cX9_begin 8 = .ok (.aload_n 0, 1) := by decide +kernel
theorem dX9_begin_9 : decode cX9_begin 9 = .ok (.getfield 21, 3) := by decide +kernel
theorem dX9_begin_12 : decode cX9_begin 12 = .ok (.aload_n 2, 1) := by decide +kernel
theorem dX9_begin_13 : decode cX9_begin 13 = .ok (.invokevirtual 49, 3) := by decide +kernel
theorem dX9_begin_16 : decode cX9_begin 16 = .ok (.aload_n 0, 1) := by decide +kernel
theorem dX9_begin_17 : decode cX9_begin 17 = .ok (.iconst 0, 1) := by decide +kernel
theorem dX9_begin_18 : decode cX9_begin 18 = .ok (.putfield 41, 3) := by decide +kernel
theorem dX9_begin_21 : decode cX9_begin 21 = .ok (.iconst 0, 1) := by decide +kernel
theorem dX9_begin_22 : decode cX9_begin 22 = .ok (.istore_n 3, 1) := by decide +kernel
theorem dX9_begin_23 : decode cX9_begin 23 = .ok (.iload_n 3, 1) := by decide +kernel
theorem dX9_begin_24 : decode cX9_begin 24 = .ok (.bipush 16, 2) := by decide +kernel
theorem dX9_begin_26 : decode cX9_begin 26 = .ok (.if_icmp .ge 51, 3) := by decide +kernel
theorem dX9_begin_29 : decode cX9_begin 29 = .ok (.aload_n 0, 1) := by decide +kernel
theorem dX9_begin_30 : decode cX9_begin 30 = .ok (.getfield 25, 3) := by decide +kernel
theorem dX9_begin_33 : decode cX9_begin 33 = .ok (.iload_n 3, 1) := by decide +kernel
theorem dX9_begin_34 : decode cX9_begin 34 = .ok (.iconst 0, 1) := by decide +kernel
theorem dX9_begin_35 : decode cX9_begin 35 = .ok (.iastore, 1) := by decide +kernel
theorem dX9_begin_36 : decode cX9_begin 36 = .ok (.aload_n 0, 1) := by decide +kernel
theorem dX9_begin_37 : decode cX9_begin 37 = .ok (.getfield 29, 3) := by decide +kernel
theorem dX9_begin_40 : decode cX9_begin 40 = .ok (.iload_n 3, 1) := by decide +kernel
theorem dX9_begin_41 : decode cX9_begin 41 = .ok (.iconst 0, 1) := by decide +kernel
theorem dX9_begin_42 : decode cX9_begin 42 = .ok (.iastore, 1) := by decide +kernel
theorem dX9_begin_43 : decode cX9_begin 43 = .ok (.aload_n 0, 1) := by decide +kernel
theorem dX9_begin_44 : decode cX9_begin 44 = .ok (.getfield 35, 3) := by decide +kernel
theorem dX9_begin_47 : decode cX9_begin 47 = .ok (.iload_n 3, 1) := by decide +kernel
theorem dX9_begin_48 : decode cX9_begin 48 = .ok (.iconst 0, 1) := by decide +kernel
theorem dX9_begin_49 : decode cX9_begin 49 = .ok (.iastore, 1) := by decide +kernel
theorem dX9_begin_50 : decode cX9_begin 50 = .ok (.aload_n 0, 1) := by decide +kernel
theorem dX9_begin_51 : decode cX9_begin 51 = .ok (.getfield 38, 3) := by decide +kernel
theorem dX9_begin_54 : decode cX9_begin 54 = .ok (.iload_n 3, 1) := by decide +kernel
theorem dX9_begin_55 : decode cX9_begin 55 = .ok (.iconst 0, 1) := by decide +kernel
theorem dX9_begin_56 : decode cX9_begin 56 = .ok (.iastore, 1) := by decide +kernel
theorem dX9_begin_57 : decode cX9_begin 57 = .ok (.aload_n 0, 1) := by decide +kernel
theorem dX9_begin_58 : decode cX9_begin 58 = .ok (.getfield 32, 3) := by decide +kernel
theorem dX9_begin_61 : decode cX9_begin 61 = .ok (.iload_n 3, 1) := by decide +kernel
theorem dX9_begin_62 : decode cX9_begin 62 = .ok (.aload_n 0, 1) := by decide +kernel
theorem dX9_begin_63 : decode cX9_begin 63 = .ok (.getfield 12, 3) := by decide +kernel
theorem dX9_begin_66 : decode cX9_begin 66 = .ok (.iload_n 3, 1) := by decide +kernel
theorem dX9_begin_67 : decode cX9_begin 67 = .ok (.invokevirtual 52, 3) := by decide +kernel
theorem dX9_begin_70 : decode cX9_begin 70 = .ok (.iastore, 1) := by decide +kernel
theorem dX9_begin_71 : decode cX9_begin 71 = .ok (.iinc 3 1, 3) := by decide +kernel
theorem dX9_begin_74 : decode cX9_begin 74 = .ok (.goto (-51), 3) := by decide +kernel
theorem dX9_begin_77 : decode cX9_begin 77 = .ok (.return_, 1) := by decide +kernel
theorem dX9_lift_0 : decode cX9_lift 0 = .ok (.aload_n 0, 1) := by decide +kernel
theorem dX9_lift_1 : decode cX9_lift 1 = .ok (.getfield 12, 3) := by decide +kernel
theorem dX9_lift_4 : decode cX9_lift 4 = .ok (.iload_n 1, 1) := by decide +kernel
theorem dX9_lift_5 : decode cX9_lift 5 = .ok (.invokevirtual 56, 3) := by decide +kernel
theorem dX9_lift_8 : decode cX9_lift 8 = .ok (.ifCond .eq 10, 3) := by decide +kernel
theorem dX9_lift_11 : decode cX9_lift 11 = .ok (.aload_n 0, 1) := by decide +kernel
theorem dX9_lift_12 : decode cX9_lift 12 = .ok (.getfield 25, 3) := by decide +kernel
theorem dX9_lift_15 : decode cX9_lift 15 = .ok (.iload_n 1, 1) := by decide +kernel
theorem dX9_lift_16 : decode cX9_lift 16 = .ok (.iload_n 2, 1) := by decide +kernel
theorem dX9_lift_17 : decode cX9_lift 17 = .ok (.iastore, 1) := by decide +kernel
theorem dX9_lift_18 : decode cX9_lift 18 = .ok (.return_, 1) := by decide +kernel
theorem dX9_take_0 : decode cX9_take 0 = .ok (.aload_n 0, 1) := by decide +kernel
theorem dX9_take_1 : decode cX9_take 1 = .ok (.getfield 12, 3) := by decide +kernel
theorem dX9_take_4 : decode cX9_take 4 = .ok (.aload_n 1, 1) := by decide +kernel
theorem dX9_take_5 : decode cX9_take 5 = .ok (.getfield 12, 3) := by decide +kernel
theorem dX9_take_8 : decode cX9_take 8 = .ok (.invokevirtual 45, 3) := by decide +kernel
theorem dX9_take_11 : decode cX9_take 11 = .ok (.aload_n 0, 1) := by decide +kernel
theorem dX9_take_12 : decode cX9_take 12 = .ok (.getfield 21, 3) := by decide +kernel
theorem dX9_take_15 : decode cX9_take 15 = .ok (.aload_n 1, 1) := by decide +kernel
theorem dX9_take_16 : decode cX9_take 16 = .ok (.getfield 21, 3) := by decide +kernel
theorem dX9_take_19 : decode cX9_take 19 = .ok (.invokevirtual 49, 3) := by decide +kernel
theorem dX9_take_22 : decode cX9_take 22 = .ok (.aload_n 0, 1) := by decide +kernel
theorem dX9_take_23 : decode cX9_take 23 = .ok (.aload_n 1, 1) := by decide +kernel
theorem dX9_take_24 : decode cX9_take 24 = .ok (.getfield 41, 3) := by decide +kernel
theorem dX9_take_27 : decode cX9_take 27 = .ok (.putfield 41, 3) := by decide +kernel
theorem dX9_take_30 : decode cX9_take 30 = .ok (.aload_n 1, 1) := by decide +kernel
theorem dX9_take_31 : decode cX9_take 31 = .ok (.getfield 25, 3) := by decide +kernel
theorem dX9_take_34 : decode cX9_take 34 = .ok (.iconst 0, 1) := by decide +kernel
theorem dX9_take_35 : decode cX9_take 35 = .ok (.aload_n 0, 1) := by decide +kernel
theorem dX9_take_36 : decode cX9_take 36 = .ok (.getfield 25, 3) := by decide +kernel
theorem dX9_take_39 : decode cX9_take 39 = .ok (.iconst 0, 1) := by decide +kernel
theorem dX9_take_40 : decode cX9_take 40 = .ok (.bipush 16, 2) := by decide +kernel
theorem dX9_take_42 : decode cX9_take 42 = .ok (.invokestatic 60, 3) := by decide +kernel
theorem dX9_take_45 : decode cX9_take 45 = .ok (.aload_n 1, 1) := by decide +kernel
theorem dX9_take_46 : decode cX9_take 46 = .ok (.getfield 29, 3) := by decide +kernel
theorem dX9_take_49 : decode cX9_take 49 = .ok (.iconst 0, 1) := by decide +kernel
theorem dX9_take_50 : decode cX9_take 50 = .ok (.aload_n 0, 1) := by decide +kernel
theorem dX9_take_51 : decode cX9_take 51 = .ok (.getfield 29, 3) := by decide +kernel
theorem dX9_take_54 : decode cX9_take 54 = .ok (.iconst 0, 1) := by decide +kernel
theorem dX9_take_55 : decode cX9_take 55 = .ok (.bipush 16, 2) := by decide +kernel
theorem dX9_take_57 : decode cX9_take 57 = .ok (.invokestatic 60, 3) := by decide +kernel
theorem dX9_take_60 : decode cX9_take 60 = .ok (.aload_n 1, 1) := by decide +kernel
theorem dX9_take_61 : decode cX9_take 61 = .ok (.getfield 32, 3) := by decide +kernel
theorem dX9_take_64 : decode cX9_take 64 = .ok (.iconst 0, 1) := by decide +kernel
theorem dX9_take_65 : decode cX9_take 65 = .ok (.aload_n 0, 1) := by decide +kernel
theorem dX9_take_66 : decode cX9_take 66 = .ok (.getfield 32, 3) := by decide +kernel
theorem dX9_take_69 : decode cX9_take 69 = .ok (.iconst 0, 1) := by decide +kernel
theorem dX9_take_70 : decode cX9_take 70 = .ok (.bipush 16, 2) := by decide +kernel
theorem dX9_take_72 : decode cX9_take 72 = .ok (.invokestatic 60, 3) := by decide +kernel
theorem dX9_take_75 : decode cX9_take 75 = .ok (.aload_n 1, 1) := by decide +kernel
theorem dX9_take_76 : decode cX9_take 76 = .ok (.getfield 35, 3) := by decide +kernel
theorem dX9_take_79 : decode cX9_take 79 = .ok (.iconst 0, 1) := by decide +kernel
theorem dX9_take_80 : decode cX9_take 80 = .ok (.aload_n 0, 1) := by decide +kernel
theorem dX9_take_81 : decode cX9_take 81 = .ok (.getfield 35, 3) := by decide +kernel
theorem dX9_take_84 : decode cX9_take 84 = .ok (.iconst 0, 1) := by decide +kernel
theorem dX9_take_85 : decode cX9_take 85 = .ok (.bipush 16, 2) := by decide +kernel
theorem dX9_take_87 : decode cX9_take 87 = .ok (.invokestatic 60, 3) := by decide +kernel
theorem dX9_take_90 : decode cX9_take 90 = .ok (.aload_n 1, 1) := by decide +kernel
theorem dX9_take_91 : decode cX9_take 91 = .ok (.getfield 38, 3) := by decide +kernel
theorem dX9_take_94 : decode cX9_take 94 = .ok (.iconst 0, 1) := by decide +kernel
theorem dX9_take_95 : decode cX9_take 95 = .ok (.aload_n 0, 1) := by decide +kernel
theorem dX9_take_96 : decode cX9_take 96 = .ok (.getfield 38, 3) := by decide +kernel
theorem dX9_take_99 : decode cX9_take 99 = .ok (.iconst 0, 1) := by decide +kernel
theorem dX9_take_100 : decode cX9_take 100 = .ok (.bipush 16, 2) := by decide +kernel
theorem dX9_take_102 : decode cX9_take 102 = .ok (.invokestatic 60, 3) := by decide +kernel
theorem dX9_take_105 : decode cX9_take 105 = .ok (.return_, 1) := by decide +kernel
theorem dX9_pass_0 : decode cX9_pass 0 = .ok (.aload_n 0, 1) := by decide +kernel
theorem dX9_pass_1 : decode cX9_pass 1 = .ok (.invokevirtual 66, 3) := by decide +kernel
theorem dX9_pass_4 : decode cX9_pass 4 = .ok (.aload_n 0, 1) := by decide +kernel
theorem dX9_pass_5 : decode cX9_pass 5 = .ok (.aload_n 0, 1) := by decide +kernel
theorem dX9_pass_6 : decode cX9_pass 6 = .ok (.getfield 21, 3) := by decide +kernel
theorem dX9_pass_9 : decode cX9_pass 9 = .ok (.aload_n 0, 1) := by decide +kernel
theorem dX9_pass_10 : decode cX9_pass 10 = .ok (.getfield 41, 3) := by decide +kernel
theorem dX9_pass_13 : decode cX9_pass 13 = .ok (.invokevirtual 69, 3) := by decide +kernel
theorem dX9_pass_16 : decode cX9_pass 16 = .ok (.invokevirtual 72, 3) := by decide +kernel
theorem dX9_pass_19 : decode cX9_pass 19 = .ok (.aload_n 0, 1) := by decide +kernel
theorem dX9_pass_20 : decode cX9_pass 20 = .ok (.dup, 1) := by decide +kernel
theorem dX9_pass_21 : decode cX9_pass 21 = .ok (.getfield 41, 3) := by decide +kernel
theorem dX9_pass_24 : decode cX9_pass 24 = .ok (.iconst 1, 1) := by decide +kernel
theorem dX9_pass_25 : decode cX9_pass 25 = .ok (.iadd, 1) := by decide +kernel
theorem dX9_pass_26 : decode cX9_pass 26 = .ok (.putfield 41, 3) := by decide +kernel
theorem dX9_pass_29 : decode cX9_pass 29 = .ok (.return_, 1) := by decide +kernel
theorem dX9_stream_0 : decode cX9_stream 0 = .ok (.iconst 0, 1) := by decide +kernel
theorem dX9_stream_1 : decode cX9_stream 1 = .ok (.istore_n 1, 1) := by decide +kernel
theorem dX9_stream_2 : decode cX9_stream 2 = .ok (.iload_n 1, 1) := by decide +kernel
theorem dX9_stream_3 : decode cX9_stream 3 = .ok (.aload_n 0, 1) := by decide +kernel
theorem dX9_stream_4 : decode cX9_stream 4 = .ok (.getfield 12, 3) := by decide +kernel
theorem dX9_stream_7 : decode cX9_stream 7 = .ok (.getfield 76, 3) := by decide +kernel
theorem dX9_stream_10 : decode cX9_stream 10 = .ok (.iconst 1, 1) := by decide +kernel
theorem dX9_stream_11 : decode cX9_stream 11 = .ok (.isub, 1) := by decide +kernel
theorem dX9_stream_12 : decode cX9_stream 12 = .ok (.if_icmp .ge 68, 3) := by decide +kernel
theorem dX9_stream_15 : decode cX9_stream 15 = .ok (.iload_n 1, 1) := by decide +kernel
theorem dX9_stream_16 : decode cX9_stream 16 = .ok (.bipush 15, 2) := by decide +kernel
theorem dX9_stream_18 : decode cX9_stream 18 = .ok (.if_icmp .ge 62, 3) := by decide +kernel
theorem dX9_stream_21 : decode cX9_stream 21 = .ok (.aload_n 0, 1) := by decide +kernel
theorem dX9_stream_22 : decode cX9_stream 22 = .ok (.getfield 29, 3) := by decide +kernel
theorem dX9_stream_25 : decode cX9_stream 25 = .ok (.iload_n 1, 1) := by decide +kernel
theorem dX9_stream_26 : decode cX9_stream 26 = .ok (.iaload, 1) := by decide +kernel
theorem dX9_stream_27 : decode cX9_stream 27 = .ok (.aload_n 0, 1) := by decide +kernel
theorem dX9_stream_28 : decode cX9_stream 28 = .ok (.getfield 25, 3) := by decide +kernel
theorem dX9_stream_31 : decode cX9_stream 31 = .ok (.iload_n 1, 1) := by decide +kernel
theorem dX9_stream_32 : decode cX9_stream 32 = .ok (.iaload, 1) := by decide +kernel
theorem dX9_stream_33 : decode cX9_stream 33 = .ok (.aload_n 0, 1) := by decide +kernel
theorem dX9_stream_34 : decode cX9_stream 34 = .ok (.getfield 25, 3) := by decide +kernel
theorem dX9_stream_37 : decode cX9_stream 37 = .ok (.iload_n 1, 1) := by decide +kernel
theorem dX9_stream_38 : decode cX9_stream 38 = .ok (.iconst 1, 1) := by decide +kernel
theorem dX9_stream_39 : decode cX9_stream 39 = .ok (.iadd, 1) := by decide +kernel
theorem dX9_stream_40 : decode cX9_stream 40 = .ok (.iaload, 1) := by decide +kernel
theorem dX9_stream_41 : decode cX9_stream 41 = .ok (.isub, 1) := by decide +kernel
theorem dX9_stream_42 : decode cX9_stream 42 = .ok (.aload_n 0, 1) := by decide +kernel
theorem dX9_stream_43 : decode cX9_stream 43 = .ok (.getfield 32, 3) := by decide +kernel
theorem dX9_stream_46 : decode cX9_stream 46 = .ok (.iload_n 1, 1) := by decide +kernel
theorem dX9_stream_47 : decode cX9_stream 47 = .ok (.iaload, 1) := by decide +kernel
theorem dX9_stream_48 : decode cX9_stream 48 = .ok (.imul, 1) := by decide +kernel
theorem dX9_stream_49 : decode cX9_stream 49 = .ok (.bipush 16, 2) := by decide +kernel
theorem dX9_stream_51 : decode cX9_stream 51 = .ok (.idiv, 1) := by decide +kernel
theorem dX9_stream_52 : decode cX9_stream 52 = .ok (.iadd, 1) := by decide +kernel
theorem dX9_stream_53 : decode cX9_stream 53 = .ok (.istore_n 2, 1) := by decide +kernel
theorem dX9_stream_54 : decode cX9_stream 54 = .ok (.aload_n 0, 1) := by decide +kernel
theorem dX9_stream_55 : decode cX9_stream 55 = .ok (.getfield 29, 3) := by decide +kernel
theorem dX9_stream_58 : decode cX9_stream 58 = .ok (.iload_n 1, 1) := by decide +kernel
theorem dX9_stream_59 : decode cX9_stream 59 = .ok (.iload_n 2, 1) := by decide +kernel
theorem dX9_stream_60 : decode cX9_stream 60 = .ok (.iload_n 2, 1) := by decide +kernel
theorem dX9_stream_61 : decode cX9_stream 61 = .ok (.aload_n 0, 1) := by decide +kernel
theorem dX9_stream_62 : decode cX9_stream 62 = .ok (.getfield 12, 3) := by decide +kernel
theorem dX9_stream_65 : decode cX9_stream 65 = .ok (.getfield 79, 3) := by decide +kernel
theorem dX9_stream_68 : decode cX9_stream 68 = .ok (.imul, 1) := by decide +kernel
theorem dX9_stream_69 : decode cX9_stream 69 = .ok (.bipush 64, 2) := by decide +kernel
theorem dX9_stream_71 : decode cX9_stream 71 = .ok (.idiv, 1) := by decide +kernel
theorem dX9_stream_72 : decode cX9_stream 72 = .ok (.isub, 1) := by decide +kernel
theorem dX9_stream_73 : decode cX9_stream 73 = .ok (.iastore, 1) := by decide +kernel
theorem dX9_stream_74 : decode cX9_stream 74 = .ok (.iinc 1 1, 3) := by decide +kernel
theorem dX9_stream_77 : decode cX9_stream 77 = .ok (.goto (-75), 3) := by decide +kernel
theorem dX9_stream_80 : decode cX9_stream 80 = .ok (.return_, 1) := by decide +kernel
theorem dX9_rise_0 : decode cX9_rise 0 = .ok (.iconst 0, 1) := by decide +kernel
theorem dX9_rise_1 : decode cX9_rise 1 = .ok (.istore_n 2, 1) := by decide +kernel
theorem dX9_rise_2 : decode cX9_rise 2 = .ok (.iconst 0, 1) := by decide +kernel
theorem dX9_rise_3 : decode cX9_rise 3 = .ok (.istore_n 3, 1) := by decide +kernel
theorem dX9_rise_4 : decode cX9_rise 4 = .ok (.iload_n 3, 1) := by decide +kernel
theorem dX9_rise_5 : decode cX9_rise 5 = .ok (.aload_n 0, 1) := by decide +kernel
theorem dX9_rise_6 : decode cX9_rise 6 = .ok (.getfield 12, 3) := by decide +kernel
theorem dX9_rise_9 : decode cX9_rise 9 = .ok (.getfield 76, 3) := by decide +kernel
theorem dX9_rise_12 : decode cX9_rise 12 = .ok (.if_icmp .ge 130, 3) := by decide +kernel
theorem dX9_rise_15 : decode cX9_rise 15 = .ok (.iload_n 3, 1) := by decide +kernel
theorem dX9_rise_16 : decode cX9_rise 16 = .ok (.bipush 16, 2) := by decide +kernel
theorem dX9_rise_18 : decode cX9_rise 18 = .ok (.if_icmp .ge 124, 3) := by decide +kernel
theorem dX9_rise_21 : decode cX9_rise 21 = .ok (.aload_n 0, 1) := by decide +kernel
theorem dX9_rise_22 : decode cX9_rise 22 = .ok (.getfield 25, 3) := by decide +kernel
theorem dX9_rise_25 : decode cX9_rise 25 = .ok (.iload_n 3, 1) := by decide +kernel
theorem dX9_rise_26 : decode cX9_rise 26 = .ok (.iaload, 1) := by decide +kernel
theorem dX9_rise_27 : decode cX9_rise 27 = .ok (.iload_n 2, 1) := by decide +kernel
theorem dX9_rise_28 : decode cX9_rise 28 = .ok (.iadd, 1) := by decide +kernel
theorem dX9_rise_29 : decode cX9_rise 29 = .ok (.aload_n 0, 1) := by decide +kernel
theorem dX9_rise_30 : decode cX9_rise 30 = .ok (.getfield 29, 3) := by decide +kernel
theorem dX9_rise_33 : decode cX9_rise 33 = .ok (.iload_n 3, 1) := by decide +kernel
theorem dX9_rise_34 : decode cX9_rise 34 = .ok (.iaload, 1) := by decide +kernel
theorem dX9_rise_35 : decode cX9_rise 35 = .ok (.isub, 1) := by decide +kernel
theorem dX9_rise_36 : decode cX9_rise 36 = .ok (.istore 4, 2) := by decide +kernel
theorem dX9_rise_38 : decode cX9_rise 38 = .ok (.iload_n 3, 1) := by decide +kernel
theorem dX9_rise_39 : decode cX9_rise 39 = .ok (.aload_n 0, 1) := by decide +kernel
theorem dX9_rise_40 : decode cX9_rise 40 = .ok (.getfield 12, 3) := by decide +kernel
theorem dX9_rise_43 : decode cX9_rise 43 = .ok (.getfield 82, 3) := by decide +kernel
theorem dX9_rise_46 : decode cX9_rise 46 = .ok (.if_icmp .ne 23, 3) := by decide +kernel
theorem dX9_rise_49 : decode cX9_rise 49 = .ok (.iload 4, 2) := by decide +kernel
theorem dX9_rise_51 : decode cX9_rise 51 = .ok (.iload_n 1, 1) := by decide +kernel
theorem dX9_rise_52 : decode cX9_rise 52 = .ok (.iload 4, 2) := by decide +kernel
theorem dX9_rise_54 : decode cX9_rise 54 = .ok (.isub, 1) := by decide +kernel
theorem dX9_rise_55 : decode cX9_rise 55 = .ok (.aload_n 0, 1) := by decide +kernel
theorem dX9_rise_56 : decode cX9_rise 56 = .ok (.getfield 12, 3) := by decide +kernel
theorem dX9_rise_59 : decode cX9_rise 59 = .ok (.getfield 85, 3) := by decide +kernel
theorem dX9_rise_62 : decode cX9_rise 62 = .ok (.imul, 1) := by decide +kernel
theorem dX9_rise_63 : decode cX9_rise 63 = .ok (.bipush 16, 2) := by decide +kernel
theorem dX9_rise_65 : decode cX9_rise 65 = .ok (.idiv, 1) := by decide +kernel
theorem dX9_rise_66 : decode cX9_rise 66 = .ok (.iadd, 1) := by decide +kernel
theorem dX9_rise_67 : decode cX9_rise 67 = .ok (.istore 4, 2) := by decide +kernel
theorem dX9_rise_69 : decode cX9_rise 69 = .ok (.aload_n 0, 1) := by decide +kernel
theorem dX9_rise_70 : decode cX9_rise 70 = .ok (.getfield 25, 3) := by decide +kernel
theorem dX9_rise_73 : decode cX9_rise 73 = .ok (.iload_n 3, 1) := by decide +kernel
theorem dX9_rise_74 : decode cX9_rise 74 = .ok (.iload 4, 2) := by decide +kernel
theorem dX9_rise_76 : decode cX9_rise 76 = .ok (.iastore, 1) := by decide +kernel
theorem dX9_rise_77 : decode cX9_rise 77 = .ok (.aload_n 0, 1) := by decide +kernel
theorem dX9_rise_78 : decode cX9_rise 78 = .ok (.getfield 41, 3) := by decide +kernel
theorem dX9_rise_81 : decode cX9_rise 81 = .ok (.ifCond .eq 14, 3) := by decide +kernel
theorem dX9_rise_84 : decode cX9_rise 84 = .ok (.iload 4, 2) := by decide +kernel
theorem dX9_rise_86 : decode cX9_rise 86 = .ok (.aload_n 0, 1) := by decide +kernel
theorem dX9_rise_87 : decode cX9_rise 87 = .ok (.getfield 35, 3) := by decide +kernel
theorem dX9_rise_90 : decode cX9_rise 90 = .ok (.iload_n 3, 1) := by decide +kernel
theorem dX9_rise_91 : decode cX9_rise 91 = .ok (.iaload, 1) := by decide +kernel
theorem dX9_rise_92 : decode cX9_rise 92 = .ok (.if_icmp .le 11, 3) := by decide +kernel
theorem dX9_rise_95 : decode cX9_rise 95 = .ok (.aload_n 0, 1) := by decide +kernel
theorem dX9_rise_96 : decode cX9_rise 96 = .ok (.getfield 35, 3) := by decide +kernel
theorem dX9_rise_99 : decode cX9_rise 99 = .ok (.iload_n 3, 1) := by decide +kernel
theorem dX9_rise_100 : decode cX9_rise 100 = .ok (.iload 4, 2) := by decide +kernel
theorem dX9_rise_102 : decode cX9_rise 102 = .ok (.iastore, 1) := by decide +kernel
theorem dX9_rise_103 : decode cX9_rise 103 = .ok (.aload_n 0, 1) := by decide +kernel
theorem dX9_rise_104 : decode cX9_rise 104 = .ok (.getfield 41, 3) := by decide +kernel
theorem dX9_rise_107 : decode cX9_rise 107 = .ok (.ifCond .eq 14, 3) := by decide +kernel
theorem dX9_rise_110 : decode cX9_rise 110 = .ok (.iload 4, 2) := by decide +kernel
theorem dX9_rise_112 : decode cX9_rise 112 = .ok (.aload_n 0, 1) := by decide +kernel
theorem dX9_rise_113 : decode cX9_rise 113 = .ok (.getfield 38, 3) := by decide +kernel
theorem dX9_rise_116 : decode cX9_rise 116 = .ok (.iload_n 3, 1) := by decide +kernel
theorem dX9_rise_117 : decode cX9_rise 117 = .ok (.iaload, 1) := by decide +kernel
theorem dX9_rise_118 : decode cX9_rise 118 = .ok (.if_icmp .ge 11, 3) := by decide +kernel
theorem dX9_rise_121 : decode cX9_rise 121 = .ok (.aload_n 0, 1) := by decide +kernel
theorem dX9_rise_122 : decode cX9_rise 122 = .ok (.getfield 38, 3) := by decide +kernel
theorem dX9_rise_125 : decode cX9_rise 125 = .ok (.iload_n 3, 1) := by decide +kernel
theorem dX9_rise_126 : decode cX9_rise 126 = .ok (.iload 4, 2) := by decide +kernel
theorem dX9_rise_128 : decode cX9_rise 128 = .ok (.iastore, 1) := by decide +kernel
theorem dX9_rise_129 : decode cX9_rise 129 = .ok (.aload_n 0, 1) := by decide +kernel
theorem dX9_rise_130 : decode cX9_rise 130 = .ok (.getfield 29, 3) := by decide +kernel
theorem dX9_rise_133 : decode cX9_rise 133 = .ok (.iload_n 3, 1) := by decide +kernel
theorem dX9_rise_134 : decode cX9_rise 134 = .ok (.iaload, 1) := by decide +kernel
theorem dX9_rise_135 : decode cX9_rise 135 = .ok (.istore_n 2, 1) := by decide +kernel
theorem dX9_rise_136 : decode cX9_rise 136 = .ok (.iinc 3 1, 3) := by decide +kernel
theorem dX9_rise_139 : decode cX9_rise 139 = .ok (.goto (-135), 3) := by decide +kernel
theorem dX9_rise_142 : decode cX9_rise 142 = .ok (.return_, 1) := by decide +kernel
theorem dX9_flowsAt_0 : decode cX9_flowsAt 0 = .ok (.aload_n 0, 1) := by decide +kernel
theorem dX9_flowsAt_1 : decode cX9_flowsAt 1 = .ok (.getfield 12, 3) := by decide +kernel
theorem dX9_flowsAt_4 : decode cX9_flowsAt 4 = .ok (.iload_n 1, 1) := by decide +kernel
theorem dX9_flowsAt_5 : decode cX9_flowsAt 5 = .ok (.invokevirtual 56, 3) := by decide +kernel
theorem dX9_flowsAt_8 : decode cX9_flowsAt 8 = .ok (.ifCond .ne 5, 3) := by decide +kernel
theorem dX9_flowsAt_11 : decode cX9_flowsAt 11 = .ok (.iconst 0, 1) := by decide +kernel
theorem dX9_flowsAt_12 : decode cX9_flowsAt 12 = .ok (.ireturn, 1) := by decide +kernel
theorem dX9_flowsAt_13 : decode cX9_flowsAt 13 = .ok (.iload_n 1, 1) := by decide +kernel
theorem dX9_flowsAt_14 : decode cX9_flowsAt 14 = .ok (.ifCond .le 21, 3) := by decide +kernel
theorem dX9_flowsAt_17 : decode cX9_flowsAt 17 = .ok (.aload_n 0, 1) := by decide +kernel
theorem dX9_flowsAt_18 : decode cX9_flowsAt 18 = .ok (.getfield 29, 3) := by decide +kernel
theorem dX9_flowsAt_21 : decode cX9_flowsAt 21 = .ok (.iload_n 1, 1) := by decide +kernel
theorem dX9_flowsAt_22 : decode cX9_flowsAt 22 = .ok (.iconst 1, 1) := by decide +kernel
theorem dX9_flowsAt_23 : decode cX9_flowsAt 23 = .ok (.isub, 1) := by decide +kernel
theorem dX9_flowsAt_24 : decode cX9_flowsAt 24 = .ok (.iaload, 1) := by decide +kernel
theorem dX9_flowsAt_25 : decode cX9_flowsAt 25 = .ok (.aload_n 0, 1) := by decide +kernel
theorem dX9_flowsAt_26 : decode cX9_flowsAt 26 = .ok (.getfield 29, 3) := by decide +kernel
theorem dX9_flowsAt_29 : decode cX9_flowsAt 29 = .ok (.iload_n 1, 1) := by decide +kernel
theorem dX9_flowsAt_30 : decode cX9_flowsAt 30 = .ok (.iaload, 1) := by decide +kernel
theorem dX9_flowsAt_31 : decode cX9_flowsAt 31 = .ok (.iadd, 1) := by decide +kernel
theorem dX9_flowsAt_32 : decode cX9_flowsAt 32 = .ok (.goto 9, 3) := by decide +kernel
theorem dX9_flowsAt_35 : decode cX9_flowsAt 35 = .ok (.aload_n 0, 1) := by decide +kernel
theorem dX9_flowsAt_36 : decode cX9_flowsAt 36 = .ok (.getfield 29, 3) := by decide +kernel
theorem dX9_flowsAt_39 : decode cX9_flowsAt 39 = .ok (.iload_n 1, 1) := by decide +kernel
theorem dX9_flowsAt_40 : decode cX9_flowsAt 40 = .ok (.iaload, 1) := by decide +kernel
theorem dX9_flowsAt_41 : decode cX9_flowsAt 41 = .ok (.ireturn, 1) := by decide +kernel
theorem dX9_range_0 : decode cX9_range 0 = .ok (.aload_n 0, 1) := by decide +kernel
theorem dX9_range_1 : decode cX9_range 1 = .ok (.getfield 12, 3) := by decide +kernel
theorem dX9_range_4 : decode cX9_range 4 = .ok (.iload_n 1, 1) := by decide +kernel
theorem dX9_range_5 : decode cX9_range 5 = .ok (.invokevirtual 56, 3) := by decide +kernel
theorem dX9_range_8 : decode cX9_range 8 = .ok (.ifCond .eq 19, 3) := by decide +kernel
theorem dX9_range_11 : decode cX9_range 11 = .ok (.aload_n 0, 1) := by decide +kernel
theorem dX9_range_12 : decode cX9_range 12 = .ok (.getfield 35, 3) := by decide +kernel
theorem dX9_range_15 : decode cX9_range 15 = .ok (.iload_n 1, 1) := by decide +kernel
theorem dX9_range_16 : decode cX9_range 16 = .ok (.iaload, 1) := by decide +kernel
theorem dX9_range_17 : decode cX9_range 17 = .ok (.aload_n 0, 1) := by decide +kernel
theorem dX9_range_18 : decode cX9_range 18 = .ok (.getfield 38, 3) := by decide +kernel
theorem dX9_range_21 : decode cX9_range 21 = .ok (.iload_n 1, 1) := by decide +kernel
theorem dX9_range_22 : decode cX9_range 22 = .ok (.iaload, 1) := by decide +kernel
theorem dX9_range_23 : decode cX9_range 23 = .ok (.isub, 1) := by decide +kernel
theorem dX9_range_24 : decode cX9_range 24 = .ok (.goto 4, 3) := by decide +kernel
theorem dX9_range_27 : decode cX9_range 27 = .ok (.iconst 0, 1) := by decide +kernel
theorem dX9_range_28 : decode cX9_range 28 = .ok (.ireturn, 1) := by decide +kernel
theorem dX9_wildest_0 : decode cX9_wildest 0 = .ok (.iconst 0, 1) := by decide +kernel
theorem dX9_wildest_1 : decode cX9_wildest 1 = .ok (.istore_n 1, 1) := by decide +kernel
theorem dX9_wildest_2 : decode cX9_wildest 2 = .ok (.iconst 1, 1) := by decide +kernel
theorem dX9_wildest_3 : decode cX9_wildest 3 = .ok (.istore_n 2, 1) := by decide +kernel
theorem dX9_wildest_4 : decode cX9_wildest 4 = .ok (.iload_n 2, 1) := by decide +kernel
theorem dX9_wildest_5 : decode cX9_wildest 5 = .ok (.aload_n 0, 1) := by decide +kernel
theorem dX9_wildest_6 : decode cX9_wildest 6 = .ok (.getfield 12, 3) := by decide +kernel
theorem dX9_wildest_9 : decode cX9_wildest 9 = .ok (.getfield 76, 3) := by decide +kernel
theorem dX9_wildest_12 : decode cX9_wildest 12 = .ok (.if_icmp .ge 28, 3) := by decide +kernel
theorem dX9_wildest_15 : decode cX9_wildest 15 = .ok (.aload_n 0, 1) := by decide +kernel
theorem dX9_wildest_16 : decode cX9_wildest 16 = .ok (.iload_n 2, 1) := by decide +kernel
theorem dX9_wildest_17 : decode cX9_wildest 17 = .ok (.invokevirtual 88, 3) := by decide +kernel
theorem dX9_wildest_20 : decode cX9_wildest 20 = .ok (.aload_n 0, 1) := by decide +kernel
theorem dX9_wildest_21 : decode cX9_wildest 21 = .ok (.iload_n 1, 1) := by decide +kernel
theorem dX9_wildest_22 : decode cX9_wildest 22 = .ok (.invokevirtual 88, 3) := by decide +kernel
theorem dX9_wildest_25 : decode cX9_wildest 25 = .ok (.if_icmp .le 7, 3) := by decide +kernel
theorem dX9_wildest_28 : decode cX9_wildest 28 = .ok (.iload_n 2, 1) := by decide +kernel
theorem dX9_wildest_29 : decode cX9_wildest 29 = .ok (.goto 4, 3) := by decide +kernel
theorem dX9_wildest_32 : decode cX9_wildest 32 = .ok (.iload_n 1, 1) := by decide +kernel
theorem dX9_wildest_33 : decode cX9_wildest 33 = .ok (.istore_n 1, 1) := by decide +kernel
theorem dX9_wildest_34 : decode cX9_wildest 34 = .ok (.iinc 2 1, 3) := by decide +kernel
theorem dX9_wildest_37 : decode cX9_wildest 37 = .ok (.goto (-33), 3) := by decide +kernel
theorem dX9_wildest_40 : decode cX9_wildest 40 = .ok (.iload_n 1, 1) := by decide +kernel
theorem dX9_wildest_41 : decode cX9_wildest 41 = .ok (.ireturn, 1) := by decide +kernel
theorem dX9_stillest_0 : decode cX9_stillest 0 = .ok (.iconst 0, 1) := by decide +kernel
theorem dX9_stillest_1 : decode cX9_stillest 1 = .ok (.istore_n 1, 1) := by decide +kernel
theorem dX9_stillest_2 : decode cX9_stillest 2 = .ok (.iconst 1, 1) := by decide +kernel
theorem dX9_stillest_3 : decode cX9_stillest 3 = .ok (.istore_n 2, 1) := by decide +kernel
theorem dX9_stillest_4 : decode cX9_stillest 4 = .ok (.iload_n 2, 1) := by decide +kernel
theorem dX9_stillest_5 : decode cX9_stillest 5 = .ok (.aload_n 0, 1) := by decide +kernel
theorem dX9_stillest_6 : decode cX9_stillest 6 = .ok (.getfield 12, 3) := by decide +kernel
theorem dX9_stillest_9 : decode cX9_stillest 9 = .ok (.getfield 76, 3) := by decide +kernel
theorem dX9_stillest_12 : decode cX9_stillest 12 = .ok (.if_icmp .ge 28, 3) := by decide +kernel
theorem dX9_stillest_15 : decode cX9_stillest 15 = .ok (.aload_n 0, 1) := by decide +kernel
theorem dX9_stillest_16 : decode cX9_stillest 16 = .ok (.iload_n 2, 1) := by decide +kernel
theorem dX9_stillest_17 : decode cX9_stillest 17 = .ok (.invokevirtual 88, 3) := by decide +kernel
theorem dX9_stillest_20 : decode cX9_stillest 20 = .ok (.aload_n 0, 1) := by decide +kernel
theorem dX9_stillest_21 : decode cX9_stillest 21 = .ok (.iload_n 1, 1) := by decide +kernel
theorem dX9_stillest_22 : decode cX9_stillest 22 = .ok (.invokevirtual 88, 3) := by decide +kernel
theorem dX9_stillest_25 : decode cX9_stillest 25 = .ok (.if_icmp .ge 7, 3) := by decide +kernel
theorem dX9_stillest_28 : decode cX9_stillest 28 = .ok (.iload_n 2, 1) := by decide +kernel
theorem dX9_stillest_29 : decode cX9_stillest 29 = .ok (.goto 4, 3) := by decide +kernel
theorem dX9_stillest_32 : decode cX9_stillest 32 = .ok (.iload_n 1, 1) := by decide +kernel
theorem dX9_stillest_33 : decode cX9_stillest 33 = .ok (.istore_n 1, 1) := by decide +kernel
theorem dX9_stillest_34 : decode cX9_stillest 34 = .ok (.iinc 2 1, 3) := by decide +kernel
theorem dX9_stillest_37 : decode cX9_stillest 37 = .ok (.goto (-33), 3) := by decide +kernel
theorem dX9_stillest_40 : decode cX9_stillest 40 = .ok (.iload_n 1, 1) := by decide +kernel
theorem dX9_stillest_41 : decode cX9_stillest 41 = .ok (.ireturn, 1) := by decide +kernel
theorem dX9_whole_0 : decode cX9_whole 0 = .ok (.iconst 0, 1) := by decide +kernel
theorem dX9_whole_1 : decode cX9_whole 1 = .ok (.istore_n 1, 1) := by decide +kernel
theorem dX9_whole_2 : decode cX9_whole 2 = .ok (.iconst 0, 1) := by decide +kernel
theorem dX9_whole_3 : decode cX9_whole 3 = .ok (.istore_n 2, 1) := by decide +kernel
theorem dX9_whole_4 : decode cX9_whole 4 = .ok (.iload_n 2, 1) := by decide +kernel
theorem dX9_whole_5 : decode cX9_whole 5 = .ok (.aload_n 0, 1) := by decide +kernel
theorem dX9_whole_6 : decode cX9_whole 6 = .ok (.getfield 12, 3) := by decide +kernel
theorem dX9_whole_9 : decode cX9_whole 9 = .ok (.getfield 76, 3) := by decide +kernel
theorem dX9_whole_12 : decode cX9_whole 12 = .ok (.if_icmp .ge 24, 3) := by decide +kernel
theorem dX9_whole_15 : decode cX9_whole 15 = .ok (.iload_n 2, 1) := by decide +kernel
theorem dX9_whole_16 : decode cX9_whole 16 = .ok (.bipush 16, 2) := by decide +kernel
theorem dX9_whole_18 : decode cX9_whole 18 = .ok (.if_icmp .ge 18, 3) := by decide +kernel
theorem dX9_whole_21 : decode cX9_whole 21 = .ok (.iload_n 1, 1) := by decide +kernel
theorem dX9_whole_22 : decode cX9_whole 22 = .ok (.aload_n 0, 1) := by decide +kernel
theorem dX9_whole_23 : decode cX9_whole 23 = .ok (.getfield 25, 3) := by decide +kernel
theorem dX9_whole_26 : decode cX9_whole 26 = .ok (.iload_n 2, 1) := by decide +kernel
theorem dX9_whole_27 : decode cX9_whole 27 = .ok (.iaload, 1) := by decide +kernel
theorem dX9_whole_28 : decode cX9_whole 28 = .ok (.iadd, 1) := by decide +kernel
theorem dX9_whole_29 : decode cX9_whole 29 = .ok (.istore_n 1, 1) := by decide +kernel
theorem dX9_whole_30 : decode cX9_whole 30 = .ok (.iinc 2 1, 3) := by decide +kernel
theorem dX9_whole_33 : decode cX9_whole 33 = .ok (.goto (-29), 3) := by decide +kernel
theorem dX9_whole_36 : decode cX9_whole 36 = .ok (.iload_n 1, 1) := by decide +kernel
theorem dX9_whole_37 : decode cX9_whole 37 = .ok (.ireturn, 1) := by decide +kernel
theorem dX9_fact_0 : decode cX9_fact 0 = .ok (.aload_n 0, 1) := by decide +kernel
theorem dX9_fact_1 : decode cX9_fact 1 = .ok (.getfield 12, 3) := by decide +kernel
theorem dX9_fact_4 : decode cX9_fact 4 = .ok (.iload_n 1, 1) := by decide +kernel
theorem dX9_fact_5 : decode cX9_fact 5 = .ok (.invokevirtual 56, 3) := by decide +kernel
theorem dX9_fact_8 : decode cX9_fact 8 = .ok (.ifCond .ne 5, 3) := by decide +kernel
theorem dX9_fact_11 : decode cX9_fact 11 = .ok (.iconst 0, 1) := by decide +kernel
theorem dX9_fact_12 : decode cX9_fact 12 = .ok (.ireturn, 1) := by decide +kernel
theorem dX9_fact_13 : decode cX9_fact 13 = .ok (.iload_n 2, 1) := by decide +kernel
theorem dX9_fact_14 : decode cX9_fact 14 = .ok (.lookupswitch 40 #[(0, 26), (1, 33)], 26) := by decide +kernel
theorem dX9_fact_40 : decode cX9_fact 40 = .ok (.aload_n 0, 1) := by decide +kernel
theorem dX9_fact_41 : decode cX9_fact 41 = .ok (.getfield 25, 3) := by decide +kernel
theorem dX9_fact_44 : decode cX9_fact 44 = .ok (.iload_n 1, 1) := by decide +kernel
theorem dX9_fact_45 : decode cX9_fact 45 = .ok (.iaload, 1) := by decide +kernel
theorem dX9_fact_46 : decode cX9_fact 46 = .ok (.ireturn, 1) := by decide +kernel
theorem dX9_fact_47 : decode cX9_fact 47 = .ok (.aload_n 0, 1) := by decide +kernel
theorem dX9_fact_48 : decode cX9_fact 48 = .ok (.getfield 29, 3) := by decide +kernel
theorem dX9_fact_51 : decode cX9_fact 51 = .ok (.iload_n 1, 1) := by decide +kernel
theorem dX9_fact_52 : decode cX9_fact 52 = .ok (.iaload, 1) := by decide +kernel
theorem dX9_fact_53 : decode cX9_fact 53 = .ok (.ireturn, 1) := by decide +kernel
theorem dX9_fact_54 : decode cX9_fact 54 = .ok (.aload_n 0, 1) := by decide +kernel
theorem dX9_fact_55 : decode cX9_fact 55 = .ok (.iload_n 1, 1) := by decide +kernel
theorem dX9_fact_56 : decode cX9_fact 56 = .ok (.invokevirtual 88, 3) := by decide +kernel
theorem dX9_fact_59 : decode cX9_fact 59 = .ok (.ireturn, 1) := by decide +kernel
theorem dX10_init_0 : decode cX10_init 0 = .ok (.aload_n 0, 1) := by decide +kernel
theorem dX10_init_1 : decode cX10_init 1 = .ok (.invokespecial 1, 3) := by decide +kernel
theorem dX10_init_4 : decode cX10_init 4 = .ok (.aload_n 0, 1) := by decide +kernel
theorem dX10_init_5 : decode cX10_init 5 = .ok (.iconst 0, 1) := by decide +kernel
theorem dX10_init_6 : decode cX10_init 6 = .ok (.putfield 7, 3) := by decide +kernel
theorem dX10_init_9 : decode cX10_init 9 = .ok (.aload_n 0, 1) := by decide +kernel
theorem dX10_init_10 : decode cX10_init 10 = .ok (.iconst 0, 1) := by decide +kernel
theorem dX10_init_11 : decode cX10_init 11 = .ok (.putfield 13, 3) := by decide +kernel
theorem dX10_init_14 : decode cX10_init 14 = .ok (.aload_n 0, 1) := by decide +kernel
theorem dX10_init_15 : decode cX10_init 15 = .ok (.iconst 0, 1) := by decide +kernel
theorem dX10_init_16 : decode cX10_init 16 = .ok (.putfield 16, 3) := by decide +kernel
theorem dX10_init_19 : decode cX10_init 19 = .ok (.aload_n 0, 1) := by decide +kernel
theorem dX10_init_20 : decode cX10_init 20 = .ok (.iconst 0, 1) := by decide +kernel
theorem dX10_init_21 : decode cX10_init 21 = .ok (.putfield 19, 3) := by decide +kernel
theorem dX10_init_24 : decode cX10_init 24 = .ok (.return_, 1) := by decide +kernel
theorem dX10_plan_0 : decode cX10_plan 0 = .ok (.aload_n 0, 1) := by decide +kernel
theorem dX10_plan_1 : decode cX10_plan 1 = .ok (.iload_n 1, 1) := by decide +kernel
theorem dX10_plan_2 : decode cX10_plan 2 = .ok (.putfield 7, 3) := by decide +kernel
theorem dX10_plan_5 : decode cX10_plan 5 = .ok (.aload_n 0, 1) := by decide +kernel
theorem dX10_plan_6 : decode cX10_plan 6 = .ok (.iload_n 2, 1) := by decide +kernel
theorem dX10_plan_7 : decode cX10_plan 7 = .ok (.putfield 13, 3) := by decide +kernel
theorem dX10_plan_10 : decode cX10_plan 10 = .ok (.aload_n 0, 1) := by decide +kernel
theorem dX10_plan_11 : decode cX10_plan 11 = .ok (.iload_n 3, 1) := by decide +kernel
theorem dX10_plan_12 : decode cX10_plan 12 = .ok (.putfield 16, 3) := by decide +kernel
theorem dX10_plan_15 : decode cX10_plan 15 = .ok (.aload_n 0, 1) := by decide +kernel
theorem dX10_plan_16 : decode cX10_plan 16 = .ok (.iload 4, 2) := by decide +kernel
theorem dX10_plan_18 : decode cX10_plan 18 = .ok (.putfield 19, 3) := by decide +kernel
theorem dX10_plan_21 : decode cX10_plan 21 = .ok (.return_, 1) := by decide +kernel
theorem dX10_change_0 : decode cX10_change 0 = .ok (.aload_n 0, 1) := by decide +kernel
theorem dX10_change_1 : decode cX10_change 1 = .ok (.getfield 7, 3) := by decide +kernel
theorem dX10_change_4 : decode cX10_change 4 = .ok (.tableswitch 96 0 4 #[36, 47, 58, 69, 81], 36) := by decide +kernel
theorem dX10_change_40 : decode cX10_change 40 = .ok (.aload_n 1, 1) := by decide +kernel
theorem dX10_change_41 : decode cX10_change 41 = .ok (.aload_n 0, 1) := by decide +kernel
theorem dX10_change_42 : decode cX10_change 42 = .ok (.getfield 13, 3) := by decide +kernel
theorem dX10_change_45 : decode cX10_change 45 = .ok (.invokevirtual 22, 3) := by decide +kernel
theorem dX10_change_48 : decode cX10_change 48 = .ok (.goto 65, 3) := by decide +kernel
theorem dX10_change_51 : decode cX10_change 51 = .ok (.aload_n 1, 1) := by decide +kernel
theorem dX10_change_52 : decode cX10_change 52 = .ok (.aload_n 0, 1) := by decide +kernel
theorem dX10_change_53 : decode cX10_change 53 = .ok (.getfield 13, 3) := by decide +kernel
theorem dX10_change_56 : decode cX10_change 56 = .ok (.invokevirtual 28, 3) := by decide +kernel
theorem dX10_change_59 : decode cX10_change 59 = .ok (.goto 54, 3) := by decide +kernel
theorem dX10_change_62 : decode cX10_change 62 = .ok (.aload_n 1, 1) := by decide +kernel
theorem dX10_change_63 : decode cX10_change 63 = .ok (.aload_n 0, 1) := by decide +kernel
theorem dX10_change_64 : decode cX10_change 64 = .ok (.getfield 16, 3) := by decide +kernel
theorem dX10_change_67 : decode cX10_change 67 = .ok (.invokevirtual 31, 3) := by decide +kernel
theorem dX10_change_70 : decode cX10_change 70 = .ok (.goto 43, 3) := by decide +kernel
theorem dX10_change_73 : decode cX10_change 73 = .ok (.aload_n 1, 1) := by decide +kernel
theorem dX10_change_74 : decode cX10_change 74 = .ok (.aload_n 0, 1) := by decide +kernel
theorem dX10_change_75 : decode cX10_change 75 = .ok (.getfield 16, 3) := by decide +kernel
theorem dX10_change_78 : decode cX10_change 78 = .ok (.ineg, 1) := by decide +kernel
theorem dX10_change_79 : decode cX10_change 79 = .ok (.invokevirtual 31, 3) := by decide +kernel
theorem dX10_change_82 : decode cX10_change 82 = .ok (.goto 31, 3) := by decide +kernel
theorem dX10_change_85 : decode cX10_change 85 = .ok (.aload_n 1, 1) := by decide +kernel
theorem dX10_change_86 : decode cX10_change 86 = .ok (.aload_n 0, 1) := by decide +kernel
theorem dX10_change_87 : decode cX10_change 87 = .ok (.getfield 13, 3) := by decide +kernel
theorem dX10_change_90 : decode cX10_change 90 = .ok (.aload_n 0, 1) := by decide +kernel
theorem dX10_change_91 : decode cX10_change 91 = .ok (.getfield 16, 3) := by decide +kernel
theorem dX10_change_94 : decode cX10_change 94 = .ok (.invokevirtual 34, 3) := by decide +kernel
theorem dX10_change_97 : decode cX10_change 97 = .ok (.goto 16, 3) := by decide +kernel
theorem dX10_change_100 : decode cX10_change 100 = .ok (.aload_n 1, 1) := by decide +kernel
theorem dX10_change_101 : decode cX10_change 101 = .ok (.aload_n 0, 1) := by decide +kernel
theorem dX10_change_102 : decode cX10_change 102 = .ok (.getfield 13, 3) := by decide +kernel
theorem dX10_change_105 : decode cX10_change 105 = .ok (.aload_n 0, 1) := by decide +kernel
theorem dX10_change_106 : decode cX10_change 106 = .ok (.getfield 16, 3) := by decide +kernel
theorem dX10_change_109 : decode cX10_change 109 = .ok (.ineg, 1) := by decide +kernel
theorem dX10_change_110 : decode cX10_change 110 = .ok (.invokevirtual 34, 3) := by decide +kernel
theorem dX10_change_113 : decode cX10_change 113 = .ok (.return_, 1) := by decide +kernel
theorem dX10_mixInto_0 : decode cX10_mixInto 0 = .ok (.lload_n 1, 1) := by decide +kernel
theorem dX10_mixInto_1 : decode cX10_mixInto 1 = .ok (.aload_n 0, 1) := by decide +kernel
theorem dX10_mixInto_2 : decode cX10_mixInto 2 = .ok (.getfield 7, 3) := by decide +kernel
theorem dX10_mixInto_5 : decode cX10_mixInto 5 = .ok (.i2l, 1) := by decide +kernel
theorem dX10_mixInto_6 : decode cX10_mixInto 6 = .ok (.invokestatic 38, 3) := by decide +kernel
theorem dX10_mixInto_9 : decode cX10_mixInto 9 = .ok (.aload_n 0, 1) := by decide +kernel
theorem dX10_mixInto_10 : decode cX10_mixInto 10 = .ok (.getfield 13, 3) := by decide +kernel
theorem dX10_mixInto_13 : decode cX10_mixInto 13 = .ok (.i2l, 1) := by decide +kernel
theorem dX10_mixInto_14 : decode cX10_mixInto 14 = .ok (.invokestatic 38, 3) := by decide +kernel
theorem dX10_mixInto_17 : decode cX10_mixInto 17 = .ok (.aload_n 0, 1) := by decide +kernel
theorem dX10_mixInto_18 : decode cX10_mixInto 18 = .ok (.getfield 16, 3) := by decide +kernel
theorem dX10_mixInto_21 : decode cX10_mixInto 21 = .ok (.i2l, 1) := by decide +kernel
theorem dX10_mixInto_22 : decode cX10_mixInto 22 = .ok (.invokestatic 38, 3) := by decide +kernel
theorem dX10_mixInto_25 : decode cX10_mixInto 25 = .ok (.aload_n 0, 1) := by decide +kernel
theorem dX10_mixInto_26 : decode cX10_mixInto 26 = .ok (.getfield 19, 3) := by decide +kernel
theorem dX10_mixInto_29 : decode cX10_mixInto 29 = .ok (.i2l, 1) := by decide +kernel
theorem dX10_mixInto_30 : decode cX10_mixInto 30 = .ok (.invokestatic 38, 3) := by decide +kernel
theorem dX10_mixInto_33 : decode cX10_mixInto 33 = .ok (.lreturn, 1) := by decide +kernel
theorem dX11_init_0 : decode cX11_init 0 = .ok (.aload_n 0, 1) := by decide +kernel
theorem dX11_init_1 : decode cX11_init 1 = .ok (.invokespecial 1, 3) := by decide +kernel
theorem dX11_init_4 : decode cX11_init 4 = .ok (.aload_n 0, 1) := by decide +kernel
theorem dX11_init_5 : decode cX11_init 5 = .ok (.bipush 6, 2) := by decide +kernel
theorem dX11_init_7 : decode cX11_init 7 = .ok (.anewarray 9, 3) := by decide +kernel
theorem dX11_init_10 : decode cX11_init 10 = .ok (.putfield 11, 3) := by decide +kernel
theorem dX11_init_13 : decode cX11_init 13 = .ok (.aload_n 0, 1) := by decide +kernel
theorem dX11_init_14 : decode cX11_init 14 = .ok (.iconst 4, 1) := by decide +kernel
theorem dX11_init_15 : decode cX11_init 15 = .ok (.anewarray 15, 3) := by decide +kernel
theorem dX11_init_18 : decode cX11_init 18 = .ok (.putfield 17, 3) := by decide +kernel
theorem dX11_init_21 : decode cX11_init 21 = .ok (.aload_n 0, 1) := by decide +kernel
theorem dX11_init_22 : decode cX11_init 22 = .ok (.iconst 4, 1) := by decide +kernel
theorem dX11_init_23 : decode cX11_init 23 = .ok (.anewarray 21, 3) := by decide +kernel
theorem dX11_init_26 : decode cX11_init 26 = .ok (.putfield 23, 3) := by decide +kernel
theorem dX11_init_29 : decode cX11_init 29 = .ok (.aload_n 0, 1) := by decide +kernel
theorem dX11_init_30 : decode cX11_init 30 = .ok (.iconst 4, 1) := by decide +kernel
theorem dX11_init_31 : decode cX11_init 31 = .ok (.anewarray 27, 3) := by decide +kernel
theorem dX11_init_34 : decode cX11_init 34 = .ok (.putfield 29, 3) := by decide +kernel
theorem dX11_init_37 : decode cX11_init 37 = .ok (.aload_n 0, 1) := by decide +kernel
theorem dX11_init_38 : decode cX11_init 38 = .ok (.iconst 3, 1) := by decide +kernel
theorem dX11_init_39 : decode cX11_init 39 = .ok (.anewarray 33, 3) := by decide +kernel
theorem dX11_init_42 : decode cX11_init 42 = .ok (.putfield 35, 3) := by decide +kernel
theorem dX11_init_45 : decode cX11_init 45 = .ok (.aload_n 0, 1) := by decide +kernel
theorem dX11_init_46 : decode cX11_init 46 = .ok (.iconst 5, 1) := by decide +kernel
theorem dX11_init_47 : decode cX11_init 47 = .ok (.anewarray 39, 3) := by decide +kernel
theorem dX11_init_50 : decode cX11_init 50 = .ok (.putfield 41, 3) := by decide +kernel
theorem dX11_init_53 : decode cX11_init 53 = .ok (.aload_n 0, 1) := by decide +kernel
theorem dX11_init_54 : decode cX11_init 54 = .ok (.iconst 3, 1) := by decide +kernel
theorem dX11_init_55 : decode cX11_init 55 = .ok (.anewarray 45, 3) := by decide +kernel
theorem dX11_init_58 : decode cX11_init 58 = .ok (.putfield 47, 3) := by decide +kernel
theorem dX11_init_61 : decode cX11_init 61 = .ok (.aload_n 0, 1) := by decide +kernel
theorem dX11_init_62 : decode cX11_init 62 = .ok (.new 45, 3) := by decide +kernel
theorem dX11_init_65 : decode cX11_init 65 = .ok (.dup, 1) := by decide +kernel
theorem dX11_init_66 : decode cX11_init 66 = .ok (.iconst 3, 1) := by decide +kernel
theorem dX11_init_67 : decode cX11_init 67 = .ok (.invokespecial 51, 3) := by decide +kernel
theorem dX11_init_70 : decode cX11_init 70 = .ok (.putfield 54, 3) := by decide +kernel
theorem dX11_init_73 : decode cX11_init 73 = .ok (.aload_n 0, 1) := by decide +kernel
theorem dX11_init_74 : decode cX11_init 74 = .ok (.new 45, 3) := by decide +kernel
theorem dX11_init_77 : decode cX11_init 77 = .ok (.dup, 1) := by decide +kernel
theorem dX11_init_78 : decode cX11_init 78 = .ok (.bipush 48, 2) := by decide +kernel
theorem dX11_init_80 : decode cX11_init 80 = .ok (.invokespecial 51, 3) := by decide +kernel
theorem dX11_init_83 : decode cX11_init 83 = .ok (.putfield 58, 3) := by decide +kernel
theorem dX11_init_86 : decode cX11_init 86 = .ok (.aload_n 0, 1) := by decide +kernel
theorem dX11_init_87 : decode cX11_init 87 = .ok (.new 61, 3) := by decide +kernel
theorem dX11_init_90 : decode cX11_init 90 = .ok (.dup, 1) := by decide +kernel
theorem dX11_init_91 : decode cX11_init 91 = .ok (.invokespecial 63, 3) := by decide +kernel
theorem dX11_init_94 : decode cX11_init 94 = .ok (.putfield 64, 3) := by decide +kernel
theorem dX11_init_97 : decode cX11_init 97 = .ok (.aload_n 0, 1) := by decide +kernel
theorem dX11_init_98 : decode cX11_init 98 = .ok (.new 21, 3) := by decide +kernel
theorem dX11_init_101 : decode cX11_init 101 = .ok (.dup, 1) := by decide +kernel
theorem dX11_init_102 : decode cX11_init 102 = .ok (.invokespecial 68, 3) := by decide +kernel
theorem dX11_init_105 : decode cX11_init 105 = .ok (.putfield 69, 3) := by decide +kernel
theorem dX11_init_108 : decode cX11_init 108 = .ok (.aload_n 0, 1) := by decide +kernel
theorem dX11_init_109 : decode cX11_init 109 = .ok (.new 27, 3) := by decide +kernel
theorem dX11_init_112 : decode cX11_init 112 = .ok (.dup, 1) := by decide +kernel
theorem dX11_init_113 : decode cX11_init 113 = .ok (.invokespecial 73, 3) := by decide +kernel
theorem dX11_init_116 : decode cX11_init 116 = .ok (.putfield 74, 3) := by decide +kernel
theorem dX11_init_119 : decode cX11_init 119 = .ok (.aload_n 0, 1) := by decide +kernel
theorem dX11_init_120 : decode cX11_init 120 = .ok (.new 33, 3) := by decide +kernel
theorem dX11_init_123 : decode cX11_init 123 = .ok (.dup, 1) := by decide +kernel
theorem dX11_init_124 : decode cX11_init 124 = .ok (.invokespecial 78, 3) := by decide +kernel
theorem dX11_init_127 : decode cX11_init 127 = .ok (.putfield 79, 3) := by decide +kernel
theorem dX11_init_130 : decode cX11_init 130 = .ok (.aload_n 0, 1) := by decide +kernel
theorem dX11_init_131 : decode cX11_init 131 = .ok (.new 83, 3) := by decide +kernel
theorem dX11_init_134 : decode cX11_init 134 = .ok (.dup, 1) := by decide +kernel
theorem dX11_init_135 : decode cX11_init 135 = .ok (.invokespecial 85, 3) := by decide +kernel
theorem dX11_init_138 : decode cX11_init 138 = .ok (.putfield 86, 3) := by decide +kernel
theorem dX11_init_141 : decode cX11_init 141 = .ok (.aload_n 0, 1) := by decide +kernel
theorem dX11_init_142 : decode cX11_init 142 = .ok (.iconst 3, 1) := by decide +kernel
theorem dX11_init_143 : decode cX11_init 143 = .ok (.newarray .int, 2) := by decide +kernel
theorem dX11_init_145 : decode cX11_init 145 = .ok (.putfield 90, 3) := by decide +kernel
theorem dX11_init_148 : decode cX11_init 148 = .ok (.aload_n 0, 1) := by decide +kernel
theorem dX11_init_149 : decode cX11_init 149 = .ok (.bipush 6, 2) := by decide +kernel
theorem dX11_init_151 : decode cX11_init 151 = .ok (.newarray .int, 2) := by decide +kernel
theorem dX11_init_153 : decode cX11_init 153 = .ok (.putfield 94, 3) := by decide +kernel
theorem dX11_init_156 : decode cX11_init 156 = .ok (.aload_n 0, 1) := by decide +kernel
theorem dX11_init_157 : decode cX11_init 157 = .ok (.iconst 0, 1) := by decide +kernel
theorem dX11_init_158 : decode cX11_init 158 = .ok (.putfield 97, 3) := by decide +kernel
theorem dX11_init_161 : decode cX11_init 161 = .ok (.aload_n 0, 1) := by decide +kernel
theorem dX11_init_162 : decode cX11_init 162 = .ok (.iconst 0, 1) := by decide +kernel
theorem dX11_init_163 : decode cX11_init 163 = .ok (.putfield 101, 3) := by decide +kernel
theorem dX11_init_166 : decode cX11_init 166 = .ok (.aload_n 0, 1) := by decide +kernel
theorem dX11_init_167 : decode cX11_init 167 = .ok (.iconst 0, 1) := by decide +kernel
theorem dX11_init_168 : decode cX11_init 168 = .ok (.putfield 104, 3) := by decide +kernel
theorem dX11_init_171 : decode cX11_init 171 = .ok (.aload_n 0, 1) := by decide +kernel
theorem dX11_init_172 : decode cX11_init 172 = .ok (.new 107, 3) := by decide +kernel
theorem dX11_init_175 : decode cX11_init 175 = .ok (.dup, 1) := by decide +kernel
theorem dX11_init_176 : decode cX11_init 176 = .ok (.invokespecial 109, 3) := by decide +kernel
theorem dX11_init_179 : decode cX11_init 179 = .ok (.putfield 110, 3) := by decide +kernel
theorem dX11_init_182 : decode cX11_init 182 = .ok (.iconst 0, 1) := by decide +kernel
theorem dX11_init_183 : decode cX11_init 183 = .ok (.istore_n 1, 1) := by decide +kernel
theorem dX11_init_184 : decode cX11_init 184 = .ok (.iload_n 1, 1) := by decide +kernel
theorem dX11_init_185 : decode cX11_init 185 = .ok (.bipush 6, 2) := by decide +kernel
theorem dX11_init_187 : decode cX11_init 187 = .ok (.if_icmp .ge 22, 3) := by decide +kernel
theorem dX11_init_190 : decode cX11_init 190 = .ok (.aload_n 0, 1) := by decide +kernel
theorem dX11_init_191 : decode cX11_init 191 = .ok (.getfield 11, 3) := by decide +kernel
theorem dX11_init_194 : decode cX11_init 194 = .ok (.iload_n 1, 1) := by decide +kernel
theorem dX11_init_195 : decode cX11_init 195 = .ok (.new 9, 3) := by decide +kernel
theorem dX11_init_198 : decode cX11_init 198 = .ok (.dup, 1) := by decide +kernel
theorem dX11_init_199 : decode cX11_init 199 = .ok (.invokespecial 114, 3) := by decide +kernel
theorem dX11_init_202 : decode cX11_init 202 = .ok (.aastore, 1) := by decide +kernel
theorem dX11_init_203 : decode cX11_init 203 = .ok (.iinc 1 1, 3) := by decide +kernel
theorem dX11_init_206 : decode cX11_init 206 = .ok (.goto (-22), 3) := by decide +kernel
theorem dX11_init_209 : decode cX11_init 209 = .ok (.iconst 0, 1) := by decide +kernel
theorem dX11_init_210 : decode cX11_init 210 = .ok (.istore_n 1, 1) := by decide +kernel
theorem dX11_init_211 : decode cX11_init 211 = .ok (.iload_n 1, 1) := by decide +kernel
theorem dX11_init_212 : decode cX11_init 212 = .ok (.iconst 4, 1) := by decide +kernel
theorem dX11_init_213 : decode cX11_init 213 = .ok (.if_icmp .ge 22, 3) := by decide +kernel
theorem dX11_init_216 : decode cX11_init 216 = .ok (.aload_n 0, 1) := by decide +kernel
theorem dX11_init_217 : decode cX11_init 217 = .ok (.getfield 17, 3) := by decide +kernel
theorem dX11_init_220 : decode cX11_init 220 = .ok (.iload_n 1, 1) := by decide +kernel
theorem dX11_init_221 : decode cX11_init 221 = .ok (.new 15, 3) := by decide +kernel
theorem dX11_init_224 : decode cX11_init 224 = .ok (.dup, 1) := by decide +kernel
theorem dX11_init_225 : decode cX11_init 225 = .ok (.invokespecial 115, 3) := by decide +kernel
theorem dX11_init_228 : decode cX11_init 228 = .ok (.aastore, 1) := by decide +kernel
theorem dX11_init_229 : decode cX11_init 229 = .ok (.iinc 1 1, 3) := by decide +kernel
theorem dX11_init_232 : decode cX11_init 232 = .ok (.goto (-21), 3) := by decide +kernel
theorem dX11_init_235 : decode cX11_init 235 = .ok (.iconst 0, 1) := by decide +kernel
theorem dX11_init_236 : decode cX11_init 236 = .ok (.istore_n 1, 1) := by decide +kernel
theorem dX11_init_237 : decode cX11_init 237 = .ok (.iload_n 1, 1) := by decide +kernel
theorem dX11_init_238 : decode cX11_init 238 = .ok (.iconst 4, 1) := by decide +kernel
theorem dX11_init_239 : decode cX11_init 239 = .ok (.if_icmp .ge 22, 3) := by decide +kernel
theorem dX11_init_242 : decode cX11_init 242 = .ok (.aload_n 0, 1) := by decide +kernel
theorem dX11_init_243 : decode cX11_init 243 = .ok (.getfield 23, 3) := by decide +kernel
theorem dX11_init_246 : decode cX11_init 246 = .ok (.iload_n 1, 1) := by decide +kernel
theorem dX11_init_247 : decode cX11_init 247 = .ok (.new 21, 3) := by decide +kernel
theorem dX11_init_250 : decode cX11_init 250 = .ok (.dup, 1) := by decide +kernel
theorem dX11_init_251 : decode cX11_init 251 = .ok (.invokespecial 68, 3) := by decide +kernel
theorem dX11_init_254 : decode cX11_init 254 = .ok (.aastore, 1) := by decide +kernel
theorem dX11_init_255 : decode cX11_init 255 = .ok (.iinc 1 1, 3) := by decide +kernel
theorem dX11_init_258 : decode cX11_init 258 = .ok (.goto (-21), 3) := by decide +kernel
theorem dX11_init_261 : decode cX11_init 261 = .ok (.iconst 0, 1) := by decide +kernel
theorem dX11_init_262 : decode cX11_init 262 = .ok (.istore_n 1, 1) := by decide +kernel
theorem dX11_init_263 : decode cX11_init 263 = .ok (.iload_n 1, 1) := by decide +kernel
theorem dX11_init_264 : decode cX11_init 264 = .ok (.iconst 4, 1) := by decide +kernel
theorem dX11_init_265 : decode cX11_init 265 = .ok (.if_icmp .ge 22, 3) := by decide +kernel
theorem dX11_init_268 : decode cX11_init 268 = .ok (.aload_n 0, 1) := by decide +kernel
theorem dX11_init_269 : decode cX11_init 269 = .ok (.getfield 29, 3) := by decide +kernel
theorem dX11_init_272 : decode cX11_init 272 = .ok (.iload_n 1, 1) := by decide +kernel
theorem dX11_init_273 : decode cX11_init 273 = .ok (.new 27, 3) := by decide +kernel
theorem dX11_init_276 : decode cX11_init 276 = .ok (.dup, 1) := by decide +kernel
theorem dX11_init_277 : decode cX11_init 277 = .ok (.invokespecial 73, 3) := by decide +kernel
theorem dX11_init_280 : decode cX11_init 280 = .ok (.aastore, 1) := by decide +kernel
theorem dX11_init_281 : decode cX11_init 281 = .ok (.iinc 1 1, 3) := by decide +kernel
theorem dX11_init_284 : decode cX11_init 284 = .ok (.goto (-21), 3) := by decide +kernel
theorem dX11_init_287 : decode cX11_init 287 = .ok (.iconst 0, 1) := by decide +kernel
theorem dX11_init_288 : decode cX11_init 288 = .ok (.istore_n 1, 1) := by decide +kernel
theorem dX11_init_289 : decode cX11_init 289 = .ok (.iload_n 1, 1) := by decide +kernel
theorem dX11_init_290 : decode cX11_init 290 = .ok (.iconst 3, 1) := by decide +kernel
theorem dX11_init_291 : decode cX11_init 291 = .ok (.if_icmp .ge 22, 3) := by decide +kernel
theorem dX11_init_294 : decode cX11_init 294 = .ok (.aload_n 0, 1) := by decide +kernel
theorem dX11_init_295 : decode cX11_init 295 = .ok (.getfield 35, 3) := by decide +kernel
theorem dX11_init_298 : decode cX11_init 298 = .ok (.iload_n 1, 1) := by decide +kernel
theorem dX11_init_299 : decode cX11_init 299 = .ok (.new 33, 3) := by decide +kernel
theorem dX11_init_302 : decode cX11_init 302 = .ok (.dup, 1) := by decide +kernel
theorem dX11_init_303 : decode cX11_init 303 = .ok (.invokespecial 78, 3) := by decide +kernel
theorem dX11_init_306 : decode cX11_init 306 = .ok (.aastore, 1) := by decide +kernel
theorem dX11_init_307 : decode cX11_init 307 = .ok (.iinc 1 1, 3) := by decide +kernel
theorem dX11_init_310 : decode cX11_init 310 = .ok (.goto (-21), 3) := by decide +kernel
theorem dX11_init_313 : decode cX11_init 313 = .ok (.iconst 0, 1) := by decide +kernel
theorem dX11_init_314 : decode cX11_init 314 = .ok (.istore_n 1, 1) := by decide +kernel
theorem dX11_init_315 : decode cX11_init 315 = .ok (.iload_n 1, 1) := by decide +kernel
theorem dX11_init_316 : decode cX11_init 316 = .ok (.iconst 5, 1) := by decide +kernel
theorem dX11_init_317 : decode cX11_init 317 = .ok (.if_icmp .ge 22, 3) := by decide +kernel
theorem dX11_init_320 : decode cX11_init 320 = .ok (.aload_n 0, 1) := by decide +kernel
theorem dX11_init_321 : decode cX11_init 321 = .ok (.getfield 41, 3) := by decide +kernel
theorem dX11_init_324 : decode cX11_init 324 = .ok (.iload_n 1, 1) := by decide +kernel
theorem dX11_init_325 : decode cX11_init 325 = .ok (.new 39, 3) := by decide +kernel
theorem dX11_init_328 : decode cX11_init 328 = .ok (.dup, 1) := by decide +kernel
theorem dX11_init_329 : decode cX11_init 329 = .ok (.invokespecial 116, 3) := by decide +kernel
theorem dX11_init_332 : decode cX11_init 332 = .ok (.aastore, 1) := by decide +kernel
theorem dX11_init_333 : decode cX11_init 333 = .ok (.iinc 1 1, 3) := by decide +kernel
theorem dX11_init_336 : decode cX11_init 336 = .ok (.goto (-21), 3) := by decide +kernel
theorem dX11_init_339 : decode cX11_init 339 = .ok (.iconst 0, 1) := by decide +kernel
theorem dX11_init_340 : decode cX11_init 340 = .ok (.istore_n 1, 1) := by decide +kernel
theorem dX11_init_341 : decode cX11_init 341 = .ok (.iload_n 1, 1) := by decide +kernel
theorem dX11_init_342 : decode cX11_init 342 = .ok (.iconst 3, 1) := by decide +kernel
theorem dX11_init_343 : decode cX11_init 343 = .ok (.if_icmp .ge 23, 3) := by decide +kernel
theorem dX11_init_346 : decode cX11_init 346 = .ok (.aload_n 0, 1) := by decide +kernel
theorem dX11_init_347 : decode cX11_init 347 = .ok (.getfield 47, 3) := by decide +kernel
theorem dX11_init_350 : decode cX11_init 350 = .ok (.iload_n 1, 1) := by decide +kernel
theorem dX11_init_351 : decode cX11_init 351 = .ok (.new 45, 3) := by decide +kernel
theorem dX11_init_354 : decode cX11_init 354 = .ok (.dup, 1) := by decide +kernel
theorem dX11_init_355 : decode cX11_init 355 = .ok (.iconst 3, 1) := by decide +kernel
theorem dX11_init_356 : decode cX11_init 356 = .ok (.invokespecial 51, 3) := by decide +kernel
theorem dX11_init_359 : decode cX11_init 359 = .ok (.aastore, 1) := by decide +kernel
theorem dX11_init_360 : decode cX11_init 360 = .ok (.iinc 1 1, 3) := by decide +kernel
theorem dX11_init_363 : decode cX11_init 363 = .ok (.goto (-22), 3) := by decide +kernel
theorem dX11_init_366 : decode cX11_init 366 = .ok (.return_, 1) := by decide +kernel
theorem dX11_within_0 : decode cX11_within 0 = .ok (.iload_n 0, 1) := by decide +kernel
theorem dX11_within_1 : decode cX11_within 1 = .ok (.iload_n 1, 1) := by decide +kernel
theorem dX11_within_2 : decode cX11_within 2 = .ok (.if_icmp .lt 12, 3) := by decide +kernel
theorem dX11_within_5 : decode cX11_within 5 = .ok (.iload_n 0, 1) := by decide +kernel
theorem dX11_within_6 : decode cX11_within 6 = .ok (.iload_n 2, 1) := by decide +kernel
theorem dX11_within_7 : decode cX11_within 7 = .ok (.if_icmp .gt 7, 3) := by decide +kernel
theorem dX11_within_10 : decode cX11_within 10 = .ok (.iconst 1, 1) := by decide +kernel
theorem dX11_within_11 : decode cX11_within 11 = .ok (.goto 4, 3) := by decide +kernel
theorem dX11_within_14 : decode cX11_within 14 = .ok (.iconst 0, 1) := by decide +kernel
theorem dX11_within_15 : decode cX11_within 15 = .ok (.ireturn, 1) := by decide +kernel
theorem dX11_isRow_0 : decode cX11_isRow 0 = .ok (.iload_n 0, 1) := by decide +kernel
theorem dX11_isRow_1 : decode cX11_isRow 1 = .ok (.iconst 0, 1) := by decide +kernel
theorem dX11_isRow_2 : decode cX11_isRow 2 = .ok (.iconst 5, 1) := by decide +kernel
theorem dX11_isRow_3 : decode cX11_isRow 3 = .ok (.invokestatic 117, 3) := by decide +kernel
theorem dX11_isRow_6 : decode cX11_isRow 6 = .ok (.ireturn, 1) := by decide +kernel
theorem dX11_isText_0 : decode cX11_isText 0 = .ok (.iload_n 0, 1) := by decide +kernel
theorem dX11_isText_1 : decode cX11_isText 1 = .ok (.iconst 0, 1) := by decide +kernel
theorem dX11_isText_2 : decode cX11_isText 2 = .ok (.iconst 3, 1) := by decide +kernel
theorem dX11_isText_3 : decode cX11_isText 3 = .ok (.invokestatic 117, 3) := by decide +kernel
theorem dX11_isText_6 : decode cX11_isText 6 = .ok (.ireturn, 1) := by decide +kernel
theorem dX11_isHarbour_0 : decode cX11_isHarbour 0 = .ok (.iload_n 0, 1) := by decide +kernel
theorem dX11_isHarbour_1 : decode cX11_isHarbour 1 = .ok (.iconst 0, 1) := by decide +kernel
theorem dX11_isHarbour_2 : decode cX11_isHarbour 2 = .ok (.iconst 3, 1) := by decide +kernel
theorem dX11_isHarbour_3 : decode cX11_isHarbour 3 = .ok (.invokestatic 117, 3) := by decide +kernel
theorem dX11_isHarbour_6 : decode cX11_isHarbour 6 = .ok (.ireturn, 1) := by decide +kernel
theorem dX11_isSea_0 : decode cX11_isSea 0 = .ok (.iload_n 0, 1) := by decide +kernel
theorem dX11_isSea_1 : decode cX11_isSea 1 = .ok (.iconst 0, 1) := by decide +kernel
theorem dX11_isSea_2 : decode cX11_isSea 2 = .ok (.iconst 3, 1) := by decide +kernel
theorem dX11_isSea_3 : decode cX11_isSea 3 = .ok (.invokestatic 117, 3) := by decide +kernel
theorem dX11_isSea_6 : decode cX11_isSea 6 = .ok (.ireturn, 1) := by decide +kernel
theorem dX11_isShip_0 : decode cX11_isShip 0 = .ok (.iload_n 0, 1) := by decide +kernel
theorem dX11_isShip_1 : decode cX11_isShip 1 = .ok (.iconst 0, 1) := by decide +kernel
theorem dX11_isShip_2 : decode cX11_isShip 2 = .ok (.iconst 2, 1) := by decide +kernel
theorem dX11_isShip_3 : decode cX11_isShip 3 = .ok (.invokestatic 117, 3) := by decide +kernel
theorem dX11_isShip_6 : decode cX11_isShip 6 = .ok (.ireturn, 1) := by decide +kernel
theorem dX11_isCell_0 : decode cX11_isCell 0 = .ok (.iload_n 0, 1) := by decide +kernel
theorem dX11_isCell_1 : decode cX11_isCell 1 = .ok (.iconst 0, 1) := by decide +kernel
theorem dX11_isCell_2 : decode cX11_isCell 2 = .ok (.bipush 15, 2) := by decide +kernel
theorem dX11_isCell_4 : decode cX11_isCell 4 = .ok (.invokestatic 117, 3) := by decide +kernel
theorem dX11_isCell_7 : decode cX11_isCell 7 = .ok (.ireturn, 1) := by decide +kernel
theorem dX11_refuse_0 : decode cX11_refuse 0 = .ok (.aload_n 0, 1) := by decide +kernel
theorem dX11_refuse_1 : decode cX11_refuse 1 = .ok (.iload_n 1, 1) := by decide +kernel
theorem dX11_refuse_2 : decode cX11_refuse 2 = .ok (.putfield 101, 3) := by decide +kernel
theorem dX11_refuse_5 : decode cX11_refuse 5 = .ok (.iload_n 1, 1) := by decide +kernel
theorem dX11_refuse_6 : decode cX11_refuse 6 = .ok (.iconst 1, 1) := by decide +kernel
theorem dX11_refuse_7 : decode cX11_refuse 7 = .ok (.iconst 5, 1) := by decide +kernel
theorem dX11_refuse_8 : decode cX11_refuse 8 = .ok (.invokestatic 117, 3) := by decide +kernel
theorem dX11_refuse_11 : decode cX11_refuse 11 = .ok (.ifCond .eq 13, 3) := by decide +kernel
theorem dX11_refuse_14 : decode cX11_refuse 14 = .ok (.aload_n 0, 1) := by decide +kernel
theorem dX11_refuse_15 : decode cX11_refuse 15 = .ok (.getfield 94, 3) := by decide +kernel
theorem dX11_refuse_18 : decode cX11_refuse 18 = .ok (.iload_n 1, 1) := by decide +kernel
theorem dX11_refuse_19 : decode cX11_refuse 19 = .ok (.dup2, 1) := by decide +kernel
theorem dX11_refuse_20 : decode cX11_refuse 20 = .ok (.iaload, 1) := by decide +kernel
theorem dX11_refuse_21 : decode cX11_refuse 21 = .ok (.iconst 1, 1) := by decide +kernel
theorem dX11_refuse_22 : decode cX11_refuse 22 = .ok (.iadd, 1) := by decide +kernel
theorem dX11_refuse_23 : decode cX11_refuse 23 = .ok (.iastore, 1) := by decide +kernel
theorem dX11_refuse_24 : decode cX11_refuse 24 = .ok (.bipush (-3), 2) := by decide +kernel
theorem dX11_refuse_26 : decode cX11_refuse 26 = .ok (.ireturn, 1) := by decide +kernel
theorem dX11_tell_0 : decode cX11_tell 0 = .ok (.aload_n 0, 1) := by decide +kernel
theorem dX11_tell_1 : decode cX11_tell 1 = .ok (.iload_n 1, 1) := by decide +kernel
theorem dX11_tell_2 : decode cX11_tell 2 = .ok (.putfield 104, 3) := by decide +kernel
theorem dX11_tell_5 : decode cX11_tell 5 = .ok (.iload_n 2, 1) := by decide +kernel
theorem dX11_tell_6 : decode cX11_tell 6 = .ok (.ireturn, 1) := by decide +kernel
theorem dX11_anySea_0 : decode cX11_anySea 0 = .ok (.iconst 0, 1) := by decide +kernel
theorem dX11_anySea_1 : decode cX11_anySea 1 = .ok (.istore_n 1, 1) := by decide +kernel
theorem dX11_anySea_2 : decode cX11_anySea 2 = .ok (.iload_n 1, 1) := by decide +kernel
theorem dX11_anySea_3 : decode cX11_anySea 3 = .ok (.iconst 4, 1) := by decide +kernel
theorem dX11_anySea_4 : decode cX11_anySea 4 = .ok (.if_icmp .ge 23, 3) := by decide +kernel
theorem dX11_anySea_7 : decode cX11_anySea 7 = .ok (.aload_n 0, 1) := by decide +kernel
theorem dX11_anySea_8 : decode cX11_anySea 8 = .ok (.getfield 29, 3) := by decide +kernel
theorem dX11_anySea_11 : decode cX11_anySea 11 = .ok (.iload_n 1, 1) := by decide +kernel
theorem dX11_anySea_12 : decode cX11_anySea 12 = .ok (.aaload, 1) := by decide +kernel
theorem dX11_anySea_13 : decode cX11_anySea 13 = .ok (.getfield 121, 3) := by decide +kernel
theorem dX11_anySea_16 : decode cX11_anySea 16 = .ok (.ifCond .eq 5, 3) := by decide +kernel
theorem dX11_anySea_19 : decode cX11_anySea 19 = .ok (.iconst 1, 1) := by decide +kernel
theorem dX11_anySea_20 : decode cX11_anySea 20 = .ok (.ireturn, 1) := by decide +kernel
theorem dX11_anySea_21 : decode cX11_anySea 21 = .ok (.iinc 1 1, 3) := by decide +kernel
theorem dX11_anySea_24 : decode cX11_anySea 24 = .ok (.goto (-22), 3) := by decide +kernel
theorem dX11_anySea_27 : decode cX11_anySea 27 = .ok (.iconst 0, 1) := by decide +kernel
theorem dX11_anySea_28 : decode cX11_anySea 28 = .ok (.ireturn, 1) := by decide +kernel
theorem dX11_row_0 : decode cX11_row 0 = .ok (.iload_n 1, 1) := by decide +kernel
theorem dX11_row_1 : decode cX11_row 1 = .ok (.invokestatic 125, 3) := by decide +kernel
