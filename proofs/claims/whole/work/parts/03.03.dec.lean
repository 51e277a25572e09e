theorem dX11_kindOfRing_94 : decode cX11_kindOfRing 94 = .ok (.goto 4, 3) := by decide +kernel
theorem dX11_kindOfRing_97 : decode cX11_kindOfRing 97 = .ok (.iconst 1, 1) := by decide +kernel
theorem dX11_kindOfRing_98 : decode cX11_kindOfRing 98 = .ok (.ireturn, 1) := by decide +kernel
theorem dX11_kindOfSet_0 : decode cX11_kindOfSet 0 = .ok (.iload_n 1, 1) := by decide +kernel
theorem dX11_kindOfSet_1 : decode cX11_kindOfSet 1 = .ok (.invokestatic 194, 3) := by decide +kernel
theorem dX11_kindOfSet_4 : decode cX11_kindOfSet 4 = .ok (.ifCond .eq 10, 3) := by decide +kernel
theorem dX11_kindOfSet_7 : decode cX11_kindOfSet 7 = .ok (.iload_n 3, 1) := by decide +kernel
theorem dX11_kindOfSet_8 : decode cX11_kindOfSet 8 = .ok (.invokestatic 181, 3) := by decide +kernel
theorem dX11_kindOfSet_11 : decode cX11_kindOfSet 11 = .ok (.ifCond .ne 5, 3) := by decide +kernel
theorem dX11_kindOfSet_14 : decode cX11_kindOfSet 14 = .ok (.iconst (-1), 1) := by decide +kernel
theorem dX11_kindOfSet_15 : decode cX11_kindOfSet 15 = .ok (.ireturn, 1) := by decide +kernel
theorem dX11_kindOfSet_16 : decode cX11_kindOfSet 16 = .ok (.aload_n 0, 1) := by decide +kernel
theorem dX11_kindOfSet_17 : decode cX11_kindOfSet 17 = .ok (.getfield 29, 3) := by decide +kernel
theorem dX11_kindOfSet_20 : decode cX11_kindOfSet 20 = .ok (.iload_n 1, 1) := by decide +kernel
theorem dX11_kindOfSet_21 : decode cX11_kindOfSet 21 = .ok (.aaload, 1) := by decide +kernel
theorem dX11_kindOfSet_22 : decode cX11_kindOfSet 22 = .ok (.getfield 121, 3) := by decide +kernel
theorem dX11_kindOfSet_25 : decode cX11_kindOfSet 25 = .ok (.ifCond .eq 15, 3) := by decide +kernel
theorem dX11_kindOfSet_28 : decode cX11_kindOfSet 28 = .ok (.aload_n 0, 1) := by decide +kernel
theorem dX11_kindOfSet_29 : decode cX11_kindOfSet 29 = .ok (.getfield 23, 3) := by decide +kernel
theorem dX11_kindOfSet_32 : decode cX11_kindOfSet 32 = .ok (.iload_n 3, 1) := by decide +kernel
theorem dX11_kindOfSet_33 : decode cX11_kindOfSet 33 = .ok (.aaload, 1) := by decide +kernel
theorem dX11_kindOfSet_34 : decode cX11_kindOfSet 34 = .ok (.getfield 206, 3) := by decide +kernel
theorem dX11_kindOfSet_37 : decode cX11_kindOfSet 37 = .ok (.ifCond .ne 9, 3) := by decide +kernel
theorem dX11_kindOfSet_40 : decode cX11_kindOfSet 40 = .ok (.aload_n 0, 1) := by decide +kernel
theorem dX11_kindOfSet_41 : decode cX11_kindOfSet 41 = .ok (.iconst 1, 1) := by decide +kernel
theorem dX11_kindOfSet_42 : decode cX11_kindOfSet 42 = .ok (.invokevirtual 129, 3) := by decide +kernel
theorem dX11_kindOfSet_45 : decode cX11_kindOfSet 45 = .ok (.ireturn, 1) := by decide +kernel
theorem dX11_kindOfSet_46 : decode cX11_kindOfSet 46 = .ok (.aload_n 0, 1) := by decide +kernel
theorem dX11_kindOfSet_47 : decode cX11_kindOfSet 47 = .ok (.getfield 29, 3) := by decide +kernel
theorem dX11_kindOfSet_50 : decode cX11_kindOfSet 50 = .ok (.iload_n 1, 1) := by decide +kernel
theorem dX11_kindOfSet_51 : decode cX11_kindOfSet 51 = .ok (.aaload, 1) := by decide +kernel
theorem dX11_kindOfSet_52 : decode cX11_kindOfSet 52 = .ok (.iload_n 2, 1) := by decide +kernel
theorem dX11_kindOfSet_53 : decode cX11_kindOfSet 53 = .ok (.invokevirtual 213, 3) := by decide +kernel
theorem dX11_kindOfSet_56 : decode cX11_kindOfSet 56 = .ok (.ifCond .ne 9, 3) := by decide +kernel
theorem dX11_kindOfSet_59 : decode cX11_kindOfSet 59 = .ok (.aload_n 0, 1) := by decide +kernel
theorem dX11_kindOfSet_60 : decode cX11_kindOfSet 60 = .ok (.iconst 2, 1) := by decide +kernel
theorem dX11_kindOfSet_61 : decode cX11_kindOfSet 61 = .ok (.invokevirtual 129, 3) := by decide +kernel
theorem dX11_kindOfSet_64 : decode cX11_kindOfSet 64 = .ok (.ireturn, 1) := by decide +kernel
theorem dX11_kindOfSet_65 : decode cX11_kindOfSet 65 = .ok (.aload_n 0, 1) := by decide +kernel
theorem dX11_kindOfSet_66 : decode cX11_kindOfSet 66 = .ok (.aload_n 0, 1) := by decide +kernel
theorem dX11_kindOfSet_67 : decode cX11_kindOfSet 67 = .ok (.getfield 23, 3) := by decide +kernel
theorem dX11_kindOfSet_70 : decode cX11_kindOfSet 70 = .ok (.iload_n 3, 1) := by decide +kernel
theorem dX11_kindOfSet_71 : decode cX11_kindOfSet 71 = .ok (.aaload, 1) := by decide +kernel
theorem dX11_kindOfSet_72 : decode cX11_kindOfSet 72 = .ok (.aload_n 0, 1) := by decide +kernel
theorem dX11_kindOfSet_73 : decode cX11_kindOfSet 73 = .ok (.getfield 23, 3) := by decide +kernel
theorem dX11_kindOfSet_76 : decode cX11_kindOfSet 76 = .ok (.iload_n 3, 1) := by decide +kernel
theorem dX11_kindOfSet_77 : decode cX11_kindOfSet 77 = .ok (.aaload, 1) := by decide +kernel
theorem dX11_kindOfSet_78 : decode cX11_kindOfSet 78 = .ok (.getfield 371, 3) := by decide +kernel
theorem dX11_kindOfSet_81 : decode cX11_kindOfSet 81 = .ok (.invokevirtual 300, 3) := by decide +kernel
theorem dX11_kindOfSet_84 : decode cX11_kindOfSet 84 = .ok (.aload_n 0, 1) := by decide +kernel
theorem dX11_kindOfSet_85 : decode cX11_kindOfSet 85 = .ok (.getfield 86, 3) := by decide +kernel
theorem dX11_kindOfSet_88 : decode cX11_kindOfSet 88 = .ok (.invokevirtual 290, 3) := by decide +kernel
theorem dX11_kindOfSet_91 : decode cX11_kindOfSet 91 = .ok (.ifCond .eq 28, 3) := by decide +kernel
theorem dX11_kindOfSet_94 : decode cX11_kindOfSet 94 = .ok (.aload_n 0, 1) := by decide +kernel
theorem dX11_kindOfSet_95 : decode cX11_kindOfSet 95 = .ok (.iload_n 1, 1) := by decide +kernel
theorem dX11_kindOfSet_96 : decode cX11_kindOfSet 96 = .ok (.iload_n 2, 1) := by decide +kernel
theorem dX11_kindOfSet_97 : decode cX11_kindOfSet 97 = .ok (.invokevirtual 312, 3) := by decide +kernel
theorem dX11_kindOfSet_100 : decode cX11_kindOfSet 100 = .ok (.aload_n 0, 1) := by decide +kernel
theorem dX11_kindOfSet_101 : decode cX11_kindOfSet 101 = .ok (.getfield 86, 3) := by decide +kernel
theorem dX11_kindOfSet_104 : decode cX11_kindOfSet 104 = .ok (.invokevirtual 315, 3) := by decide +kernel
theorem dX11_kindOfSet_107 : decode cX11_kindOfSet 107 = .ok (.isub, 1) := by decide +kernel
theorem dX11_kindOfSet_108 : decode cX11_kindOfSet 108 = .ok (.invokestatic 318, 3) := by decide +kernel
theorem dX11_kindOfSet_111 : decode cX11_kindOfSet 111 = .ok (.iconst 2, 1) := by decide +kernel
theorem dX11_kindOfSet_112 : decode cX11_kindOfSet 112 = .ok (.if_icmp .gt 7, 3) := by decide +kernel
theorem dX11_kindOfSet_115 : decode cX11_kindOfSet 115 = .ok (.iconst 1, 1) := by decide +kernel
theorem dX11_kindOfSet_116 : decode cX11_kindOfSet 116 = .ok (.goto 4, 3) := by decide +kernel
theorem dX11_kindOfSet_119 : decode cX11_kindOfSet 119 = .ok (.iconst 0, 1) := by decide +kernel
theorem dX11_kindOfSet_120 : decode cX11_kindOfSet 120 = .ok (.istore 4, 2) := by decide +kernel
theorem dX11_kindOfSet_122 : decode cX11_kindOfSet 122 = .ok (.iload 4, 2) := by decide +kernel
theorem dX11_kindOfSet_124 : decode cX11_kindOfSet 124 = .ok (.ifCond .eq 7, 3) := by decide +kernel
theorem dX11_kindOfSet_127 : decode cX11_kindOfSet 127 = .ok (.iconst 4, 1) := by decide +kernel
theorem dX11_kindOfSet_128 : decode cX11_kindOfSet 128 = .ok (.goto 4, 3) := by decide +kernel
theorem dX11_kindOfSet_131 : decode cX11_kindOfSet 131 = .ok (.iconst 2, 1) := by decide +kernel
theorem dX11_kindOfSet_132 : decode cX11_kindOfSet 132 = .ok (.ireturn, 1) := by decide +kernel
theorem dX11_beatOfSet_0 : decode cX11_beatOfSet 0 = .ok (.iload_n 1, 1) := by decide +kernel
theorem dX11_beatOfSet_1 : decode cX11_beatOfSet 1 = .ok (.invokestatic 194, 3) := by decide +kernel
theorem dX11_beatOfSet_4 : decode cX11_beatOfSet 4 = .ok (.ifCond .eq 30, 3) := by decide +kernel
theorem dX11_beatOfSet_7 : decode cX11_beatOfSet 7 = .ok (.aload_n 0, 1) := by decide +kernel
theorem dX11_beatOfSet_8 : decode cX11_beatOfSet 8 = .ok (.getfield 29, 3) := by decide +kernel
theorem dX11_beatOfSet_11 : decode cX11_beatOfSet 11 = .ok (.iload_n 1, 1) := by decide +kernel
theorem dX11_beatOfSet_12 : decode cX11_beatOfSet 12 = .ok (.aaload, 1) := by decide +kernel
theorem dX11_beatOfSet_13 : decode cX11_beatOfSet 13 = .ok (.iload_n 2, 1) := by decide +kernel
theorem dX11_beatOfSet_14 : decode cX11_beatOfSet 14 = .ok (.invokevirtual 213, 3) := by decide +kernel
theorem dX11_beatOfSet_17 : decode cX11_beatOfSet 17 = .ok (.ifCond .eq 17, 3) := by decide +kernel
theorem dX11_beatOfSet_20 : decode cX11_beatOfSet 20 = .ok (.aload_n 0, 1) := by decide +kernel
theorem dX11_beatOfSet_21 : decode cX11_beatOfSet 21 = .ok (.getfield 29, 3) := by decide +kernel
theorem dX11_beatOfSet_24 : decode cX11_beatOfSet 24 = .ok (.iload_n 1, 1) := by decide +kernel
theorem dX11_beatOfSet_25 : decode cX11_beatOfSet 25 = .ok (.aaload, 1) := by decide +kernel
theorem dX11_beatOfSet_26 : decode cX11_beatOfSet 26 = .ok (.getfield 219, 3) := by decide +kernel
theorem dX11_beatOfSet_29 : decode cX11_beatOfSet 29 = .ok (.iload_n 2, 1) := by decide +kernel
theorem dX11_beatOfSet_30 : decode cX11_beatOfSet 30 = .ok (.iaload, 1) := by decide +kernel
theorem dX11_beatOfSet_31 : decode cX11_beatOfSet 31 = .ok (.goto 4, 3) := by decide +kernel
theorem dX11_beatOfSet_34 : decode cX11_beatOfSet 34 = .ok (.iconst 0, 1) := by decide +kernel
theorem dX11_beatOfSet_35 : decode cX11_beatOfSet 35 = .ok (.ireturn, 1) := by decide +kernel
theorem dX11_kindOfRoll_0 : decode cX11_kindOfRoll 0 = .ok (.iload_n 1, 1) := by decide +kernel
theorem dX11_kindOfRoll_1 : decode cX11_kindOfRoll 1 = .ok (.invokestatic 222, 3) := by decide +kernel
theorem dX11_kindOfRoll_4 : decode cX11_kindOfRoll 4 = .ok (.ifCond .ne 5, 3) := by decide +kernel
theorem dX11_kindOfRoll_7 : decode cX11_kindOfRoll 7 = .ok (.iconst (-1), 1) := by decide +kernel
theorem dX11_kindOfRoll_8 : decode cX11_kindOfRoll 8 = .ok (.ireturn, 1) := by decide +kernel
theorem dX11_kindOfRoll_9 : decode cX11_kindOfRoll 9 = .ok (.aload_n 0, 1) := by decide +kernel
theorem dX11_kindOfRoll_10 : decode cX11_kindOfRoll 10 = .ok (.getfield 35, 3) := by decide +kernel
theorem dX11_kindOfRoll_13 : decode cX11_kindOfRoll 13 = .ok (.iload_n 1, 1) := by decide +kernel
theorem dX11_kindOfRoll_14 : decode cX11_kindOfRoll 14 = .ok (.aaload, 1) := by decide +kernel
theorem dX11_kindOfRoll_15 : decode cX11_kindOfRoll 15 = .ok (.getfield 232, 3) := by decide +kernel
theorem dX11_kindOfRoll_18 : decode cX11_kindOfRoll 18 = .ok (.ifCond .ne 6, 3) := by decide +kernel
theorem dX11_kindOfRoll_21 : decode cX11_kindOfRoll 21 = .ok (.bipush (-4), 2) := by decide +kernel
theorem dX11_kindOfRoll_23 : decode cX11_kindOfRoll 23 = .ok (.ireturn, 1) := by decide +kernel
theorem dX11_kindOfRoll_24 : decode cX11_kindOfRoll 24 = .ok (.aload_n 0, 1) := by decide +kernel
theorem dX11_kindOfRoll_25 : decode cX11_kindOfRoll 25 = .ok (.aload_n 0, 1) := by decide +kernel
theorem dX11_kindOfRoll_26 : decode cX11_kindOfRoll 26 = .ok (.getfield 35, 3) := by decide +kernel
theorem dX11_kindOfRoll_29 : decode cX11_kindOfRoll 29 = .ok (.iload_n 1, 1) := by decide +kernel
theorem dX11_kindOfRoll_30 : decode cX11_kindOfRoll 30 = .ok (.aaload, 1) := by decide +kernel
theorem dX11_kindOfRoll_31 : decode cX11_kindOfRoll 31 = .ok (.invokevirtual 304, 3) := by decide +kernel
theorem dX11_kindOfRoll_34 : decode cX11_kindOfRoll 34 = .ok (.aload_n 0, 1) := by decide +kernel
theorem dX11_kindOfRoll_35 : decode cX11_kindOfRoll 35 = .ok (.getfield 86, 3) := by decide +kernel
theorem dX11_kindOfRoll_38 : decode cX11_kindOfRoll 38 = .ok (.invokevirtual 290, 3) := by decide +kernel
theorem dX11_kindOfRoll_41 : decode cX11_kindOfRoll 41 = .ok (.ifCond .eq 7, 3) := by decide +kernel
theorem dX11_kindOfRoll_44 : decode cX11_kindOfRoll 44 = .ok (.iconst 3, 1) := by decide +kernel
theorem dX11_kindOfRoll_45 : decode cX11_kindOfRoll 45 = .ok (.goto 8, 3) := by decide +kernel
theorem dX11_kindOfRoll_48 : decode cX11_kindOfRoll 48 = .ok (.aload_n 0, 1) := by decide +kernel
theorem dX11_kindOfRoll_49 : decode cX11_kindOfRoll 49 = .ok (.iconst 4, 1) := by decide +kernel
theorem dX11_kindOfRoll_50 : decode cX11_kindOfRoll 50 = .ok (.invokevirtual 129, 3) := by decide +kernel
theorem dX11_kindOfRoll_53 : decode cX11_kindOfRoll 53 = .ok (.ireturn, 1) := by decide +kernel
theorem dX11_quiet_0 : decode cX11_quiet 0 = .ok (.iload_n 1, 1) := by decide +kernel
theorem dX11_quiet_1 : decode cX11_quiet 1 = .ok (.invokestatic 181, 3) := by decide +kernel
theorem dX11_quiet_4 : decode cX11_quiet 4 = .ok (.ifCond .eq 10, 3) := by decide +kernel
theorem dX11_quiet_7 : decode cX11_quiet 7 = .ok (.iload_n 2, 1) := by decide +kernel
theorem dX11_quiet_8 : decode cX11_quiet 8 = .ok (.invokestatic 194, 3) := by decide +kernel
theorem dX11_quiet_11 : decode cX11_quiet 11 = .ok (.ifCond .ne 5, 3) := by decide +kernel
theorem dX11_quiet_14 : decode cX11_quiet 14 = .ok (.iconst (-1), 1) := by decide +kernel
theorem dX11_quiet_15 : decode cX11_quiet 15 = .ok (.ireturn, 1) := by decide +kernel
theorem dX11_quiet_16 : decode cX11_quiet 16 = .ok (.aload_n 0, 1) := by decide +kernel
theorem dX11_quiet_17 : decode cX11_quiet 17 = .ok (.getfield 23, 3) := by decide +kernel
theorem dX11_quiet_20 : decode cX11_quiet 20 = .ok (.iload_n 1, 1) := by decide +kernel
theorem dX11_quiet_21 : decode cX11_quiet 21 = .ok (.aaload, 1) := by decide +kernel
theorem dX11_quiet_22 : decode cX11_quiet 22 = .ok (.getfield 206, 3) := by decide +kernel
theorem dX11_quiet_25 : decode cX11_quiet 25 = .ok (.ifCond .eq 15, 3) := by decide +kernel
theorem dX11_quiet_28 : decode cX11_quiet 28 = .ok (.aload_n 0, 1) := by decide +kernel
theorem dX11_quiet_29 : decode cX11_quiet 29 = .ok (.getfield 29, 3) := by decide +kernel
theorem dX11_quiet_32 : decode cX11_quiet 32 = .ok (.iload_n 2, 1) := by decide +kernel
theorem dX11_quiet_33 : decode cX11_quiet 33 = .ok (.aaload, 1) := by decide +kernel
theorem dX11_quiet_34 : decode cX11_quiet 34 = .ok (.getfield 121, 3) := by decide +kernel
theorem dX11_quiet_37 : decode cX11_quiet 37 = .ok (.ifCond .ne 9, 3) := by decide +kernel
theorem dX11_quiet_40 : decode cX11_quiet 40 = .ok (.aload_n 0, 1) := by decide +kernel
theorem dX11_quiet_41 : decode cX11_quiet 41 = .ok (.iconst 1, 1) := by decide +kernel
theorem dX11_quiet_42 : decode cX11_quiet 42 = .ok (.invokevirtual 129, 3) := by decide +kernel
theorem dX11_quiet_45 : decode cX11_quiet 45 = .ok (.ireturn, 1) := by decide +kernel
theorem dX11_quiet_46 : decode cX11_quiet 46 = .ok (.aload_n 0, 1) := by decide +kernel
theorem dX11_quiet_47 : decode cX11_quiet 47 = .ok (.aload_n 0, 1) := by decide +kernel
theorem dX11_quiet_48 : decode cX11_quiet 48 = .ok (.getfield 23, 3) := by decide +kernel
theorem dX11_quiet_51 : decode cX11_quiet 51 = .ok (.iload_n 1, 1) := by decide +kernel
theorem dX11_quiet_52 : decode cX11_quiet 52 = .ok (.aaload, 1) := by decide +kernel
theorem dX11_quiet_53 : decode cX11_quiet 53 = .ok (.aload_n 0, 1) := by decide +kernel
theorem dX11_quiet_54 : decode cX11_quiet 54 = .ok (.getfield 29, 3) := by decide +kernel
theorem dX11_quiet_57 : decode cX11_quiet 57 = .ok (.iload_n 2, 1) := by decide +kernel
theorem dX11_quiet_58 : decode cX11_quiet 58 = .ok (.aaload, 1) := by decide +kernel
theorem dX11_quiet_59 : decode cX11_quiet 59 = .ok (.invokevirtual 374, 3) := by decide +kernel
theorem dX11_quiet_62 : decode cX11_quiet 62 = .ok (.istore_n 3, 1) := by decide +kernel
theorem dX11_quiet_63 : decode cX11_quiet 63 = .ok (.aload_n 0, 1) := by decide +kernel
theorem dX11_quiet_64 : decode cX11_quiet 64 = .ok (.aload_n 0, 1) := by decide +kernel
theorem dX11_quiet_65 : decode cX11_quiet 65 = .ok (.getfield 58, 3) := by decide +kernel
theorem dX11_quiet_68 : decode cX11_quiet 68 = .ok (.getfield 251, 3) := by decide +kernel
theorem dX11_quiet_71 : decode cX11_quiet 71 = .ok (.invokevirtual 378, 3) := by decide +kernel
theorem dX11_quiet_74 : decode cX11_quiet 74 = .ok (.iload_n 3, 1) := by decide +kernel
theorem dX11_quiet_75 : decode cX11_quiet 75 = .ok (.invokevirtual 143, 3) := by decide +kernel
theorem dX11_quiet_78 : decode cX11_quiet 78 = .ok (.ireturn, 1) := by decide +kernel
theorem dX11_still_0 : decode cX11_still 0 = .ok (.iload_n 1, 1) := by decide +kernel
theorem dX11_still_1 : decode cX11_still 1 = .ok (.invokestatic 181, 3) := by decide +kernel
theorem dX11_still_4 : decode cX11_still 4 = .ok (.ifCond .eq 10, 3) := by decide +kernel
theorem dX11_still_7 : decode cX11_still 7 = .ok (.iload_n 2, 1) := by decide +kernel
theorem dX11_still_8 : decode cX11_still 8 = .ok (.invokestatic 194, 3) := by decide +kernel
theorem dX11_still_11 : decode cX11_still 11 = .ok (.ifCond .ne 5, 3) := by decide +kernel
theorem dX11_still_14 : decode cX11_still 14 = .ok (.iconst (-1), 1) := by decide +kernel
theorem dX11_still_15 : decode cX11_still 15 = .ok (.ireturn, 1) := by decide +kernel
theorem dX11_still_16 : decode cX11_still 16 = .ok (.aload_n 0, 1) := by decide +kernel
theorem dX11_still_17 : decode cX11_still 17 = .ok (.getfield 23, 3) := by decide +kernel
theorem dX11_still_20 : decode cX11_still 20 = .ok (.iload_n 1, 1) := by decide +kernel
theorem dX11_still_21 : decode cX11_still 21 = .ok (.aaload, 1) := by decide +kernel
theorem dX11_still_22 : decode cX11_still 22 = .ok (.getfield 206, 3) := by decide +kernel
theorem dX11_still_25 : decode cX11_still 25 = .ok (.ifCond .eq 15, 3) := by decide +kernel
theorem dX11_still_28 : decode cX11_still 28 = .ok (.aload_n 0, 1) := by decide +kernel
theorem dX11_still_29 : decode cX11_still 29 = .ok (.getfield 29, 3) := by decide +kernel
theorem dX11_still_32 : decode cX11_still 32 = .ok (.iload_n 2, 1) := by decide +kernel
theorem dX11_still_33 : decode cX11_still 33 = .ok (.aaload, 1) := by decide +kernel
theorem dX11_still_34 : decode cX11_still 34 = .ok (.getfield 121, 3) := by decide +kernel
theorem dX11_still_37 : decode cX11_still 37 = .ok (.ifCond .ne 9, 3) := by decide +kernel
theorem dX11_still_40 : decode cX11_still 40 = .ok (.aload_n 0, 1) := by decide +kernel
theorem dX11_still_41 : decode cX11_still 41 = .ok (.iconst 1, 1) := by decide +kernel
theorem dX11_still_42 : decode cX11_still 42 = .ok (.invokevirtual 129, 3) := by decide +kernel
theorem dX11_still_45 : decode cX11_still 45 = .ok (.ireturn, 1) := by decide +kernel
theorem dX11_still_46 : decode cX11_still 46 = .ok (.aload_n 0, 1) := by decide +kernel
theorem dX11_still_47 : decode cX11_still 47 = .ok (.getfield 58, 3) := by decide +kernel
theorem dX11_still_50 : decode cX11_still 50 = .ok (.invokevirtual 236, 3) := by decide +kernel
theorem dX11_still_53 : decode cX11_still 53 = .ok (.aload_n 0, 1) := by decide +kernel
theorem dX11_still_54 : decode cX11_still 54 = .ok (.getfield 58, 3) := by decide +kernel
theorem dX11_still_57 : decode cX11_still 57 = .ok (.aload_n 0, 1) := by decide +kernel
theorem dX11_still_58 : decode cX11_still 58 = .ok (.getfield 23, 3) := by decide +kernel
theorem dX11_still_61 : decode cX11_still 61 = .ok (.iload_n 1, 1) := by decide +kernel
theorem dX11_still_62 : decode cX11_still 62 = .ok (.aaload, 1) := by decide +kernel
theorem dX11_still_63 : decode cX11_still 63 = .ok (.aload_n 0, 1) := by decide +kernel
theorem dX11_still_64 : decode cX11_still 64 = .ok (.getfield 29, 3) := by decide +kernel
theorem dX11_still_67 : decode cX11_still 67 = .ok (.iload_n 2, 1) := by decide +kernel
theorem dX11_still_68 : decode cX11_still 68 = .ok (.aaload, 1) := by decide +kernel
theorem dX11_still_69 : decode cX11_still 69 = .ok (.invokevirtual 381, 3) := by decide +kernel
theorem dX11_still_72 : decode cX11_still 72 = .ok (.aload_n 0, 1) := by decide +kernel
theorem dX11_still_73 : decode cX11_still 73 = .ok (.getfield 58, 3) := by decide +kernel
theorem dX11_still_76 : decode cX11_still 76 = .ok (.getfield 251, 3) := by decide +kernel
theorem dX11_still_79 : decode cX11_still 79 = .ok (.invokevirtual 384, 3) := by decide +kernel
theorem dX11_still_82 : decode cX11_still 82 = .ok (.istore_n 3, 1) := by decide +kernel
theorem dX11_still_83 : decode cX11_still 83 = .ok (.aload_n 0, 1) := by decide +kernel
theorem dX11_still_84 : decode cX11_still 84 = .ok (.aload_n 0, 1) := by decide +kernel
theorem dX11_still_85 : decode cX11_still 85 = .ok (.getfield 58, 3) := by decide +kernel
theorem dX11_still_88 : decode cX11_still 88 = .ok (.getfield 251, 3) := by decide +kernel
theorem dX11_still_91 : decode cX11_still 91 = .ok (.iload_n 3, 1) := by decide +kernel
theorem dX11_still_92 : decode cX11_still 92 = .ok (.invokevirtual 387, 3) := by decide +kernel
theorem dX11_still_95 : decode cX11_still 95 = .ok (.iload_n 3, 1) := by decide +kernel
theorem dX11_still_96 : decode cX11_still 96 = .ok (.invokevirtual 143, 3) := by decide +kernel
theorem dX11_still_99 : decode cX11_still 99 = .ok (.ireturn, 1) := by decide +kernel
theorem dX11_wakes_0 : decode cX11_wakes 0 = .ok (.iload_n 1, 1) := by decide +kernel
theorem dX11_wakes_1 : decode cX11_wakes 1 = .ok (.invokestatic 181, 3) := by decide +kernel
theorem dX11_wakes_4 : decode cX11_wakes 4 = .ok (.ifCond .ne 5, 3) := by decide +kernel
theorem dX11_wakes_7 : decode cX11_wakes 7 = .ok (.iconst (-1), 1) := by decide +kernel
theorem dX11_wakes_8 : decode cX11_wakes 8 = .ok (.ireturn, 1) := by decide +kernel
theorem dX11_wakes_9 : decode cX11_wakes 9 = .ok (.aload_n 0, 1) := by decide +kernel
theorem dX11_wakes_10 : decode cX11_wakes 10 = .ok (.getfield 23, 3) := by decide +kernel
theorem dX11_wakes_13 : decode cX11_wakes 13 = .ok (.iload_n 1, 1) := by decide +kernel
theorem dX11_wakes_14 : decode cX11_wakes 14 = .ok (.aaload, 1) := by decide +kernel
theorem dX11_wakes_15 : decode cX11_wakes 15 = .ok (.getfield 206, 3) := by decide +kernel
theorem dX11_wakes_18 : decode cX11_wakes 18 = .ok (.ifCond .eq 10, 3) := by decide +kernel
theorem dX11_wakes_21 : decode cX11_wakes 21 = .ok (.aload_n 0, 1) := by decide +kernel
theorem dX11_wakes_22 : decode cX11_wakes 22 = .ok (.invokevirtual 390, 3) := by decide +kernel
theorem dX11_wakes_25 : decode cX11_wakes 25 = .ok (.ifCond .ne 9, 3) := by decide +kernel
theorem dX11_wakes_28 : decode cX11_wakes 28 = .ok (.aload_n 0, 1) := by decide +kernel
theorem dX11_wakes_29 : decode cX11_wakes 29 = .ok (.iconst 1, 1) := by decide +kernel
theorem dX11_wakes_30 : decode cX11_wakes 30 = .ok (.invokevirtual 129, 3) := by decide +kernel
theorem dX11_wakes_33 : decode cX11_wakes 33 = .ok (.ireturn, 1) := by decide +kernel
theorem dX11_wakes_34 : decode cX11_wakes 34 = .ok (.iconst 0, 1) := by decide +kernel
theorem dX11_wakes_35 : decode cX11_wakes 35 = .ok (.istore_n 2, 1) := by decide +kernel
theorem dX11_wakes_36 : decode cX11_wakes 36 = .ok (.iconst (-1), 1) := by decide +kernel
theorem dX11_wakes_37 : decode cX11_wakes 37 = .ok (.istore_n 3, 1) := by decide +kernel
theorem dX11_wakes_38 : decode cX11_wakes 38 = .ok (.iconst 0, 1) := by decide +kernel
theorem dX11_wakes_39 : decode cX11_wakes 39 = .ok (.istore 4, 2) := by decide +kernel
theorem dX11_wakes_41 : decode cX11_wakes 41 = .ok (.iload 4, 2) := by decide +kernel
theorem dX11_wakes_43 : decode cX11_wakes 43 = .ok (.iconst 4, 1) := by decide +kernel
theorem dX11_wakes_44 : decode cX11_wakes 44 = .ok (.if_icmp .ge 53, 3) := by decide +kernel
theorem dX11_wakes_47 : decode cX11_wakes 47 = .ok (.aload_n 0, 1) := by decide +kernel
theorem dX11_wakes_48 : decode cX11_wakes 48 = .ok (.getfield 29, 3) := by decide +kernel
theorem dX11_wakes_51 : decode cX11_wakes 51 = .ok (.iload 4, 2) := by decide +kernel
theorem dX11_wakes_53 : decode cX11_wakes 53 = .ok (.aaload, 1) := by decide +kernel
theorem dX11_wakes_54 : decode cX11_wakes 54 = .ok (.getfield 121, 3) := by decide +kernel
theorem dX11_wakes_57 : decode cX11_wakes 57 = .ok (.ifCond .eq 34, 3) := by decide +kernel
theorem dX11_wakes_60 : decode cX11_wakes 60 = .ok (.aload_n 0, 1) := by decide +kernel
theorem dX11_wakes_61 : decode cX11_wakes 61 = .ok (.aload_n 0, 1) := by decide +kernel
theorem dX11_wakes_62 : decode cX11_wakes 62 = .ok (.getfield 23, 3) := by decide +kernel
theorem dX11_wakes_65 : decode cX11_wakes 65 = .ok (.iload_n 1, 1) := by decide +kernel
theorem dX11_wakes_66 : decode cX11_wakes 66 = .ok (.aaload, 1) := by decide +kernel
theorem dX11_wakes_67 : decode cX11_wakes 67 = .ok (.aload_n 0, 1) := by decide +kernel
theorem dX11_wakes_68 : decode cX11_wakes 68 = .ok (.getfield 29, 3) := by decide +kernel
theorem dX11_wakes_71 : decode cX11_wakes 71 = .ok (.iload 4, 2) := by decide +kernel
theorem dX11_wakes_73 : decode cX11_wakes 73 = .ok (.aaload, 1) := by decide +kernel
theorem dX11_wakes_74 : decode cX11_wakes 74 = .ok (.invokevirtual 374, 3) := by decide +kernel
theorem dX11_wakes_77 : decode cX11_wakes 77 = .ok (.istore 5, 2) := by decide +kernel
theorem dX11_wakes_79 : decode cX11_wakes 79 = .ok (.iload 5, 2) := by decide +kernel
theorem dX11_wakes_81 : decode cX11_wakes 81 = .ok (.iload_n 3, 1) := by decide +kernel
theorem dX11_wakes_82 : decode cX11_wakes 82 = .ok (.if_icmp .le 9, 3) := by decide +kernel
theorem dX11_wakes_85 : decode cX11_wakes 85 = .ok (.iload 5, 2) := by decide +kernel
theorem dX11_wakes_87 : decode cX11_wakes 87 = .ok (.istore_n 3, 1) := by decide +kernel
theorem dX11_wakes_88 : decode cX11_wakes 88 = .ok (.iload 4, 2) := by decide +kernel
theorem dX11_wakes_90 : decode cX11_wakes 90 = .ok (.istore_n 2, 1) := by decide +kernel
theorem dX11_wakes_91 : decode cX11_wakes 91 = .ok (.iinc 4 1, 3) := by decide +kernel
theorem dX11_wakes_94 : decode cX11_wakes 94 = .ok (.goto (-53), 3) := by decide +kernel
theorem dX11_wakes_97 : decode cX11_wakes 97 = .ok (.aload_n 0, 1) := by decide +kernel
theorem dX11_wakes_98 : decode cX11_wakes 98 = .ok (.iload_n 3, 1) := by decide +kernel
theorem dX11_wakes_99 : decode cX11_wakes 99 = .ok (.iload_n 2, 1) := by decide +kernel
theorem dX11_wakes_100 : decode cX11_wakes 100 = .ok (.invokevirtual 143, 3) := by decide +kernel
theorem dX11_wakes_103 : decode cX11_wakes 103 = .ok (.ireturn, 1) := by decide +kernel
theorem dX11_pull_0 : decode cX11_pull 0 = .ok (.aload_n 0, 1) := by decide +kernel
theorem dX11_pull_1 : decode cX11_pull 1 = .ok (.iload_n 1, 1) := by decide +kernel
theorem dX11_pull_2 : decode cX11_pull 2 = .ok (.iload_n 2, 1) := by decide +kernel
theorem dX11_pull_3 : decode cX11_pull 3 = .ok (.iload_n 3, 1) := by decide +kernel
theorem dX11_pull_4 : decode cX11_pull 4 = .ok (.invokevirtual 393, 3) := by decide +kernel
theorem dX11_pull_7 : decode cX11_pull 7 = .ok (.istore 4, 2) := by decide +kernel
theorem dX11_pull_9 : decode cX11_pull 9 = .ok (.iload 4, 2) := by decide +kernel
theorem dX11_pull_11 : decode cX11_pull 11 = .ok (.ifCond .eq 6, 3) := by decide +kernel
theorem dX11_pull_14 : decode cX11_pull 14 = .ok (.iload 4, 2) := by decide +kernel
theorem dX11_pull_16 : decode cX11_pull 16 = .ok (.ireturn, 1) := by decide +kernel
theorem dX11_pull_17 : decode cX11_pull 17 = .ok (.aload_n 0, 1) := by decide +kernel
theorem dX11_pull_18 : decode cX11_pull 18 = .ok (.getfield 23, 3) := by decide +kernel
theorem dX11_pull_21 : decode cX11_pull 21 = .ok (.iload_n 2, 1) := by decide +kernel
theorem dX11_pull_22 : decode cX11_pull 22 = .ok (.aaload, 1) := by decide +kernel
theorem dX11_pull_23 : decode cX11_pull 23 = .ok (.aload_n 0, 1) := by decide +kernel
theorem dX11_pull_24 : decode cX11_pull 24 = .ok (.getfield 35, 3) := by decide +kernel
theorem dX11_pull_27 : decode cX11_pull 27 = .ok (.iload_n 1, 1) := by decide +kernel
theorem dX11_pull_28 : decode cX11_pull 28 = .ok (.aaload, 1) := by decide +kernel
theorem dX11_pull_29 : decode cX11_pull 29 = .ok (.getfield 233, 3) := by decide +kernel
theorem dX11_pull_32 : decode cX11_pull 32 = .ok (.invokevirtual 207, 3) := by decide +kernel
theorem dX11_pull_35 : decode cX11_pull 35 = .ok (.ifCond .ne 9, 3) := by decide +kernel
theorem dX11_pull_38 : decode cX11_pull 38 = .ok (.aload_n 0, 1) := by decide +kernel
theorem dX11_pull_39 : decode cX11_pull 39 = .ok (.iconst 2, 1) := by decide +kernel
theorem dX11_pull_40 : decode cX11_pull 40 = .ok (.invokevirtual 129, 3) := by decide +kernel
theorem dX11_pull_43 : decode cX11_pull 43 = .ok (.ireturn, 1) := by decide +kernel
theorem dX11_pull_44 : decode cX11_pull 44 = .ok (.aload_n 0, 1) := by decide +kernel
theorem dX11_pull_45 : decode cX11_pull 45 = .ok (.aload_n 0, 1) := by decide +kernel
theorem dX11_pull_46 : decode cX11_pull 46 = .ok (.getfield 35, 3) := by decide +kernel
theorem dX11_pull_49 : decode cX11_pull 49 = .ok (.iload_n 1, 1) := by decide +kernel
theorem dX11_pull_50 : decode cX11_pull 50 = .ok (.aaload, 1) := by decide +kernel
theorem dX11_pull_51 : decode cX11_pull 51 = .ok (.aload_n 0, 1) := by decide +kernel
theorem dX11_pull_52 : decode cX11_pull 52 = .ok (.getfield 23, 3) := by decide +kernel
theorem dX11_pull_55 : decode cX11_pull 55 = .ok (.iload_n 2, 1) := by decide +kernel
theorem dX11_pull_56 : decode cX11_pull 56 = .ok (.aaload, 1) := by decide +kernel
theorem dX11_pull_57 : decode cX11_pull 57 = .ok (.aload_n 0, 1) := by decide +kernel
theorem dX11_pull_58 : decode cX11_pull 58 = .ok (.getfield 29, 3) := by decide +kernel
theorem dX11_pull_61 : decode cX11_pull 61 = .ok (.iload_n 3, 1) := by decide +kernel
theorem dX11_pull_62 : decode cX11_pull 62 = .ok (.aaload, 1) := by decide +kernel
theorem dX11_pull_63 : decode cX11_pull 63 = .ok (.invokevirtual 396, 3) := by decide +kernel
theorem dX11_pull_66 : decode cX11_pull 66 = .ok (.aload_n 0, 1) := by decide +kernel
theorem dX11_pull_67 : decode cX11_pull 67 = .ok (.aload_n 0, 1) := by decide +kernel
theorem dX11_pull_68 : decode cX11_pull 68 = .ok (.getfield 58, 3) := by decide +kernel
theorem dX11_pull_71 : decode cX11_pull 71 = .ok (.iconst 0, 1) := by decide +kernel
theorem dX11_pull_72 : decode cX11_pull 72 = .ok (.invokevirtual 400, 3) := by decide +kernel
theorem dX11_pull_75 : decode cX11_pull 75 = .ok (.aload_n 0, 1) := by decide +kernel
theorem dX11_pull_76 : decode cX11_pull 76 = .ok (.getfield 58, 3) := by decide +kernel
theorem dX11_pull_79 : decode cX11_pull 79 = .ok (.iconst 0, 1) := by decide +kernel
theorem dX11_pull_80 : decode cX11_pull 80 = .ok (.invokevirtual 403, 3) := by decide +kernel
theorem dX11_pull_83 : decode cX11_pull 83 = .ok (.invokevirtual 143, 3) := by decide +kernel
theorem dX11_pull_86 : decode cX11_pull 86 = .ok (.ireturn, 1) := by decide +kernel
theorem dX11_tight_0 : decode cX11_tight 0 = .ok (.aload_n 0, 1) := by decide +kernel
theorem dX11_tight_1 : decode cX11_tight 1 = .ok (.iload_n 1, 1) := by decide +kernel
theorem dX11_tight_2 : decode cX11_tight 2 = .ok (.iload_n 2, 1) := by decide +kernel
theorem dX11_tight_3 : decode cX11_tight 3 = .ok (.iload_n 3, 1) := by decide +kernel
theorem dX11_tight_4 : decode cX11_tight 4 = .ok (.invokevirtual 393, 3) := by decide +kernel
theorem dX11_tight_7 : decode cX11_tight 7 = .ok (.istore 4, 2) := by decide +kernel
theorem dX11_tight_9 : decode cX11_tight 9 = .ok (.iload 4, 2) := by decide +kernel
theorem dX11_tight_11 : decode cX11_tight 11 = .ok (.ifCond .eq 6, 3) := by decide +kernel
theorem dX11_tight_14 : decode cX11_tight 14 = .ok (.iload 4, 2) := by decide +kernel
theorem dX11_tight_16 : decode cX11_tight 16 = .ok (.ireturn, 1) := by decide +kernel
theorem dX11_tight_17 : decode cX11_tight 17 = .ok (.aload_n 0, 1) := by decide +kernel
theorem dX11_tight_18 : decode cX11_tight 18 = .ok (.getfield 23, 3) := by decide +kernel
theorem dX11_tight_21 : decode cX11_tight 21 = .ok (.iload_n 2, 1) := by decide +kernel
theorem dX11_tight_22 : decode cX11_tight 22 = .ok (.aaload, 1) := by decide +kernel
theorem dX11_tight_23 : decode cX11_tight 23 = .ok (.aload_n 0, 1) := by decide +kernel
theorem dX11_tight_24 : decode cX11_tight 24 = .ok (.getfield 35, 3) := by decide +kernel
theorem dX11_tight_27 : decode cX11_tight 27 = .ok (.iload_n 1, 1) := by decide +kernel
theorem dX11_tight_28 : decode cX11_tight 28 = .ok (.aaload, 1) := by decide +kernel
theorem dX11_tight_29 : decode cX11_tight 29 = .ok (.getfield 233, 3) := by decide +kernel
theorem dX11_tight_32 : decode cX11_tight 32 = .ok (.invokevirtual 207, 3) := by decide +kernel
theorem dX11_tight_35 : decode cX11_tight 35 = .ok (.ifCond .ne 9, 3) := by decide +kernel
theorem dX11_tight_38 : decode cX11_tight 38 = .ok (.aload_n 0, 1) := by decide +kernel
theorem dX11_tight_39 : decode cX11_tight 39 = .ok (.iconst 2, 1) := by decide +kernel
theorem dX11_tight_40 : decode cX11_tight 40 = .ok (.invokevirtual 129, 3) := by decide +kernel
theorem dX11_tight_43 : decode cX11_tight 43 = .ok (.ireturn, 1) := by decide +kernel
theorem dX11_tight_44 : decode cX11_tight 44 = .ok (.aload_n 0, 1) := by decide +kernel
theorem dX11_tight_45 : decode cX11_tight 45 = .ok (.getfield 58, 3) := by decide +kernel
theorem dX11_tight_48 : decode cX11_tight 48 = .ok (.invokevirtual 236, 3) := by decide +kernel
theorem dX11_tight_51 : decode cX11_tight 51 = .ok (.iconst 1, 1) := by decide +kernel
theorem dX11_tight_52 : decode cX11_tight 52 = .ok (.istore 5, 2) := by decide +kernel
theorem dX11_tight_54 : decode cX11_tight 54 = .ok (.iload 5, 2) := by decide +kernel
theorem dX11_tight_56 : decode cX11_tight 56 = .ok (.bipush 9, 2) := by decide +kernel
theorem dX11_tight_58 : decode cX11_tight 58 = .ok (.if_icmp .gt 33, 3) := by decide +kernel
theorem dX11_tight_61 : decode cX11_tight 61 = .ok (.aload_n 0, 1) := by decide +kernel
theorem dX11_tight_62 : decode cX11_tight 62 = .ok (.getfield 58, 3) := by decide +kernel
theorem dX11_tight_65 : decode cX11_tight 65 = .ok (.aload_n 0, 1) := by decide +kernel
theorem dX11_tight_66 : decode cX11_tight 66 = .ok (.getfield 35, 3) := by decide +kernel
theorem dX11_tight_69 : decode cX11_tight 69 = .ok (.iload_n 1, 1) := by decide +kernel
theorem dX11_tight_70 : decode cX11_tight 70 = .ok (.aaload, 1) := by decide +kernel
theorem dX11_tight_71 : decode cX11_tight 71 = .ok (.aload_n 0, 1) := by decide +kernel
theorem dX11_tight_72 : decode cX11_tight 72 = .ok (.getfield 35, 3) := by decide +kernel
theorem dX11_tight_75 : decode cX11_tight 75 = .ok (.iload_n 1, 1) := by decide +kernel
theorem dX11_tight_76 : decode cX11_tight 76 = .ok (.aaload, 1) := by decide +kernel
theorem dX11_tight_77 : decode cX11_tight 77 = .ok (.getfield 233, 3) := by decide +kernel
theorem dX11_tight_80 : decode cX11_tight 80 = .ok (.iload 5, 2) := by decide +kernel
theorem dX11_tight_82 : decode cX11_tight 82 = .ok (.invokevirtual 242, 3) := by decide +kernel
theorem dX11_tight_85 : decode cX11_tight 85 = .ok (.iinc 5 1, 3) := by decide +kernel
theorem dX11_tight_88 : decode cX11_tight 88 = .ok (.goto (-34), 3) := by decide +kernel
theorem dX11_tight_91 : decode cX11_tight 91 = .ok (.aload_n 0, 1) := by decide +kernel
theorem dX11_tight_92 : decode cX11_tight 92 = .ok (.getfield 58, 3) := by decide +kernel
theorem dX11_tight_95 : decode cX11_tight 95 = .ok (.aload_n 0, 1) := by decide +kernel
theorem dX11_tight_96 : decode cX11_tight 96 = .ok (.getfield 23, 3) := by decide +kernel
theorem dX11_tight_99 : decode cX11_tight 99 = .ok (.iload_n 2, 1) := by decide +kernel
theorem dX11_tight_100 : decode cX11_tight 100 = .ok (.aaload, 1) := by decide +kernel
theorem dX11_tight_101 : decode cX11_tight 101 = .ok (.aload_n 0, 1) := by decide +kernel
theorem dX11_tight_102 : decode cX11_tight 102 = .ok (.getfield 29, 3) := by decide +kernel
theorem dX11_tight_105 : decode cX11_tight 105 = .ok (.iload_n 3, 1) := by decide +kernel
theorem dX11_tight_106 : decode cX11_tight 106 = .ok (.aaload, 1) := by decide +kernel
theorem dX11_tight_107 : decode cX11_tight 107 = .ok (.invokevirtual 381, 3) := by decide +kernel
theorem dX11_tight_110 : decode cX11_tight 110 = .ok (.aload_n 0, 1) := by decide +kernel
theorem dX11_tight_111 : decode cX11_tight 111 = .ok (.getfield 58, 3) := by decide +kernel
theorem dX11_tight_114 : decode cX11_tight 114 = .ok (.invokevirtual 406, 3) := by decide +kernel
theorem dX11_tight_117 : decode cX11_tight 117 = .ok (.istore 5, 2) := by decide +kernel
theorem dX11_tight_119 : decode cX11_tight 119 = .ok (.aload_n 0, 1) := by decide +kernel
theorem dX11_tight_120 : decode cX11_tight 120 = .ok (.aload_n 0, 1) := by decide +kernel
theorem dX11_tight_121 : decode cX11_tight 121 = .ok (.getfield 58, 3) := by decide +kernel
theorem dX11_tight_124 : decode cX11_tight 124 = .ok (.iload 5, 2) := by decide +kernel
theorem dX11_tight_126 : decode cX11_tight 126 = .ok (.invokevirtual 403, 3) := by decide +kernel
theorem dX11_tight_129 : decode cX11_tight 129 = .ok (.iload 5, 2) := by decide +kernel
theorem dX11_tight_131 : decode cX11_tight 131 = .ok (.iconst 1, 1) := by decide +kernel
theorem dX11_tight_132 : decode cX11_tight 132 = .ok (.iadd, 1) := by decide +kernel
theorem dX11_tight_133 : decode cX11_tight 133 = .ok (.invokevirtual 143, 3) := by decide +kernel
theorem dX11_tight_136 : decode cX11_tight 136 = .ok (.ireturn, 1) := by decide +kernel
theorem dX11_where_0 : decode cX11_where 0 = .ok (.aload_n 0, 1) := by decide +kernel
theorem dX11_where_1 : decode cX11_where 1 = .ok (.iload_n 1, 1) := by decide +kernel
theorem dX11_where_2 : decode cX11_where 2 = .ok (.iload_n 2, 1) := by decide +kernel
theorem dX11_where_3 : decode cX11_where 3 = .ok (.iload_n 3, 1) := by decide +kernel
theorem dX11_where_4 : decode cX11_where 4 = .ok (.invokevirtual 393, 3) := by decide +kernel
theorem dX11_where_7 : decode cX11_where 7 = .ok (.istore 4, 2) := by decide +kernel
theorem dX11_where_9 : decode cX11_where 9 = .ok (.iload 4, 2) := by decide +kernel
theorem dX11_where_11 : decode cX11_where 11 = .ok (.ifCond .eq 6, 3) := by decide +kernel
theorem dX11_where_14 : decode cX11_where 14 = .ok (.iload 4, 2) := by decide +kernel
theorem dX11_where_16 : decode cX11_where 16 = .ok (.ireturn, 1) := by decide +kernel
theorem dX11_where_17 : decode cX11_where 17 = .ok (.aload_n 0, 1) := by decide +kernel
theorem dX11_where_18 : decode cX11_where 18 = .ok (.getfield 58, 3) := by decide +kernel
theorem dX11_where_21 : decode cX11_where 21 = .ok (.invokevirtual 236, 3) := by decide +kernel
theorem dX11_where_24 : decode cX11_where 24 = .ok (.aload_n 0, 1) := by decide +kernel
theorem dX11_where_25 : decode cX11_where 25 = .ok (.aload_n 0, 1) := by decide +kernel
theorem dX11_where_26 : decode cX11_where 26 = .ok (.getfield 35, 3) := by decide +kernel
theorem dX11_where_29 : decode cX11_where 29 = .ok (.iload_n 1, 1) := by decide +kernel
theorem dX11_where_30 : decode cX11_where 30 = .ok (.aaload, 1) := by decide +kernel
theorem dX11_where_31 : decode cX11_where 31 = .ok (.aload_n 0, 1) := by decide +kernel
theorem dX11_where_32 : decode cX11_where 32 = .ok (.getfield 23, 3) := by decide +kernel
theorem dX11_where_35 : decode cX11_where 35 = .ok (.iload_n 2, 1) := by decide +kernel
theorem dX11_where_36 : decode cX11_where 36 = .ok (.aaload, 1) := by decide +kernel
theorem dX11_where_37 : decode cX11_where 37 = .ok (.getfield 191, 3) := by decide +kernel
theorem dX11_where_40 : decode cX11_where 40 = .ok (.invokevirtual 409, 3) := by decide +kernel
theorem dX11_where_43 : decode cX11_where 43 = .ok (.aload_n 0, 1) := by decide +kernel
theorem dX11_where_44 : decode cX11_where 44 = .ok (.getfield 58, 3) := by decide +kernel
theorem dX11_where_47 : decode cX11_where 47 = .ok (.aload_n 0, 1) := by decide +kernel
theorem dX11_where_48 : decode cX11_where 48 = .ok (.getfield 23, 3) := by decide +kernel
theorem dX11_where_51 : decode cX11_where 51 = .ok (.iload_n 2, 1) := by decide +kernel
theorem dX11_where_52 : decode cX11_where 52 = .ok (.aaload, 1) := by decide +kernel
theorem dX11_where_53 : decode cX11_where 53 = .ok (.aload_n 0, 1) := by decide +kernel
theorem dX11_where_54 : decode cX11_where 54 = .ok (.getfield 29, 3) := by decide +kernel
theorem dX11_where_57 : decode cX11_where 57 = .ok (.iload_n 3, 1) := by decide +kernel
theorem dX11_where_58 : decode cX11_where 58 = .ok (.aaload, 1) := by decide +kernel
theorem dX11_where_59 : decode cX11_where 59 = .ok (.invokevirtual 381, 3) := by decide +kernel
theorem dX11_where_62 : decode cX11_where 62 = .ok (.aload_n 0, 1) := by decide +kernel
theorem dX11_where_63 : decode cX11_where 63 = .ok (.getfield 58, 3) := by decide +kernel
theorem dX11_where_66 : decode cX11_where 66 = .ok (.invokevirtual 406, 3) := by decide +kernel
theorem dX11_where_69 : decode cX11_where 69 = .ok (.istore 5, 2) := by decide +kernel
theorem dX11_where_71 : decode cX11_where 71 = .ok (.aload_n 0, 1) := by decide +kernel
theorem dX11_where_72 : decode cX11_where 72 = .ok (.aload_n 0, 1) := by decide +kernel
theorem dX11_where_73 : decode cX11_where 73 = .ok (.getfield 58, 3) := by decide +kernel
theorem dX11_where_76 : decode cX11_where 76 = .ok (.iload 5, 2) := by decide +kernel
theorem dX11_where_78 : decode cX11_where 78 = .ok (.invokevirtual 403, 3) := by decide +kernel
theorem dX11_where_81 : decode cX11_where 81 = .ok (.iload 5, 2) := by decide +kernel
theorem dX11_where_83 : decode cX11_where 83 = .ok (.invokevirtual 143, 3) := by decide +kernel
theorem dX11_where_86 : decode cX11_where 86 = .ok (.ireturn, 1) := by decide +kernel
theorem dX11_tonight_0 : decode cX11_tonight 0 = .ok (.iload_n 1, 1) := by decide +kernel
theorem dX11_tonight_1 : decode cX11_tonight 1 = .ok (.invokestatic 181, 3) := by decide +kernel
theorem dX11_tonight_4 : decode cX11_tonight 4 = .ok (.ifCond .eq 17, 3) := by decide +kernel
theorem dX11_tonight_7 : decode cX11_tonight 7 = .ok (.iload_n 2, 1) := by decide +kernel
theorem dX11_tonight_8 : decode cX11_tonight 8 = .ok (.invokestatic 194, 3) := by decide +kernel
theorem dX11_tonight_11 : decode cX11_tonight 11 = .ok (.ifCond .eq 10, 3) := by decide +kernel
theorem dX11_tonight_14 : decode cX11_tonight 14 = .ok (.iload_n 3, 1) := by decide +kernel
theorem dX11_tonight_15 : decode cX11_tonight 15 = .ok (.invokestatic 125, 3) := by decide +kernel
theorem dX11_tonight_18 : decode cX11_tonight 18 = .ok (.ifCond .ne 5, 3) := by decide +kernel
theorem dX11_tonight_21 : decode cX11_tonight 21 = .ok (.iconst (-1), 1) := by decide +kernel
theorem dX11_tonight_22 : decode cX11_tonight 22 = .ok (.ireturn, 1) := by decide +kernel
theorem dX11_tonight_23 : decode cX11_tonight 23 = .ok (.aload_n 0, 1) := by decide +kernel
theorem dX11_tonight_24 : decode cX11_tonight 24 = .ok (.getfield 23, 3) := by decide +kernel
theorem dX11_tonight_27 : decode cX11_tonight 27 = .ok (.iload_n 1, 1) := by decide +kernel
theorem dX11_tonight_28 : decode cX11_tonight 28 = .ok (.aaload, 1) := by decide +kernel
theorem dX11_tonight_29 : decode cX11_tonight 29 = .ok (.getfield 206, 3) := by decide +kernel
theorem dX11_tonight_32 : decode cX11_tonight 32 = .ok (.ifCond .eq 15, 3) := by decide +kernel
theorem dX11_tonight_35 : decode cX11_tonight 35 = .ok (.aload_n 0, 1) := by decide +kernel
theorem dX11_tonight_36 : decode cX11_tonight 36 = .ok (.getfield 29, 3) := by decide +kernel
theorem dX11_tonight_39 : decode cX11_tonight 39 = .ok (.iload_n 2, 1) := by decide +kernel
theorem dX11_tonight_40 : decode cX11_tonight 40 = .ok (.aaload, 1) := by decide +kernel
theorem dX11_tonight_41 : decode cX11_tonight 41 = .ok (.getfield 121, 3) := by decide +kernel
theorem dX11_tonight_44 : decode cX11_tonight 44 = .ok (.ifCond .ne 9, 3) := by decide +kernel
theorem dX11_tonight_47 : decode cX11_tonight 47 = .ok (.aload_n 0, 1) := by decide +kernel
theorem dX11_tonight_48 : decode cX11_tonight 48 = .ok (.iconst 1, 1) := by decide +kernel
theorem dX11_tonight_49 : decode cX11_tonight 49 = .ok (.invokevirtual 129, 3) := by decide +kernel
theorem dX11_tonight_52 : decode cX11_tonight 52 = .ok (.ireturn, 1) := by decide +kernel
theorem dX11_tonight_53 : decode cX11_tonight 53 = .ok (.aload_n 0, 1) := by decide +kernel
theorem dX11_tonight_54 : decode cX11_tonight 54 = .ok (.iconst 2, 1) := by decide +kernel
theorem dX11_tonight_55 : decode cX11_tonight 55 = .ok (.invokevirtual 413, 3) := by decide +kernel
theorem dX11_tonight_58 : decode cX11_tonight 58 = .ok (.istore 4, 2) := by decide +kernel
theorem dX11_tonight_60 : decode cX11_tonight 60 = .ok (.iload 4, 2) := by decide +kernel
theorem dX11_tonight_62 : decode cX11_tonight 62 = .ok (.iconst 1, 1) := by decide +kernel
theorem dX11_tonight_63 : decode cX11_tonight 63 = .ok (.if_icmp .ge 6, 3) := by decide +kernel
theorem dX11_tonight_66 : decode cX11_tonight 66 = .ok (.bipush (-4), 2) := by decide +kernel
theorem dX11_tonight_68 : decode cX11_tonight 68 = .ok (.ireturn, 1) := by decide +kernel
theorem dX11_tonight_69 : decode cX11_tonight 69 = .ok (.aload_n 0, 1) := by decide +kernel
theorem dX11_tonight_70 : decode cX11_tonight 70 = .ok (.getfield 23, 3) := by decide +kernel
theorem dX11_tonight_73 : decode cX11_tonight 73 = .ok (.iload_n 1, 1) := by decide +kernel
theorem dX11_tonight_74 : decode cX11_tonight 74 = .ok (.aaload, 1) := by decide +kernel
theorem dX11_tonight_75 : decode cX11_tonight 75 = .ok (.getfield 191, 3) := by decide +kernel
theorem dX11_tonight_78 : decode cX11_tonight 78 = .ok (.istore 5, 2) := by decide +kernel
theorem dX11_tonight_80 : decode cX11_tonight 80 = .ok (.aload_n 0, 1) := by decide +kernel
theorem dX11_tonight_81 : decode cX11_tonight 81 = .ok (.getfield 58, 3) := by decide +kernel
theorem dX11_tonight_84 : decode cX11_tonight 84 = .ok (.invokevirtual 236, 3) := by decide +kernel
theorem dX11_tonight_87 : decode cX11_tonight 87 = .ok (.iconst 0, 1) := by decide +kernel
theorem dX11_tonight_88 : decode cX11_tonight 88 = .ok (.istore 6, 2) := by decide +kernel
theorem dX11_tonight_90 : decode cX11_tonight 90 = .ok (.iload 6, 2) := by decide +kernel
theorem dX11_tonight_92 : decode cX11_tonight 92 = .ok (.iconst 3, 1) := by decide +kernel
theorem dX11_tonight_93 : decode cX11_tonight 93 = .ok (.if_icmp .ge 35, 3) := by decide +kernel
theorem dX11_tonight_96 : decode cX11_tonight 96 = .ok (.aload_n 0, 1) := by decide +kernel
theorem dX11_tonight_97 : decode cX11_tonight 97 = .ok (.getfield 35, 3) := by decide +kernel
theorem dX11_tonight_100 : decode cX11_tonight 100 = .ok (.iload 6, 2) := by decide +kernel
theorem dX11_tonight_102 : decode cX11_tonight 102 = .ok (.aaload, 1) := by decide +kernel
theorem dX11_tonight_103 : decode cX11_tonight 103 = .ok (.getfield 232, 3) := by decide +kernel
theorem dX11_tonight_106 : decode cX11_tonight 106 = .ok (.ifCond .eq 16, 3) := by decide +kernel
theorem dX11_tonight_109 : decode cX11_tonight 109 = .ok (.aload_n 0, 1) := by decide +kernel
theorem dX11_tonight_110 : decode cX11_tonight 110 = .ok (.aload_n 0, 1) := by decide +kernel
theorem dX11_tonight_111 : decode cX11_tonight 111 = .ok (.getfield 35, 3) := by decide +kernel
theorem dX11_tonight_114 : decode cX11_tonight 114 = .ok (.iload 6, 2) := by decide +kernel
theorem dX11_tonight_116 : decode cX11_tonight 116 = .ok (.aaload, 1) := by decide +kernel
theorem dX11_tonight_117 : decode cX11_tonight 117 = .ok (.iload 5, 2) := by decide +kernel
theorem dX11_tonight_119 : decode cX11_tonight 119 = .ok (.invokevirtual 409, 3) := by decide +kernel
theorem dX11_tonight_122 : decode cX11_tonight 122 = .ok (.iinc 6 1, 3) := by decide +kernel
theorem dX11_tonight_125 : decode cX11_tonight 125 = .ok (.goto (-35), 3) := by decide +kernel
theorem dX11_tonight_128 : decode cX11_tonight 128 = .ok (.aload_n 0, 1) := by decide +kernel
theorem dX11_tonight_129 : decode cX11_tonight 129 = .ok (.getfield 58, 3) := by decide +kernel
theorem dX11_tonight_132 : decode cX11_tonight 132 = .ok (.aload_n 0, 1) := by decide +kernel
theorem dX11_tonight_133 : decode cX11_tonight 133 = .ok (.getfield 23, 3) := by decide +kernel
theorem dX11_tonight_136 : decode cX11_tonight 136 = .ok (.iload_n 1, 1) := by decide +kernel
theorem dX11_tonight_137 : decode cX11_tonight 137 = .ok (.aaload, 1) := by decide +kernel
theorem dX11_tonight_138 : decode cX11_tonight 138 = .ok (.aload_n 0, 1) := by decide +kernel
theorem dX11_tonight_139 : decode cX11_tonight 139 = .ok (.getfield 29, 3) := by decide +kernel
theorem dX11_tonight_142 : decode cX11_tonight 142 = .ok (.iload_n 2, 1) := by decide +kernel
theorem dX11_tonight_143 : decode cX11_tonight 143 = .ok (.aaload, 1) := by decide +kernel
theorem dX11_tonight_144 : decode cX11_tonight 144 = .ok (.invokevirtual 381, 3) := by decide +kernel
theorem dX11_tonight_147 : decode cX11_tonight 147 = .ok (.aload_n 0, 1) := by decide +kernel
theorem dX11_tonight_148 : decode cX11_tonight 148 = .ok (.aload_n 0, 1) := by decide +kernel
theorem dX11_tonight_149 : decode cX11_tonight 149 = .ok (.iload 4, 2) := by decide +kernel
theorem dX11_tonight_151 : decode cX11_tonight 151 = .ok (.iload 5, 2) := by decide +kernel
theorem dX11_tonight_153 : decode cX11_tonight 153 = .ok (.invokevirtual 416, 3) := by decide +kernel
theorem dX11_tonight_156 : decode cX11_tonight 156 = .ok (.iload 4, 2) := by decide +kernel
theorem dX11_tonight_158 : decode cX11_tonight 158 = .ok (.iload 5, 2) := by decide +kernel
theorem dX11_tonight_160 : decode cX11_tonight 160 = .ok (.invokevirtual 419, 3) := by decide +kernel
theorem dX11_tonight_163 : decode cX11_tonight 163 = .ok (.aload_n 0, 1) := by decide +kernel
theorem dX11_tonight_164 : decode cX11_tonight 164 = .ok (.getfield 11, 3) := by decide +kernel
theorem dX11_tonight_167 : decode cX11_tonight 167 = .ok (.iload_n 3, 1) := by decide +kernel
theorem dX11_tonight_168 : decode cX11_tonight 168 = .ok (.aaload, 1) := by decide +kernel
theorem dX11_tonight_169 : decode cX11_tonight 169 = .ok (.iload 4, 2) := by decide +kernel
theorem dX11_tonight_171 : decode cX11_tonight 171 = .ok (.invokevirtual 133, 3) := by decide +kernel
theorem dX11_tonight_174 : decode cX11_tonight 174 = .ok (.iconst 0, 1) := by decide +kernel
theorem dX11_tonight_175 : decode cX11_tonight 175 = .ok (.istore 6, 2) := by decide +kernel
theorem dX11_tonight_177 : decode cX11_tonight 177 = .ok (.iload 6, 2) := by decide +kernel
theorem dX11_tonight_179 : decode cX11_tonight 179 = .ok (.iload 4, 2) := by decide +kernel
theorem dX11_tonight_181 : decode cX11_tonight 181 = .ok (.if_icmp .ge 34, 3) := by decide +kernel
theorem dX11_tonight_184 : decode cX11_tonight 184 = .ok (.iload 6, 2) := by decide +kernel
theorem dX11_tonight_186 : decode cX11_tonight 186 = .ok (.iconst 3, 1) := by decide +kernel
theorem dX11_tonight_187 : decode cX11_tonight 187 = .ok (.if_icmp .ge 28, 3) := by decide +kernel
theorem dX11_tonight_190 : decode cX11_tonight 190 = .ok (.aload_n 0, 1) := by decide +kernel
theorem dX11_tonight_191 : decode cX11_tonight 191 = .ok (.getfield 11, 3) := by decide +kernel
theorem dX11_tonight_194 : decode cX11_tonight 194 = .ok (.iload_n 3, 1) := by decide +kernel
theorem dX11_tonight_195 : decode cX11_tonight 195 = .ok (.aaload, 1) := by decide +kernel
theorem dX11_tonight_196 : decode cX11_tonight 196 = .ok (.getfield 140, 3) := by decide +kernel
theorem dX11_tonight_199 : decode cX11_tonight 199 = .ok (.iload 6, 2) := by decide +kernel
theorem dX11_tonight_201 : decode cX11_tonight 201 = .ok (.aload_n 0, 1) := by decide +kernel
theorem dX11_tonight_202 : decode cX11_tonight 202 = .ok (.getfield 90, 3) := by decide +kernel
theorem dX11_tonight_205 : decode cX11_tonight 205 = .ok (.iload 6, 2) := by decide +kernel
theorem dX11_tonight_207 : decode cX11_tonight 207 = .ok (.iaload, 1) := by decide +kernel
theorem dX11_tonight_208 : decode cX11_tonight 208 = .ok (.iastore, 1) := by decide +kernel
theorem dX11_tonight_209 : decode cX11_tonight 209 = .ok (.iinc 6 1, 3) := by decide +kernel
theorem dX11_tonight_212 : decode cX11_tonight 212 = .ok (.goto (-35), 3) := by decide +kernel
theorem dX11_tonight_215 : decode cX11_tonight 215 = .ok (.aload_n 0, 1) := by decide +kernel
theorem dX11_tonight_216 : decode cX11_tonight 216 = .ok (.aload_n 0, 1) := by decide +kernel
theorem dX11_tonight_217 : decode cX11_tonight 217 = .ok (.iload 4, 2) := by decide +kernel
theorem dX11_tonight_219 : decode cX11_tonight 219 = .ok (.iload 5, 2) := by decide +kernel
theorem dX11_tonight_221 : decode cX11_tonight 221 = .ok (.invokevirtual 423, 3) := by decide +kernel
theorem dX11_tonight_224 : decode cX11_tonight 224 = .ok (.aload_n 0, 1) := by decide +kernel
theorem dX11_tonight_225 : decode cX11_tonight 225 = .ok (.iload 4, 2) := by decide +kernel
theorem dX11_tonight_227 : decode cX11_tonight 227 = .ok (.iload 5, 2) := by decide +kernel
theorem dX11_tonight_229 : decode cX11_tonight 229 = .ok (.invokevirtual 426, 3) := by decide +kernel
theorem dX11_tonight_232 : decode cX11_tonight 232 = .ok (.invokevirtual 143, 3) := by decide +kernel
theorem dX11_tonight_235 : decode cX11_tonight 235 = .ok (.ireturn, 1) := by decide +kernel
theorem dX11_odds_0 : decode cX11_odds 0 = .ok (.iload_n 1, 1) := by decide +kernel
theorem dX11_odds_1 : decode cX11_odds 1 = .ok (.invokestatic 222, 3) := by decide +kernel
theorem dX11_odds_4 : decode cX11_odds 4 = .ok (.ifCond .eq 10, 3) := by decide +kernel
theorem dX11_odds_7 : decode cX11_odds 7 = .ok (.iload_n 2, 1) := by decide +kernel
theorem dX11_odds_8 : decode cX11_odds 8 = .ok (.invokestatic 181, 3) := by decide +kernel
theorem dX11_odds_11 : decode cX11_odds 11 = .ok (.ifCond .ne 5, 3) := by decide +kernel
theorem dX11_odds_14 : decode cX11_odds 14 = .ok (.iconst (-1), 1) := by decide +kernel
theorem dX11_odds_15 : decode cX11_odds 15 = .ok (.ireturn, 1) := by decide +kernel
theorem dX11_odds_16 : decode cX11_odds 16 = .ok (.aload_n 0, 1) := by decide +kernel
theorem dX11_odds_17 : decode cX11_odds 17 = .ok (.getfield 35, 3) := by decide +kernel
theorem dX11_odds_20 : decode cX11_odds 20 = .ok (.iload_n 1, 1) := by decide +kernel
theorem dX11_odds_21 : decode cX11_odds 21 = .ok (.aaload, 1) := by decide +kernel
theorem dX11_odds_22 : decode cX11_odds 22 = .ok (.getfield 232, 3) := by decide +kernel
theorem dX11_odds_25 : decode cX11_odds 25 = .ok (.ifCond .ne 6, 3) := by decide +kernel
theorem dX11_odds_28 : decode cX11_odds 28 = .ok (.bipush (-4), 2) := by decide +kernel
theorem dX11_odds_30 : decode cX11_odds 30 = .ok (.ireturn, 1) := by decide +kernel
theorem dX11_odds_31 : decode cX11_odds 31 = .ok (.aload_n 0, 1) := by decide +kernel
theorem dX11_odds_32 : decode cX11_odds 32 = .ok (.getfield 23, 3) := by decide +kernel
theorem dX11_odds_35 : decode cX11_odds 35 = .ok (.iload_n 2, 1) := by decide +kernel
theorem dX11_odds_36 : decode cX11_odds 36 = .ok (.aaload, 1) := by decide +kernel
theorem dX11_odds_37 : decode cX11_odds 37 = .ok (.getfield 206, 3) := by decide +kernel
theorem dX11_odds_40 : decode cX11_odds 40 = .ok (.ifCond .eq 10, 3) := by decide +kernel
theorem dX11_odds_43 : decode cX11_odds 43 = .ok (.aload_n 0, 1) := by decide +kernel
theorem dX11_odds_44 : decode cX11_odds 44 = .ok (.invokevirtual 390, 3) := by decide +kernel
theorem dX11_odds_47 : decode cX11_odds 47 = .ok (.ifCond .ne 9, 3) := by decide +kernel
theorem dX11_odds_50 : decode cX11_odds 50 = .ok (.aload_n 0, 1) := by decide +kernel
theorem dX11_odds_51 : decode cX11_odds 51 = .ok (.iconst 1, 1) := by decide +kernel
theorem dX11_odds_52 : decode cX11_odds 52 = .ok (.invokevirtual 129, 3) := by decide +kernel
theorem dX11_odds_55 : decode cX11_odds 55 = .ok (.ireturn, 1) := by decide +kernel
theorem dX11_odds_56 : decode cX11_odds 56 = .ok (.aload_n 0, 1) := by decide +kernel
theorem dX11_odds_57 : decode cX11_odds 57 = .ok (.getfield 23, 3) := by decide +kernel
theorem dX11_odds_60 : decode cX11_odds 60 = .ok (.iload_n 2, 1) := by decide +kernel
theorem dX11_odds_61 : decode cX11_odds 61 = .ok (.aaload, 1) := by decide +kernel
theorem dX11_odds_62 : decode cX11_odds 62 = .ok (.aload_n 0, 1) := by decide +kernel
theorem dX11_odds_63 : decode cX11_odds 63 = .ok (.getfield 35, 3) := by decide +kernel
theorem dX11_odds_66 : decode cX11_odds 66 = .ok (.iload_n 1, 1) := by decide +kernel
theorem dX11_odds_67 : decode cX11_odds 67 = .ok (.aaload, 1) := by decide +kernel
theorem dX11_odds_68 : decode cX11_odds 68 = .ok (.getfield 233, 3) := by decide +kernel
theorem dX11_odds_71 : decode cX11_odds 71 = .ok (.invokevirtual 207, 3) := by decide +kernel
theorem dX11_odds_74 : decode cX11_odds 74 = .ok (.ifCond .ne 9, 3) := by decide +kernel
theorem dX11_odds_77 : decode cX11_odds 77 = .ok (.aload_n 0, 1) := by decide +kernel
theorem dX11_odds_78 : decode cX11_odds 78 = .ok (.iconst 2, 1) := by decide +kernel
theorem dX11_odds_79 : decode cX11_odds 79 = .ok (.invokevirtual 129, 3) := by decide +kernel
theorem dX11_odds_82 : decode cX11_odds 82 = .ok (.ireturn, 1) := by decide +kernel
theorem dX11_odds_83 : decode cX11_odds 83 = .ok (.iconst 0, 1) := by decide +kernel
theorem dX11_odds_84 : decode cX11_odds 84 = .ok (.istore_n 3, 1) := by decide +kernel
theorem dX11_odds_85 : decode cX11_odds 85 = .ok (.iconst 0, 1) := by decide +kernel
theorem dX11_odds_86 : decode cX11_odds 86 = .ok (.istore 4, 2) := by decide +kernel
theorem dX11_odds_88 : decode cX11_odds 88 = .ok (.iload 4, 2) := by decide +kernel
theorem dX11_odds_90 : decode cX11_odds 90 = .ok (.iconst 4, 1) := by decide +kernel
theorem dX11_odds_91 : decode cX11_odds 91 = .ok (.if_icmp .ge 66, 3) := by decide +kernel
theorem dX11_odds_94 : decode cX11_odds 94 = .ok (.aload_n 0, 1) := by decide +kernel
theorem dX11_odds_95 : decode cX11_odds 95 = .ok (.getfield 29, 3) := by decide +kernel
theorem dX11_odds_98 : decode cX11_odds 98 = .ok (.iload 4, 2) := by decide +kernel
theorem dX11_odds_100 : decode cX11_odds 100 = .ok (.aaload, 1) := by decide +kernel
theorem dX11_odds_101 : decode cX11_odds 101 = .ok (.getfield 121, 3) := by decide +kernel
theorem dX11_odds_104 : decode cX11_odds 104 = .ok (.ifCond .eq 47, 3) := by decide +kernel
theorem dX11_odds_107 : decode cX11_odds 107 = .ok (.aload_n 0, 1) := by decide +kernel
theorem dX11_odds_108 : decode cX11_odds 108 = .ok (.aload_n 0, 1) := by decide +kernel
theorem dX11_odds_109 : decode cX11_odds 109 = .ok (.getfield 35, 3) := by decide +kernel
theorem dX11_odds_112 : decode cX11_odds 112 = .ok (.iload_n 1, 1) := by decide +kernel
theorem dX11_odds_113 : decode cX11_odds 113 = .ok (.aaload, 1) := by decide +kernel
theorem dX11_odds_114 : decode cX11_odds 114 = .ok (.aload_n 0, 1) := by decide +kernel
theorem dX11_odds_115 : decode cX11_odds 115 = .ok (.getfield 23, 3) := by decide +kernel
theorem dX11_odds_118 : decode cX11_odds 118 = .ok (.iload_n 2, 1) := by decide +kernel
theorem dX11_odds_119 : decode cX11_odds 119 = .ok (.aaload, 1) := by decide +kernel
theorem dX11_odds_120 : decode cX11_odds 120 = .ok (.aload_n 0, 1) := by decide +kernel
theorem dX11_odds_121 : decode cX11_odds 121 = .ok (.getfield 29, 3) := by decide +kernel
theorem dX11_odds_124 : decode cX11_odds 124 = .ok (.iload 4, 2) := by decide +kernel
theorem dX11_odds_126 : decode cX11_odds 126 = .ok (.aaload, 1) := by decide +kernel
theorem dX11_odds_127 : decode cX11_odds 127 = .ok (.invokevirtual 396, 3) := by decide +kernel
theorem dX11_odds_130 : decode cX11_odds 130 = .ok (.iload_n 3, 1) := by decide +kernel
theorem dX11_odds_131 : decode cX11_odds 131 = .ok (.aload_n 0, 1) := by decide +kernel
theorem dX11_odds_132 : decode cX11_odds 132 = .ok (.getfield 58, 3) := by decide +kernel
theorem dX11_odds_135 : decode cX11_odds 135 = .ok (.iconst 0, 1) := by decide +kernel
theorem dX11_odds_136 : decode cX11_odds 136 = .ok (.invokevirtual 400, 3) := by decide +kernel
theorem dX11_odds_139 : decode cX11_odds 139 = .ok (.bipush (-9), 2) := by decide +kernel
theorem dX11_odds_141 : decode cX11_odds 141 = .ok (.if_icmp .ne 7, 3) := by decide +kernel
theorem dX11_odds_144 : decode cX11_odds 144 = .ok (.iconst 0, 1) := by decide +kernel
theorem dX11_odds_145 : decode cX11_odds 145 = .ok (.goto 4, 3) := by decide +kernel
theorem dX11_odds_148 : decode cX11_odds 148 = .ok (.iconst 1, 1) := by decide +kernel
theorem dX11_odds_149 : decode cX11_odds 149 = .ok (.iadd, 1) := by decide +kernel
theorem dX11_odds_150 : decode cX11_odds 150 = .ok (.istore_n 3, 1) := by decide +kernel
theorem dX11_odds_151 : decode cX11_odds 151 = .ok (.iinc 4 1, 3) := by decide +kernel
theorem dX11_odds_154 : decode cX11_odds 154 = .ok (.goto (-66), 3) := by decide +kernel
theorem dX11_odds_157 : decode cX11_odds 157 = .ok (.aload_n 0, 1) := by decide +kernel
theorem dX11_odds_158 : decode cX11_odds 158 = .ok (.getfield 110, 3) := by decide +kernel
theorem dX11_odds_161 : decode cX11_odds 161 = .ok (.iload_n 3, 1) := by decide +kernel
theorem dX11_odds_162 : decode cX11_odds 162 = .ok (.aload_n 0, 1) := by decide +kernel
theorem dX11_odds_163 : decode cX11_odds 163 = .ok (.iconst 1, 1) := by decide +kernel
theorem dX11_odds_164 : decode cX11_odds 164 = .ok (.invokevirtual 413, 3) := by decide +kernel
theorem dX11_odds_167 : decode cX11_odds 167 = .ok (.invokevirtual 335, 3) := by decide +kernel
theorem dX11_odds_170 : decode cX11_odds 170 = .ok (.iload_n 3, 1) := by decide +kernel
theorem dX11_odds_171 : decode cX11_odds 171 = .ok (.ireturn, 1) := by decide +kernel
theorem dX11_refusedShip_0 : decode cX11_refusedShip 0 = .ok (.iload_n 1, 1) := by decide +kernel
theorem dX11_refusedShip_1 : decode cX11_refusedShip 1 = .ok (.invokestatic 222, 3) := by decide +kernel
theorem dX11_refusedShip_4 : decode cX11_refusedShip 4 = .ok (.ifCond .eq 17, 3) := by decide +kernel
theorem dX11_refusedShip_7 : decode cX11_refusedShip 7 = .ok (.iload_n 2, 1) := by decide +kernel
theorem dX11_refusedShip_8 : decode cX11_refusedShip 8 = .ok (.invokestatic 181, 3) := by decide +kernel
theorem dX11_refusedShip_11 : decode cX11_refusedShip 11 = .ok (.ifCond .eq 10, 3) := by decide +kernel
theorem dX11_refusedShip_14 : decode cX11_refusedShip 14 = .ok (.iload_n 3, 1) := by decide +kernel
theorem dX11_refusedShip_15 : decode cX11_refusedShip 15 = .ok (.invokestatic 194, 3) := by decide +kernel
theorem dX11_refusedShip_18 : decode cX11_refusedShip 18 = .ok (.ifCond .ne 5, 3) := by decide +kernel
theorem dX11_refusedShip_21 : decode cX11_refusedShip 21 = .ok (.iconst (-1), 1) := by decide +kernel
theorem dX11_refusedShip_22 : decode cX11_refusedShip 22 = .ok (.ireturn, 1) := by decide +kernel
theorem dX11_refusedShip_23 : decode cX11_refusedShip 23 = .ok (.aload_n 0, 1) := by decide +kernel
theorem dX11_refusedShip_24 : decode cX11_refusedShip 24 = .ok (.getfield 35, 3) := by decide +kernel
theorem dX11_refusedShip_27 : decode cX11_refusedShip 27 = .ok (.iload_n 1, 1) := by decide +kernel
theorem dX11_refusedShip_28 : decode cX11_refusedShip 28 = .ok (.aaload, 1) := by decide +kernel
theorem dX11_refusedShip_29 : decode cX11_refusedShip 29 = .ok (.getfield 232, 3) := by decide +kernel
theorem dX11_refusedShip_32 : decode cX11_refusedShip 32 = .ok (.ifCond .ne 6, 3) := by decide +kernel
theorem dX11_refusedShip_35 : decode cX11_refusedShip 35 = .ok (.bipush (-4), 2) := by decide +kernel
theorem dX11_refusedShip_37 : decode cX11_refusedShip 37 = .ok (.ireturn, 1) := by decide +kernel
theorem dX11_refusedShip_38 : decode cX11_refusedShip 38 = .ok (.aload_n 0, 1) := by decide +kernel
theorem dX11_refusedShip_39 : decode cX11_refusedShip 39 = .ok (.getfield 23, 3) := by decide +kernel
theorem dX11_refusedShip_42 : decode cX11_refusedShip 42 = .ok (.iload_n 2, 1) := by decide +kernel
theorem dX11_refusedShip_43 : decode cX11_refusedShip 43 = .ok (.aaload, 1) := by decide +kernel
theorem dX11_refusedShip_44 : decode cX11_refusedShip 44 = .ok (.getfield 206, 3) := by decide +kernel
theorem dX11_refusedShip_47 : decode cX11_refusedShip 47 = .ok (.ifCond .eq 15, 3) := by decide +kernel
theorem dX11_refusedShip_50 : decode cX11_refusedShip 50 = .ok (.aload_n 0, 1) := by decide +kernel
theorem dX11_refusedShip_51 : decode cX11_refusedShip 51 = .ok (.getfield 29, 3) := by decide +kernel
theorem dX11_refusedShip_54 : decode cX11_refusedShip 54 = .ok (.iload_n 3, 1) := by decide +kernel
theorem dX11_refusedShip_55 : decode cX11_refusedShip 55 = .ok (.aaload, 1) := by decide +kernel
theorem dX11_refusedShip_56 : decode cX11_refusedShip 56 = .ok (.getfield 121, 3) := by decide +kernel
theorem dX11_refusedShip_59 : decode cX11_refusedShip 59 = .ok (.ifCond .ne 9, 3) := by decide +kernel
theorem dX11_refusedShip_62 : decode cX11_refusedShip 62 = .ok (.aload_n 0, 1) := by decide +kernel
theorem dX11_refusedShip_63 : decode cX11_refusedShip 63 = .ok (.iconst 1, 1) := by decide +kernel
theorem dX11_refusedShip_64 : decode cX11_refusedShip 64 = .ok (.invokevirtual 129, 3) := by decide +kernel
theorem dX11_refusedShip_67 : decode cX11_refusedShip 67 = .ok (.ireturn, 1) := by decide +kernel
theorem dX11_refusedShip_68 : decode cX11_refusedShip 68 = .ok (.iconst 0, 1) := by decide +kernel
theorem dX11_refusedShip_69 : decode cX11_refusedShip 69 = .ok (.ireturn, 1) := by decide +kernel
theorem dX11_wakeShip_0 : decode cX11_wakeShip 0 = .ok (.aload_n 0, 1) := by decide +kernel
theorem dX11_wakeShip_1 : decode cX11_wakeShip 1 = .ok (.getfield 58, 3) := by decide +kernel
theorem dX11_wakeShip_4 : decode cX11_wakeShip 4 = .ok (.invokevirtual 236, 3) := by decide +kernel
theorem dX11_wakeShip_7 : decode cX11_wakeShip 7 = .ok (.aload_n 0, 1) := by decide +kernel
theorem dX11_wakeShip_8 : decode cX11_wakeShip 8 = .ok (.getfield 58, 3) := by decide +kernel
theorem dX11_wakeShip_11 : decode cX11_wakeShip 11 = .ok (.aload_n 1, 1) := by decide +kernel
theorem dX11_wakeShip_12 : decode cX11_wakeShip 12 = .ok (.aload_n 1, 1) := by decide +kernel
theorem dX11_wakeShip_13 : decode cX11_wakeShip 13 = .ok (.getfield 233, 3) := by decide +kernel
theorem dX11_wakeShip_16 : decode cX11_wakeShip 16 = .ok (.aload_n 1, 1) := by decide +kernel
theorem dX11_wakeShip_17 : decode cX11_wakeShip 17 = .ok (.getfield 239, 3) := by decide +kernel
theorem dX11_wakeShip_20 : decode cX11_wakeShip 20 = .ok (.invokevirtual 242, 3) := by decide +kernel
theorem dX11_wakeShip_23 : decode cX11_wakeShip 23 = .ok (.aload_n 0, 1) := by decide +kernel
theorem dX11_wakeShip_24 : decode cX11_wakeShip 24 = .ok (.getfield 58, 3) := by decide +kernel
theorem dX11_wakeShip_27 : decode cX11_wakeShip 27 = .ok (.aload_n 2, 1) := by decide +kernel
theorem dX11_wakeShip_28 : decode cX11_wakeShip 28 = .ok (.aload_n 3, 1) := by decide +kernel
theorem dX11_wakeShip_29 : decode cX11_wakeShip 29 = .ok (.invokevirtual 381, 3) := by decide +kernel
theorem dX11_wakeShip_32 : decode cX11_wakeShip 32 = .ok (.return_, 1) := by decide +kernel
theorem dX11_quietOf_0 : decode cX11_quietOf 0 = .ok (.aload_n 0, 1) := by decide +kernel
theorem dX11_quietOf_1 : decode cX11_quietOf 1 = .ok (.getfield 58, 3) := by decide +kernel
theorem dX11_quietOf_4 : decode cX11_quietOf 4 = .ok (.invokevirtual 236, 3) := by decide +kernel
theorem dX11_quietOf_7 : decode cX11_quietOf 7 = .ok (.aload_n 0, 1) := by decide +kernel
theorem dX11_quietOf_8 : decode cX11_quietOf 8 = .ok (.getfield 58, 3) := by decide +kernel
theorem dX11_quietOf_11 : decode cX11_quietOf 11 = .ok (.aload_n 1, 1) := by decide +kernel
theorem dX11_quietOf_12 : decode cX11_quietOf 12 = .ok (.aload_n 2, 1) := by decide +kernel
theorem dX11_quietOf_13 : decode cX11_quietOf 13 = .ok (.invokevirtual 381, 3) := by decide +kernel
theorem dX11_quietOf_16 : decode cX11_quietOf 16 = .ok (.aload_n 0, 1) := by decide +kernel
theorem dX11_quietOf_17 : decode cX11_quietOf 17 = .ok (.getfield 58, 3) := by decide +kernel
theorem dX11_quietOf_20 : decode cX11_quietOf 20 = .ok (.getfield 251, 3) := by decide +kernel
theorem dX11_quietOf_23 : decode cX11_quietOf 23 = .ok (.aload_n 0, 1) := by decide +kernel
theorem dX11_quietOf_24 : decode cX11_quietOf 24 = .ok (.getfield 58, 3) := by decide +kernel
theorem dX11_quietOf_27 : decode cX11_quietOf 27 = .ok (.getfield 251, 3) := by decide +kernel
theorem dX11_quietOf_30 : decode cX11_quietOf 30 = .ok (.invokevirtual 378, 3) := by decide +kernel
theorem dX11_quietOf_33 : decode cX11_quietOf 33 = .ok (.invokevirtual 387, 3) := by decide +kernel
theorem dX11_quietOf_36 : decode cX11_quietOf 36 = .ok (.ireturn, 1) := by decide +kernel
theorem dX11_moorEverywhere_0 : decode cX11_moorEverywhere 0 = .ok (.iconst 0, 1) := by decide +kernel
theorem dX11_moorEverywhere_1 : decode cX11_moorEverywhere 1 = .ok (.istore_n 3, 1) := by decide +kernel
theorem dX11_moorEverywhere_2 : decode cX11_moorEverywhere 2 = .ok (.iload_n 3, 1) := by decide +kernel
theorem dX11_moorEverywhere_3 : decode cX11_moorEverywhere 3 = .ok (.iload_n 2, 1) := by decide +kernel
theorem dX11_moorEverywhere_4 : decode cX11_moorEverywhere 4 = .ok (.if_icmp .ge 28, 3) := by decide +kernel
theorem dX11_moorEverywhere_7 : decode cX11_moorEverywhere 7 = .ok (.iload_n 3, 1) := by decide +kernel
theorem dX11_moorEverywhere_8 : decode cX11_moorEverywhere 8 = .ok (.bipush 16, 2) := by decide +kernel
theorem dX11_moorEverywhere_10 : decode cX11_moorEverywhere 10 = .ok (.if_icmp .ge 22, 3) := by decide +kernel
theorem dX11_moorEverywhere_13 : decode cX11_moorEverywhere 13 = .ok (.aload_n 0, 1) := by decide +kernel
theorem dX11_moorEverywhere_14 : decode cX11_moorEverywhere 14 = .ok (.getfield 58, 3) := by decide +kernel
theorem dX11_moorEverywhere_17 : decode cX11_moorEverywhere 17 = .ok (.aload_n 1, 1) := by decide +kernel
theorem dX11_moorEverywhere_18 : decode cX11_moorEverywhere 18 = .ok (.iload_n 3, 1) := by decide +kernel
theorem dX11_moorEverywhere_19 : decode cX11_moorEverywhere 19 = .ok (.aload_n 1, 1) := by decide +kernel
theorem dX11_moorEverywhere_20 : decode cX11_moorEverywhere 20 = .ok (.getfield 239, 3) := by decide +kernel
theorem dX11_moorEverywhere_23 : decode cX11_moorEverywhere 23 = .ok (.invokevirtual 242, 3) := by decide +kernel
theorem dX11_moorEverywhere_26 : decode cX11_moorEverywhere 26 = .ok (.iinc 3 1, 3) := by decide +kernel
theorem dX11_moorEverywhere_29 : decode cX11_moorEverywhere 29 = .ok (.goto (-27), 3) := by decide +kernel
theorem dX11_moorEverywhere_32 : decode cX11_moorEverywhere 32 = .ok (.return_, 1) := by decide +kernel
theorem dX11_bestBerths_0 : decode cX11_bestBerths 0 = .ok (.iconst 1, 1) := by decide +kernel
theorem dX11_bestBerths_1 : decode cX11_bestBerths 1 = .ok (.istore_n 3, 1) := by decide +kernel
theorem dX11_bestBerths_2 : decode cX11_bestBerths 2 = .ok (.iconst 0, 1) := by decide +kernel
theorem dX11_bestBerths_3 : decode cX11_bestBerths 3 = .ok (.istore 4, 2) := by decide +kernel
theorem dX11_bestBerths_5 : decode cX11_bestBerths 5 = .ok (.iload 4, 2) := by decide +kernel
theorem dX11_bestBerths_7 : decode cX11_bestBerths 7 = .ok (.iload_n 1, 1) := by decide +kernel
theorem dX11_bestBerths_8 : decode cX11_bestBerths 8 = .ok (.if_icmp .ge 13, 3) := by decide +kernel
theorem dX11_bestBerths_11 : decode cX11_bestBerths 11 = .ok (.iload_n 3, 1) := by decide +kernel
theorem dX11_bestBerths_12 : decode cX11_bestBerths 12 = .ok (.iload_n 2, 1) := by decide +kernel
theorem dX11_bestBerths_13 : decode cX11_bestBerths 13 = .ok (.imul, 1) := by decide +kernel
theorem dX11_bestBerths_14 : decode cX11_bestBerths 14 = .ok (.istore_n 3, 1) := by decide +kernel
theorem dX11_bestBerths_15 : decode cX11_bestBerths 15 = .ok (.iinc 4 1, 3) := by decide +kernel
theorem dX11_bestBerths_18 : decode cX11_bestBerths 18 = .ok (.goto (-13), 3) := by decide +kernel
theorem dX11_bestBerths_21 : decode cX11_bestBerths 21 = .ok (.iconst (-1), 1) := by decide +kernel
theorem dX11_bestBerths_22 : decode cX11_bestBerths 22 = .ok (.istore 4, 2) := by decide +kernel
theorem dX11_bestBerths_24 : decode cX11_bestBerths 24 = .ok (.iconst 0, 1) := by decide +kernel
theorem dX11_bestBerths_25 : decode cX11_bestBerths 25 = .ok (.istore 5, 2) := by decide +kernel
theorem dX11_bestBerths_27 : decode cX11_bestBerths 27 = .ok (.iconst 0, 1) := by decide +kernel
theorem dX11_bestBerths_28 : decode cX11_bestBerths 28 = .ok (.istore 6, 2) := by decide +kernel
theorem dX11_bestBerths_30 : decode cX11_bestBerths 30 = .ok (.iconst 0, 1) := by decide +kernel
theorem dX11_bestBerths_31 : decode cX11_bestBerths 31 = .ok (.istore 7, 2) := by decide +kernel
theorem dX11_bestBerths_33 : decode cX11_bestBerths 33 = .ok (.iload 7, 2) := by decide +kernel
theorem dX11_bestBerths_35 : decode cX11_bestBerths 35 = .ok (.iload_n 3, 1) := by decide +kernel
theorem dX11_bestBerths_36 : decode cX11_bestBerths 36 = .ok (.if_icmp .ge 79, 3) := by decide +kernel
theorem dX11_bestBerths_39 : decode cX11_bestBerths 39 = .ok (.aload_n 0, 1) := by decide +kernel
theorem dX11_bestBerths_40 : decode cX11_bestBerths 40 = .ok (.iload 7, 2) := by decide +kernel
theorem dX11_bestBerths_42 : decode cX11_bestBerths 42 = .ok (.iload_n 1, 1) := by decide +kernel
theorem dX11_bestBerths_43 : decode cX11_bestBerths 43 = .ok (.iload_n 2, 1) := by decide +kernel
theorem dX11_bestBerths_44 : decode cX11_bestBerths 44 = .ok (.invokevirtual 419, 3) := by decide +kernel
theorem dX11_bestBerths_47 : decode cX11_bestBerths 47 = .ok (.aload_n 0, 1) := by decide +kernel
theorem dX11_bestBerths_48 : decode cX11_bestBerths 48 = .ok (.iload_n 1, 1) := by decide +kernel
theorem dX11_bestBerths_49 : decode cX11_bestBerths 49 = .ok (.invokevirtual 429, 3) := by decide +kernel
theorem dX11_bestBerths_52 : decode cX11_bestBerths 52 = .ok (.ifCond .eq 57, 3) := by decide +kernel
theorem dX11_bestBerths_55 : decode cX11_bestBerths 55 = .ok (.aload_n 0, 1) := by decide +kernel
theorem dX11_bestBerths_56 : decode cX11_bestBerths 56 = .ok (.iload_n 1, 1) := by decide +kernel
theorem dX11_bestBerths_57 : decode cX11_bestBerths 57 = .ok (.iload_n 2, 1) := by decide +kernel
theorem dX11_bestBerths_58 : decode cX11_bestBerths 58 = .ok (.invokevirtual 426, 3) := by decide +kernel
theorem dX11_bestBerths_61 : decode cX11_bestBerths 61 = .ok (.istore 8, 2) := by decide +kernel
theorem dX11_bestBerths_63 : decode cX11_bestBerths 63 = .ok (.aload_n 0, 1) := by decide +kernel
theorem dX11_bestBerths_64 : decode cX11_bestBerths 64 = .ok (.iload_n 1, 1) := by decide +kernel
theorem dX11_bestBerths_65 : decode cX11_bestBerths 65 = .ok (.iload_n 2, 1) := by decide +kernel
theorem dX11_bestBerths_66 : decode cX11_bestBerths 66 = .ok (.invokevirtual 423, 3) := by decide +kernel
theorem dX11_bestBerths_69 : decode cX11_bestBerths 69 = .ok (.istore 9, 2) := by decide +kernel
theorem dX11_bestBerths_71 : decode cX11_bestBerths 71 = .ok (.iload 4, 2) := by decide +kernel
theorem dX11_bestBerths_73 : decode cX11_bestBerths 73 = .ok (.ifCond .lt 24, 3) := by decide +kernel
theorem dX11_bestBerths_76 : decode cX11_bestBerths 76 = .ok (.iload 8, 2) := by decide +kernel
theorem dX11_bestBerths_78 : decode cX11_bestBerths 78 = .ok (.iload 5, 2) := by decide +kernel
theorem dX11_bestBerths_80 : decode cX11_bestBerths 80 = .ok (.if_icmp .lt 17, 3) := by decide +kernel
theorem dX11_bestBerths_83 : decode cX11_bestBerths 83 = .ok (.iload 8, 2) := by decide +kernel
theorem dX11_bestBerths_85 : decode cX11_bestBerths 85 = .ok (.iload 5, 2) := by decide +kernel
theorem dX11_bestBerths_87 : decode cX11_bestBerths 87 = .ok (.if_icmp .ne 22, 3) := by decide +kernel
theorem dX11_bestBerths_90 : decode cX11_bestBerths 90 = .ok (.iload 9, 2) := by decide +kernel
theorem dX11_bestBerths_92 : decode cX11_bestBerths 92 = .ok (.iload 6, 2) := by decide +kernel
theorem dX11_bestBerths_94 : decode cX11_bestBerths 94 = .ok (.if_icmp .ge 15, 3) := by decide +kernel
theorem dX11_bestBerths_97 : decode cX11_bestBerths 97 = .ok (.iload 7, 2) := by decide +kernel
theorem dX11_bestBerths_99 : decode cX11_bestBerths 99 = .ok (.istore 4, 2) := by decide +kernel
theorem dX11_bestBerths_101 : decode cX11_bestBerths 101 = .ok (.iload 8, 2) := by decide +kernel
theorem dX11_bestBerths_103 : decode cX11_bestBerths 103 = .ok (.istore 5, 2) := by decide +kernel
theorem dX11_bestBerths_105 : decode cX11_bestBerths 105 = .ok (.iload 9, 2) := by decide +kernel
theorem dX11_bestBerths_107 : decode cX11_bestBerths 107 = .ok (.istore 6, 2) := by decide +kernel
theorem dX11_bestBerths_109 : decode cX11_bestBerths 109 = .ok (.iinc 7 1, 3) := by decide +kernel
theorem dX11_bestBerths_112 : decode cX11_bestBerths 112 = .ok (.goto (-79), 3) := by decide +kernel
theorem dX11_bestBerths_115 : decode cX11_bestBerths 115 = .ok (.iconst 0, 1) := by decide +kernel
theorem dX11_bestBerths_116 : decode cX11_bestBerths 116 = .ok (.iload 4, 2) := by decide +kernel
theorem dX11_bestBerths_118 : decode cX11_bestBerths 118 = .ok (.invokestatic 432, 3) := by decide +kernel
theorem dX11_bestBerths_121 : decode cX11_bestBerths 121 = .ok (.ireturn, 1) := by decide +kernel
theorem dX11_spreadBerths_0 : decode cX11_spreadBerths 0 = .ok (.iconst 1, 1) := by decide +kernel
theorem dX11_spreadBerths_1 : decode cX11_spreadBerths 1 = .ok (.iload_n 3, 1) := by decide +kernel
theorem dX11_spreadBerths_2 : decode cX11_spreadBerths 2 = .ok (.invokestatic 432, 3) := by decide +kernel
theorem dX11_spreadBerths_5 : decode cX11_spreadBerths 5 = .ok (.istore 4, 2) := by decide +kernel
theorem dX11_spreadBerths_7 : decode cX11_spreadBerths 7 = .ok (.iload_n 1, 1) := by decide +kernel
theorem dX11_spreadBerths_8 : decode cX11_spreadBerths 8 = .ok (.istore 5, 2) := by decide +kernel
theorem dX11_spreadBerths_10 : decode cX11_spreadBerths 10 = .ok (.iload_n 2, 1) := by decide +kernel
theorem dX11_spreadBerths_11 : decode cX11_spreadBerths 11 = .ok (.iconst 3, 1) := by decide +kernel
theorem dX11_spreadBerths_12 : decode cX11_spreadBerths 12 = .ok (.invokestatic 435, 3) := by decide +kernel
theorem dX11_spreadBerths_15 : decode cX11_spreadBerths 15 = .ok (.iconst 1, 1) := by decide +kernel
theorem dX11_spreadBerths_16 : decode cX11_spreadBerths 16 = .ok (.isub, 1) := by decide +kernel
theorem dX11_spreadBerths_17 : decode cX11_spreadBerths 17 = .ok (.istore 6, 2) := by decide +kernel
theorem dX11_spreadBerths_19 : decode cX11_spreadBerths 19 = .ok (.iload 6, 2) := by decide +kernel
theorem dX11_spreadBerths_21 : decode cX11_spreadBerths 21 = .ok (.ifCond .lt 28, 3) := by decide +kernel
theorem dX11_spreadBerths_24 : decode cX11_spreadBerths 24 = .ok (.aload_n 0, 1) := by decide +kernel
theorem dX11_spreadBerths_25 : decode cX11_spreadBerths 25 = .ok (.getfield 90, 3) := by decide +kernel
theorem dX11_spreadBerths_28 : decode cX11_spreadBerths 28 = .ok (.iload 6, 2) := by decide +kernel
theorem dX11_spreadBerths_30 : decode cX11_spreadBerths 30 = .ok (.iload 5, 2) := by decide +kernel
theorem dX11_spreadBerths_32 : decode cX11_spreadBerths 32 = .ok (.iload 4, 2) := by decide +kernel
theorem dX11_spreadBerths_34 : decode cX11_spreadBerths 34 = .ok (.irem, 1) := by decide +kernel
theorem dX11_spreadBerths_35 : decode cX11_spreadBerths 35 = .ok (.iastore, 1) := by decide +kernel
theorem dX11_spreadBerths_36 : decode cX11_spreadBerths 36 = .ok (.iload 5, 2) := by decide +kernel
theorem dX11_spreadBerths_38 : decode cX11_spreadBerths 38 = .ok (.iload 4, 2) := by decide +kernel
theorem dX11_spreadBerths_40 : decode cX11_spreadBerths 40 = .ok (.idiv, 1) := by decide +kernel
theorem dX11_spreadBerths_41 : decode cX11_spreadBerths 41 = .ok (.istore 5, 2) := by decide +kernel
theorem dX11_spreadBerths_43 : decode cX11_spreadBerths 43 = .ok (.iinc 6 (-1), 3) := by decide +kernel
theorem dX11_spreadBerths_46 : decode cX11_spreadBerths 46 = .ok (.goto (-27), 3) := by decide +kernel
theorem dX11_spreadBerths_49 : decode cX11_spreadBerths 49 = .ok (.return_, 1) := by decide +kernel
theorem dX11_apart_0 : decode cX11_apart 0 = .ok (.iconst 1, 1) := by decide +kernel
theorem dX11_apart_1 : decode cX11_apart 1 = .ok (.istore_n 2, 1) := by decide +kernel
theorem dX11_apart_2 : decode cX11_apart 2 = .ok (.iload_n 2, 1) := by decide +kernel
theorem dX11_apart_3 : decode cX11_apart 3 = .ok (.iload_n 1, 1) := by decide +kernel
theorem dX11_apart_4 : decode cX11_apart 4 = .ok (.if_icmp .ge 44, 3) := by decide +kernel
theorem dX11_apart_7 : decode cX11_apart 7 = .ok (.iload_n 2, 1) := by decide +kernel
theorem dX11_apart_8 : decode cX11_apart 8 = .ok (.iconst 3, 1) := by decide +kernel
theorem dX11_apart_9 : decode cX11_apart 9 = .ok (.if_icmp .ge 39, 3) := by decide +kernel
theorem dX11_apart_12 : decode cX11_apart 12 = .ok (.iconst 0, 1) := by decide +kernel
theorem dX11_apart_13 : decode cX11_apart 13 = .ok (.istore_n 3, 1) := by decide +kernel
theorem dX11_apart_14 : decode cX11_apart 14 = .ok (.iload_n 3, 1) := by decide +kernel
theorem dX11_apart_15 : decode cX11_apart 15 = .ok (.iload_n 2, 1) := by decide +kernel
theorem dX11_apart_16 : decode cX11_apart 16 = .ok (.if_icmp .ge 26, 3) := by decide +kernel
theorem dX11_apart_19 : decode cX11_apart 19 = .ok (.aload_n 0, 1) := by decide +kernel
theorem dX11_apart_20 : decode cX11_apart 20 = .ok (.getfield 90, 3) := by decide +kernel
theorem dX11_apart_23 : decode cX11_apart 23 = .ok (.iload_n 2, 1) := by decide +kernel
theorem dX11_apart_24 : decode cX11_apart 24 = .ok (.iaload, 1) := by decide +kernel
theorem dX11_apart_25 : decode cX11_apart 25 = .ok (.aload_n 0, 1) := by decide +kernel
theorem dX11_apart_26 : decode cX11_apart 26 = .ok (.getfield 90, 3) := by decide +kernel
theorem dX11_apart_29 : decode cX11_apart 29 = .ok (.iload_n 3, 1) := by decide +kernel
theorem dX11_apart_30 : decode cX11_apart 30 = .ok (.iaload, 1) := by decide +kernel
theorem dX11_apart_31 : decode cX11_apart 31 = .ok (.if_icmp .ne 5, 3) := by decide +kernel
theorem dX11_apart_34 : decode cX11_apart 34 = .ok (.iconst 0, 1) := by decide +kernel
theorem dX11_apart_35 : decode cX11_apart 35 = .ok (.ireturn, 1) := by decide +kernel
theorem dX11_apart_36 : decode cX11_apart 36 = .ok (.iinc 3 1, 3) := by decide +kernel
theorem dX11_apart_39 : decode cX11_apart 39 = .ok (.goto (-25), 3) := by decide +kernel
theorem dX11_apart_42 : decode cX11_apart 42 = .ok (.iinc 2 1, 3) := by decide +kernel
theorem dX11_apart_45 : decode cX11_apart 45 = .ok (.goto (-43), 3) := by decide +kernel
theorem dX11_apart_48 : decode cX11_apart 48 = .ok (.iconst 1, 1) := by decide +kernel
theorem dX11_apart_49 : decode cX11_apart 49 = .ok (.ireturn, 1) := by decide +kernel
theorem dX11_partingOf_0 : decode cX11_partingOf 0 = .ok (.iconst 0, 1) := by decide +kernel
theorem dX11_partingOf_1 : decode cX11_partingOf 1 = .ok (.istore_n 3, 1) := by decide +kernel
theorem dX11_partingOf_2 : decode cX11_partingOf 2 = .ok (.iconst 0, 1) := by decide +kernel
theorem dX11_partingOf_3 : decode cX11_partingOf 3 = .ok (.istore 4, 2) := by decide +kernel
theorem dX11_partingOf_5 : decode cX11_partingOf 5 = .ok (.iload 4, 2) := by decide +kernel
theorem dX11_partingOf_7 : decode cX11_partingOf 7 = .ok (.iload_n 1, 1) := by decide +kernel
theorem dX11_partingOf_8 : decode cX11_partingOf 8 = .ok (.if_icmp .ge 47, 3) := by decide +kernel
theorem dX11_partingOf_11 : decode cX11_partingOf 11 = .ok (.iload 4, 2) := by decide +kernel
theorem dX11_partingOf_13 : decode cX11_partingOf 13 = .ok (.iconst 3, 1) := by decide +kernel
theorem dX11_partingOf_14 : decode cX11_partingOf 14 = .ok (.if_icmp .ge 41, 3) := by decide +kernel
theorem dX11_partingOf_17 : decode cX11_partingOf 17 = .ok (.iload_n 3, 1) := by decide +kernel
theorem dX11_partingOf_18 : decode cX11_partingOf 18 = .ok (.aload_n 0, 1) := by decide +kernel
theorem dX11_partingOf_19 : decode cX11_partingOf 19 = .ok (.getfield 58, 3) := by decide +kernel
theorem dX11_partingOf_22 : decode cX11_partingOf 22 = .ok (.iload 4, 2) := by decide +kernel
theorem dX11_partingOf_24 : decode cX11_partingOf 24 = .ok (.iload_n 2, 1) := by decide +kernel
theorem dX11_partingOf_25 : decode cX11_partingOf 25 = .ok (.imul, 1) := by decide +kernel
theorem dX11_partingOf_26 : decode cX11_partingOf 26 = .ok (.aload_n 0, 1) := by decide +kernel
theorem dX11_partingOf_27 : decode cX11_partingOf 27 = .ok (.getfield 90, 3) := by decide +kernel
theorem dX11_partingOf_30 : decode cX11_partingOf 30 = .ok (.iload 4, 2) := by decide +kernel
theorem dX11_partingOf_32 : decode cX11_partingOf 32 = .ok (.iaload, 1) := by decide +kernel
theorem dX11_partingOf_33 : decode cX11_partingOf 33 = .ok (.iadd, 1) := by decide +kernel
theorem dX11_partingOf_34 : decode cX11_partingOf 34 = .ok (.invokevirtual 400, 3) := by decide +kernel
theorem dX11_partingOf_37 : decode cX11_partingOf 37 = .ok (.bipush (-9), 2) := by decide +kernel
theorem dX11_partingOf_39 : decode cX11_partingOf 39 = .ok (.if_icmp .ne 7, 3) := by decide +kernel
theorem dX11_partingOf_42 : decode cX11_partingOf 42 = .ok (.iconst 0, 1) := by decide +kernel
theorem dX11_partingOf_43 : decode cX11_partingOf 43 = .ok (.goto 4, 3) := by decide +kernel
theorem dX11_partingOf_46 : decode cX11_partingOf 46 = .ok (.iconst 1, 1) := by decide +kernel
theorem dX11_partingOf_47 : decode cX11_partingOf 47 = .ok (.iadd, 1) := by decide +kernel
theorem dX11_partingOf_48 : decode cX11_partingOf 48 = .ok (.istore_n 3, 1) := by decide +kernel
theorem dX11_partingOf_49 : decode cX11_partingOf 49 = .ok (.iinc 4 1, 3) := by decide +kernel
theorem dX11_partingOf_52 : decode cX11_partingOf 52 = .ok (.goto (-47), 3) := by decide +kernel
theorem dX11_partingOf_55 : decode cX11_partingOf 55 = .ok (.iload_n 3, 1) := by decide +kernel
theorem dX11_partingOf_56 : decode cX11_partingOf 56 = .ok (.ireturn, 1) := by decide +kernel
theorem dX11_pullsOf_0 : decode cX11_pullsOf 0 = .ok (.iconst 0, 1) := by decide +kernel
theorem dX11_pullsOf_1 : decode cX11_pullsOf 1 = .ok (.istore_n 3, 1) := by decide +kernel
theorem dX11_pullsOf_2 : decode cX11_pullsOf 2 = .ok (.iconst 0, 1) := by decide +kernel
theorem dX11_pullsOf_3 : decode cX11_pullsOf 3 = .ok (.istore 4, 2) := by decide +kernel
theorem dX11_pullsOf_5 : decode cX11_pullsOf 5 = .ok (.iload 4, 2) := by decide +kernel
theorem dX11_pullsOf_7 : decode cX11_pullsOf 7 = .ok (.iload_n 1, 1) := by decide +kernel
theorem dX11_pullsOf_8 : decode cX11_pullsOf 8 = .ok (.if_icmp .ge 37, 3) := by decide +kernel
theorem dX11_pullsOf_11 : decode cX11_pullsOf 11 = .ok (.iload 4, 2) := by decide +kernel
theorem dX11_pullsOf_13 : decode cX11_pullsOf 13 = .ok (.iconst 3, 1) := by decide +kernel
theorem dX11_pullsOf_14 : decode cX11_pullsOf 14 = .ok (.if_icmp .ge 31, 3) := by decide +kernel
theorem dX11_pullsOf_17 : decode cX11_pullsOf 17 = .ok (.iload_n 3, 1) := by decide +kernel
theorem dX11_pullsOf_18 : decode cX11_pullsOf 18 = .ok (.aload_n 0, 1) := by decide +kernel
theorem dX11_pullsOf_19 : decode cX11_pullsOf 19 = .ok (.getfield 58, 3) := by decide +kernel
theorem dX11_pullsOf_22 : decode cX11_pullsOf 22 = .ok (.iload 4, 2) := by decide +kernel
theorem dX11_pullsOf_24 : decode cX11_pullsOf 24 = .ok (.iload_n 2, 1) := by decide +kernel
theorem dX11_pullsOf_25 : decode cX11_pullsOf 25 = .ok (.imul, 1) := by decide +kernel
theorem dX11_pullsOf_26 : decode cX11_pullsOf 26 = .ok (.aload_n 0, 1) := by decide +kernel
theorem dX11_pullsOf_27 : decode cX11_pullsOf 27 = .ok (.getfield 90, 3) := by decide +kernel
theorem dX11_pullsOf_30 : decode cX11_pullsOf 30 = .ok (.iload 4, 2) := by decide +kernel
theorem dX11_pullsOf_32 : decode cX11_pullsOf 32 = .ok (.iaload, 1) := by decide +kernel
theorem dX11_pullsOf_33 : decode cX11_pullsOf 33 = .ok (.iadd, 1) := by decide +kernel
theorem dX11_pullsOf_34 : decode cX11_pullsOf 34 = .ok (.invokevirtual 403, 3) := by decide +kernel
theorem dX11_pullsOf_37 : decode cX11_pullsOf 37 = .ok (.iadd, 1) := by decide +kernel
theorem dX11_pullsOf_38 : decode cX11_pullsOf 38 = .ok (.istore_n 3, 1) := by decide +kernel
theorem dX11_pullsOf_39 : decode cX11_pullsOf 39 = .ok (.iinc 4 1, 3) := by decide +kernel
theorem dX11_pullsOf_42 : decode cX11_pullsOf 42 = .ok (.goto (-37), 3) := by decide +kernel
theorem dX11_pullsOf_45 : decode cX11_pullsOf 45 = .ok (.iload_n 3, 1) := by decide +kernel
theorem dX11_pullsOf_46 : decode cX11_pullsOf 46 = .ok (.ireturn, 1) := by decide +kernel
theorem dX11_work_0 : decode cX11_work 0 = .ok (.iload_n 1, 1) := by decide +kernel
theorem dX11_work_1 : decode cX11_work 1 = .ok (.iconst 0, 1) := by decide +kernel
theorem dX11_work_2 : decode cX11_work 2 = .ok (.iconst 5, 1) := by decide +kernel
theorem dX11_work_3 : decode cX11_work 3 = .ok (.invokestatic 117, 3) := by decide +kernel
theorem dX11_work_6 : decode cX11_work 6 = .ok (.ifCond .eq 31, 3) := by decide +kernel
theorem dX11_work_9 : decode cX11_work 9 = .ok (.iload_n 2, 1) := by decide +kernel
theorem dX11_work_10 : decode cX11_work 10 = .ok (.invokestatic 225, 3) := by decide +kernel
theorem dX11_work_13 : decode cX11_work 13 = .ok (.ifCond .eq 24, 3) := by decide +kernel
theorem dX11_work_16 : decode cX11_work 16 = .ok (.iload_n 3, 1) := by decide +kernel
theorem dX11_work_17 : decode cX11_work 17 = .ok (.iconst 0, 1) := by decide +kernel
theorem dX11_work_18 : decode cX11_work 18 = .ok (.bipush 9, 2) := by decide +kernel
theorem dX11_work_20 : decode cX11_work 20 = .ok (.invokestatic 117, 3) := by decide +kernel
theorem dX11_work_23 : decode cX11_work 23 = .ok (.ifCond .eq 14, 3) := by decide +kernel
theorem dX11_work_26 : decode cX11_work 26 = .ok (.iload 4, 2) := by decide +kernel
theorem dX11_work_28 : decode cX11_work 28 = .ok (.iconst 0, 1) := by decide +kernel
theorem dX11_work_29 : decode cX11_work 29 = .ok (.bipush 99, 2) := by decide +kernel
theorem dX11_work_31 : decode cX11_work 31 = .ok (.invokestatic 117, 3) := by decide +kernel
theorem dX11_work_34 : decode cX11_work 34 = .ok (.ifCond .ne 5, 3) := by decide +kernel
theorem dX11_work_37 : decode cX11_work 37 = .ok (.iconst (-1), 1) := by decide +kernel
theorem dX11_work_38 : decode cX11_work 38 = .ok (.ireturn, 1) := by decide +kernel
theorem dX11_work_39 : decode cX11_work 39 = .ok (.aload_n 0, 1) := by decide +kernel
theorem dX11_work_40 : decode cX11_work 40 = .ok (.getfield 97, 3) := by decide +kernel
theorem dX11_work_43 : decode cX11_work 43 = .ok (.iconst 5, 1) := by decide +kernel
theorem dX11_work_44 : decode cX11_work 44 = .ok (.if_icmp .lt 6, 3) := by decide +kernel
theorem dX11_work_47 : decode cX11_work 47 = .ok (.bipush (-2), 2) := by decide +kernel
theorem dX11_work_49 : decode cX11_work 49 = .ok (.ireturn, 1) := by decide +kernel
theorem dX11_work_50 : decode cX11_work 50 = .ok (.aload_n 0, 1) := by decide +kernel
theorem dX11_work_51 : decode cX11_work 51 = .ok (.getfield 41, 3) := by decide +kernel
theorem dX11_work_54 : decode cX11_work 54 = .ok (.aload_n 0, 1) := by decide +kernel
theorem dX11_work_55 : decode cX11_work 55 = .ok (.getfield 97, 3) := by decide +kernel
theorem dX11_work_58 : decode cX11_work 58 = .ok (.aaload, 1) := by decide +kernel
theorem dX11_work_59 : decode cX11_work 59 = .ok (.iload_n 1, 1) := by decide +kernel
theorem dX11_work_60 : decode cX11_work 60 = .ok (.iload_n 2, 1) := by decide +kernel
theorem dX11_work_61 : decode cX11_work 61 = .ok (.iload_n 3, 1) := by decide +kernel
theorem dX11_work_62 : decode cX11_work 62 = .ok (.iload 4, 2) := by decide +kernel
theorem dX11_work_64 : decode cX11_work 64 = .ok (.invokevirtual 438, 3) := by decide +kernel
theorem dX11_work_67 : decode cX11_work 67 = .ok (.aload_n 0, 1) := by decide +kernel
theorem dX11_work_68 : decode cX11_work 68 = .ok (.dup, 1) := by decide +kernel
theorem dX11_work_69 : decode cX11_work 69 = .ok (.getfield 97, 3) := by decide +kernel
theorem dX11_work_72 : decode cX11_work 72 = .ok (.iconst 1, 1) := by decide +kernel
theorem dX11_work_73 : decode cX11_work 73 = .ok (.iadd, 1) := by decide +kernel
theorem dX11_work_74 : decode cX11_work 74 = .ok (.putfield 97, 3) := by decide +kernel
theorem dX11_work_77 : decode cX11_work 77 = .ok (.aload_n 0, 1) := by decide +kernel
theorem dX11_work_78 : decode cX11_work 78 = .ok (.getfield 97, 3) := by decide +kernel
theorem dX11_work_81 : decode cX11_work 81 = .ok (.iconst 1, 1) := by decide +kernel
theorem dX11_work_82 : decode cX11_work 82 = .ok (.isub, 1) := by decide +kernel
theorem dX11_work_83 : decode cX11_work 83 = .ok (.ireturn, 1) := by decide +kernel
theorem dX11_back_0 : decode cX11_back 0 = .ok (.iload_n 1, 1) := by decide +kernel
theorem dX11_back_1 : decode cX11_back 1 = .ok (.iconst 0, 1) := by decide +kernel
theorem dX11_back_2 : decode cX11_back 2 = .ok (.aload_n 0, 1) := by decide +kernel
theorem dX11_back_3 : decode cX11_back 3 = .ok (.getfield 97, 3) := by decide +kernel
theorem dX11_back_6 : decode cX11_back 6 = .ok (.invokestatic 117, 3) := by decide +kernel
theorem dX11_back_9 : decode cX11_back 9 = .ok (.ifCond .ne 5, 3) := by decide +kernel
theorem dX11_back_12 : decode cX11_back 12 = .ok (.iconst (-1), 1) := by decide +kernel
theorem dX11_back_13 : decode cX11_back 13 = .ok (.ireturn, 1) := by decide +kernel
theorem dX11_back_14 : decode cX11_back 14 = .ok (.aload_n 0, 1) := by decide +kernel
theorem dX11_back_15 : decode cX11_back 15 = .ok (.getfield 97, 3) := by decide +kernel
theorem dX11_back_18 : decode cX11_back 18 = .ok (.iload_n 1, 1) := by decide +kernel
theorem dX11_back_19 : decode cX11_back 19 = .ok (.isub, 1) := by decide +kernel
theorem dX11_back_20 : decode cX11_back 20 = .ok (.istore_n 2, 1) := by decide +kernel
theorem dX11_back_21 : decode cX11_back 21 = .ok (.aload_n 0, 1) := by decide +kernel
theorem dX11_back_22 : decode cX11_back 22 = .ok (.iload_n 1, 1) := by decide +kernel
theorem dX11_back_23 : decode cX11_back 23 = .ok (.putfield 97, 3) := by decide +kernel
theorem dX11_back_26 : decode cX11_back 26 = .ok (.iload_n 2, 1) := by decide +kernel
theorem dX11_back_27 : decode cX11_back 27 = .ok (.ireturn, 1) := by decide +kernel
theorem dX11_does_0 : decode cX11_does 0 = .ok (.iload_n 1, 1) := by decide +kernel
theorem dX11_does_1 : decode cX11_does 1 = .ok (.invokestatic 181, 3) := by decide +kernel
theorem dX11_does_4 : decode cX11_does 4 = .ok (.ifCond .eq 22, 3) := by decide +kernel
theorem dX11_does_7 : decode cX11_does 7 = .ok (.iload_n 2, 1) := by decide +kernel
theorem dX11_does_8 : decode cX11_does 8 = .ok (.invokestatic 194, 3) := by decide +kernel
theorem dX11_does_11 : decode cX11_does 11 = .ok (.ifCond .eq 15, 3) := by decide +kernel
theorem dX11_does_14 : decode cX11_does 14 = .ok (.iload_n 3, 1) := by decide +kernel
theorem dX11_does_15 : decode cX11_does 15 = .ok (.iconst 0, 1) := by decide +kernel
theorem dX11_does_16 : decode cX11_does 16 = .ok (.aload_n 0, 1) := by decide +kernel
theorem dX11_does_17 : decode cX11_does 17 = .ok (.invokevirtual 442, 3) := by decide +kernel
theorem dX11_does_20 : decode cX11_does 20 = .ok (.invokestatic 117, 3) := by decide +kernel
theorem dX11_does_23 : decode cX11_does 23 = .ok (.ifCond .ne 5, 3) := by decide +kernel
theorem dX11_does_26 : decode cX11_does 26 = .ok (.iconst (-1), 1) := by decide +kernel
theorem dX11_does_27 : decode cX11_does 27 = .ok (.ireturn, 1) := by decide +kernel
theorem dX11_does_28 : decode cX11_does 28 = .ok (.aload_n 0, 1) := by decide +kernel
theorem dX11_does_29 : decode cX11_does 29 = .ok (.getfield 23, 3) := by decide +kernel
theorem dX11_does_32 : decode cX11_does 32 = .ok (.iload_n 1, 1) := by decide +kernel
theorem dX11_does_33 : decode cX11_does 33 = .ok (.aaload, 1) := by decide +kernel
theorem dX11_does_34 : decode cX11_does 34 = .ok (.getfield 206, 3) := by decide +kernel
theorem dX11_does_37 : decode cX11_does 37 = .ok (.ifCond .eq 15, 3) := by decide +kernel
theorem dX11_does_40 : decode cX11_does 40 = .ok (.aload_n 0, 1) := by decide +kernel
theorem dX11_does_41 : decode cX11_does 41 = .ok (.getfield 29, 3) := by decide +kernel
theorem dX11_does_44 : decode cX11_does 44 = .ok (.iload_n 2, 1) := by decide +kernel
theorem dX11_does_45 : decode cX11_does 45 = .ok (.aaload, 1) := by decide +kernel
theorem dX11_does_46 : decode cX11_does 46 = .ok (.getfield 121, 3) := by decide +kernel
theorem dX11_does_49 : decode cX11_does 49 = .ok (.ifCond .ne 9, 3) := by decide +kernel
theorem dX11_does_52 : decode cX11_does 52 = .ok (.aload_n 0, 1) := by decide +kernel
theorem dX11_does_53 : decode cX11_does 53 = .ok (.iconst 1, 1) := by decide +kernel
theorem dX11_does_54 : decode cX11_does 54 = .ok (.invokevirtual 129, 3) := by decide +kernel
theorem dX11_does_57 : decode cX11_does 57 = .ok (.ireturn, 1) := by decide +kernel
theorem dX11_does_58 : decode cX11_does 58 = .ok (.aload_n 0, 1) := by decide +kernel
theorem dX11_does_59 : decode cX11_does 59 = .ok (.aload_n 0, 1) := by decide +kernel
theorem dX11_does_60 : decode cX11_does 60 = .ok (.iload_n 3, 1) := by decide +kernel
theorem dX11_does_61 : decode cX11_does 61 = .ok (.invokevirtual 445, 3) := by decide +kernel
theorem dX11_does_64 : decode cX11_does 64 = .ok (.aload_n 0, 1) := by decide +kernel
theorem dX11_does_65 : decode cX11_does 65 = .ok (.aload_n 0, 1) := by decide +kernel
theorem dX11_does_66 : decode cX11_does 66 = .ok (.getfield 23, 3) := by decide +kernel
theorem dX11_does_69 : decode cX11_does 69 = .ok (.iload_n 1, 1) := by decide +kernel
theorem dX11_does_70 : decode cX11_does 70 = .ok (.aaload, 1) := by decide +kernel
theorem dX11_does_71 : decode cX11_does 71 = .ok (.aload_n 0, 1) := by decide +kernel
theorem dX11_does_72 : decode cX11_does 72 = .ok (.getfield 29, 3) := by decide +kernel
theorem dX11_does_75 : decode cX11_does 75 = .ok (.iload_n 2, 1) := by decide +kernel
theorem dX11_does_76 : decode cX11_does 76 = .ok (.aaload, 1) := by decide +kernel
theorem dX11_does_77 : decode cX11_does 77 = .ok (.iload_n 3, 1) := by decide +kernel
theorem dX11_does_78 : decode cX11_does 78 = .ok (.invokevirtual 448, 3) := by decide +kernel
theorem dX11_does_81 : decode cX11_does 81 = .ok (.invokevirtual 143, 3) := by decide +kernel
theorem dX11_does_84 : decode cX11_does 84 = .ok (.ireturn, 1) := by decide +kernel
theorem dX11_worse_0 : decode cX11_worse 0 = .ok (.iload_n 1, 1) := by decide +kernel
theorem dX11_worse_1 : decode cX11_worse 1 = .ok (.invokestatic 181, 3) := by decide +kernel
theorem dX11_worse_4 : decode cX11_worse 4 = .ok (.ifCond .eq 10, 3) := by decide +kernel
theorem dX11_worse_7 : decode cX11_worse 7 = .ok (.iload_n 2, 1) := by decide +kernel
theorem dX11_worse_8 : decode cX11_worse 8 = .ok (.invokestatic 194, 3) := by decide +kernel
theorem dX11_worse_11 : decode cX11_worse 11 = .ok (.ifCond .ne 5, 3) := by decide +kernel
theorem dX11_worse_14 : decode cX11_worse 14 = .ok (.iconst (-1), 1) := by decide +kernel
theorem dX11_worse_15 : decode cX11_worse 15 = .ok (.ireturn, 1) := by decide +kernel
theorem dX11_worse_16 : decode cX11_worse 16 = .ok (.aload_n 0, 1) := by decide +kernel
theorem dX11_worse_17 : decode cX11_worse 17 = .ok (.getfield 23, 3) := by decide +kernel
theorem dX11_worse_20 : decode cX11_worse 20 = .ok (.iload_n 1, 1) := by decide +kernel
theorem dX11_worse_21 : decode cX11_worse 21 = .ok (.aaload, 1) := by decide +kernel
theorem dX11_worse_22 : decode cX11_worse 22 = .ok (.getfield 206, 3) := by decide +kernel
theorem dX11_worse_25 : decode cX11_worse 25 = .ok (.ifCond .eq 15, 3) := by decide +kernel
theorem dX11_worse_28 : decode cX11_worse 28 = .ok (.aload_n 0, 1) := by decide +kernel
theorem dX11_worse_29 : decode cX11_worse 29 = .ok (.getfield 29, 3) := by decide +kernel
theorem dX11_worse_32 : decode cX11_worse 32 = .ok (.iload_n 2, 1) := by decide +kernel
theorem dX11_worse_33 : decode cX11_worse 33 = .ok (.aaload, 1) := by decide +kernel
theorem dX11_worse_34 : decode cX11_worse 34 = .ok (.getfield 121, 3) := by decide +kernel
theorem dX11_worse_37 : decode cX11_worse 37 = .ok (.ifCond .ne 9, 3) := by decide +kernel
theorem dX11_worse_40 : decode cX11_worse 40 = .ok (.aload_n 0, 1) := by decide +kernel
theorem dX11_worse_41 : decode cX11_worse 41 = .ok (.iconst 1, 1) := by decide +kernel
theorem dX11_worse_42 : decode cX11_worse 42 = .ok (.invokevirtual 129, 3) := by decide +kernel
theorem dX11_worse_45 : decode cX11_worse 45 = .ok (.ireturn, 1) := by decide +kernel
theorem dX11_worse_46 : decode cX11_worse 46 = .ok (.aload_n 0, 1) := by decide +kernel
theorem dX11_worse_47 : decode cX11_worse 47 = .ok (.aload_n 0, 1) := by decide +kernel
theorem dX11_worse_48 : decode cX11_worse 48 = .ok (.getfield 23, 3) := by decide +kernel
theorem dX11_worse_51 : decode cX11_worse 51 = .ok (.iload_n 1, 1) := by decide +kernel
theorem dX11_worse_52 : decode cX11_worse 52 = .ok (.aaload, 1) := by decide +kernel
theorem dX11_worse_53 : decode cX11_worse 53 = .ok (.aload_n 0, 1) := by decide +kernel
theorem dX11_worse_54 : decode cX11_worse 54 = .ok (.getfield 29, 3) := by decide +kernel
theorem dX11_worse_57 : decode cX11_worse 57 = .ok (.iload_n 2, 1) := by decide +kernel
theorem dX11_worse_58 : decode cX11_worse 58 = .ok (.aaload, 1) := by decide +kernel
theorem dX11_worse_59 : decode cX11_worse 59 = .ok (.invokevirtual 374, 3) := by decide +kernel
theorem dX11_worse_62 : decode cX11_worse 62 = .ok (.istore_n 3, 1) := by decide +kernel
theorem dX11_worse_63 : decode cX11_worse 63 = .ok (.iconst 0, 1) := by decide +kernel
theorem dX11_worse_64 : decode cX11_worse 64 = .ok (.istore 4, 2) := by decide +kernel
theorem dX11_worse_66 : decode cX11_worse 66 = .ok (.iconst 0, 1) := by decide +kernel
theorem dX11_worse_67 : decode cX11_worse 67 = .ok (.istore 5, 2) := by decide +kernel
theorem dX11_worse_69 : decode cX11_worse 69 = .ok (.iconst 0, 1) := by decide +kernel
theorem dX11_worse_70 : decode cX11_worse 70 = .ok (.istore 6, 2) := by decide +kernel
theorem dX11_worse_72 : decode cX11_worse 72 = .ok (.iload 6, 2) := by decide +kernel
theorem dX11_worse_74 : decode cX11_worse 74 = .ok (.aload_n 0, 1) := by decide +kernel
theorem dX11_worse_75 : decode cX11_worse 75 = .ok (.getfield 97, 3) := by decide +kernel
theorem dX11_worse_78 : decode cX11_worse 78 = .ok (.if_icmp .ge 69, 3) := by decide +kernel
theorem dX11_worse_81 : decode cX11_worse 81 = .ok (.aload_n 0, 1) := by decide +kernel
theorem dX11_worse_82 : decode cX11_worse 82 = .ok (.aload_n 0, 1) := by decide +kernel
theorem dX11_worse_83 : decode cX11_worse 83 = .ok (.getfield 23, 3) := by decide +kernel
theorem dX11_worse_86 : decode cX11_worse 86 = .ok (.iload_n 1, 1) := by decide +kernel
theorem dX11_worse_87 : decode cX11_worse 87 = .ok (.aaload, 1) := by decide +kernel
theorem dX11_worse_88 : decode cX11_worse 88 = .ok (.aload_n 0, 1) := by decide +kernel
theorem dX11_worse_89 : decode cX11_worse 89 = .ok (.getfield 29, 3) := by decide +kernel
theorem dX11_worse_92 : decode cX11_worse 92 = .ok (.iload_n 2, 1) := by decide +kernel
theorem dX11_worse_93 : decode cX11_worse 93 = .ok (.aaload, 1) := by decide +kernel
theorem dX11_worse_94 : decode cX11_worse 94 = .ok (.iconst 1, 1) := by decide +kernel
theorem dX11_worse_95 : decode cX11_worse 95 = .ok (.iload 6, 2) := by decide +kernel
theorem dX11_worse_97 : decode cX11_worse 97 = .ok (.ishl, 1) := by decide +kernel
theorem dX11_worse_98 : decode cX11_worse 98 = .ok (.invokevirtual 448, 3) := by decide +kernel
theorem dX11_worse_101 : decode cX11_worse 101 = .ok (.istore 7, 2) := by decide +kernel
theorem dX11_worse_103 : decode cX11_worse 103 = .ok (.iload 4, 2) := by decide +kernel
theorem dX11_worse_105 : decode cX11_worse 105 = .ok (.iload 7, 2) := by decide +kernel
theorem dX11_worse_107 : decode cX11_worse 107 = .ok (.iload_n 3, 1) := by decide +kernel
theorem dX11_worse_108 : decode cX11_worse 108 = .ok (.if_icmp .le 10, 3) := by decide +kernel
theorem dX11_worse_111 : decode cX11_worse 111 = .ok (.iconst 1, 1) := by decide +kernel
theorem dX11_worse_112 : decode cX11_worse 112 = .ok (.iload 6, 2) := by decide +kernel
theorem dX11_worse_114 : decode cX11_worse 114 = .ok (.ishl, 1) := by decide +kernel
theorem dX11_worse_115 : decode cX11_worse 115 = .ok (.goto 4, 3) := by decide +kernel
theorem dX11_worse_118 : decode cX11_worse 118 = .ok (.iconst 0, 1) := by decide +kernel
theorem dX11_worse_119 : decode cX11_worse 119 = .ok (.ior, 1) := by decide +kernel
theorem dX11_worse_120 : decode cX11_worse 120 = .ok (.istore 4, 2) := by decide +kernel
theorem dX11_worse_122 : decode cX11_worse 122 = .ok (.iload 5, 2) := by decide +kernel
theorem dX11_worse_124 : decode cX11_worse 124 = .ok (.iload 7, 2) := by decide +kernel
theorem dX11_worse_126 : decode cX11_worse 126 = .ok (.iload_n 3, 1) := by decide +kernel
theorem dX11_worse_127 : decode cX11_worse 127 = .ok (.if_icmp .ge 10, 3) := by decide +kernel
theorem dX11_worse_130 : decode cX11_worse 130 = .ok (.iconst 1, 1) := by decide +kernel
theorem dX11_worse_131 : decode cX11_worse 131 = .ok (.iload 6, 2) := by decide +kernel
theorem dX11_worse_133 : decode cX11_worse 133 = .ok (.ishl, 1) := by decide +kernel
theorem dX11_worse_134 : decode cX11_worse 134 = .ok (.goto 4, 3) := by decide +kernel
theorem dX11_worse_137 : decode cX11_worse 137 = .ok (.iconst 0, 1) := by decide +kernel
theorem dX11_worse_138 : decode cX11_worse 138 = .ok (.ior, 1) := by decide +kernel
theorem dX11_worse_139 : decode cX11_worse 139 = .ok (.istore 5, 2) := by decide +kernel
theorem dX11_worse_141 : decode cX11_worse 141 = .ok (.iinc 6 1, 3) := by decide +kernel
theorem dX11_worse_144 : decode cX11_worse 144 = .ok (.goto (-72), 3) := by decide +kernel
theorem dX11_worse_147 : decode cX11_worse 147 = .ok (.aload_n 0, 1) := by decide +kernel
theorem dX11_worse_148 : decode cX11_worse 148 = .ok (.iload 5, 2) := by decide +kernel
theorem dX11_worse_150 : decode cX11_worse 150 = .ok (.iload 4, 2) := by decide +kernel
theorem dX11_worse_152 : decode cX11_worse 152 = .ok (.invokevirtual 143, 3) := by decide +kernel
theorem dX11_worse_155 : decode cX11_worse 155 = .ok (.ireturn, 1) := by decide +kernel
theorem dX11_least_0 : decode cX11_least 0 = .ok (.iload_n 1, 1) := by decide +kernel
theorem dX11_least_1 : decode cX11_least 1 = .ok (.invokestatic 181, 3) := by decide +kernel
theorem dX11_least_4 : decode cX11_least 4 = .ok (.ifCond .eq 21, 3) := by decide +kernel
theorem dX11_least_7 : decode cX11_least 7 = .ok (.iload_n 2, 1) := by decide +kernel
theorem dX11_least_8 : decode cX11_least 8 = .ok (.invokestatic 194, 3) := by decide +kernel
theorem dX11_least_11 : decode cX11_least 11 = .ok (.ifCond .eq 14, 3) := by decide +kernel
theorem dX11_least_14 : decode cX11_least 14 = .ok (.iload_n 3, 1) := by decide +kernel
theorem dX11_least_15 : decode cX11_least 15 = .ok (.iconst 0, 1) := by decide +kernel
theorem dX11_least_16 : decode cX11_least 16 = .ok (.sipush 500, 3) := by decide +kernel
theorem dX11_least_19 : decode cX11_least 19 = .ok (.invokestatic 117, 3) := by decide +kernel
theorem dX11_least_22 : decode cX11_least 22 = .ok (.ifCond .ne 5, 3) := by decide +kernel
theorem dX11_least_25 : decode cX11_least 25 = .ok (.iconst (-1), 1) := by decide +kernel
theorem dX11_least_26 : decode cX11_least 26 = .ok (.ireturn, 1) := by decide +kernel
theorem dX11_least_27 : decode cX11_least 27 = .ok (.aload_n 0, 1) := by decide +kernel
theorem dX11_least_28 : decode cX11_least 28 = .ok (.getfield 23, 3) := by decide +kernel
theorem dX11_least_31 : decode cX11_least 31 = .ok (.iload_n 1, 1) := by decide +kernel
theorem dX11_least_32 : decode cX11_least 32 = .ok (.aaload, 1) := by decide +kernel
theorem dX11_least_33 : decode cX11_least 33 = .ok (.getfield 206, 3) := by decide +kernel
theorem dX11_least_36 : decode cX11_least 36 = .ok (.ifCond .eq 15, 3) := by decide +kernel
theorem dX11_least_39 : decode cX11_least 39 = .ok (.aload_n 0, 1) := by decide +kernel
theorem dX11_least_40 : decode cX11_least 40 = .ok (.getfield 29, 3) := by decide +kernel
theorem dX11_least_43 : decode cX11_least 43 = .ok (.iload_n 2, 1) := by decide +kernel
theorem dX11_least_44 : decode cX11_least 44 = .ok (.aaload, 1) := by decide +kernel
theorem dX11_least_45 : decode cX11_least 45 = .ok (.getfield 121, 3) := by decide +kernel
theorem dX11_least_48 : decode cX11_least 48 = .ok (.ifCond .ne 9, 3) := by decide +kernel
theorem dX11_least_51 : decode cX11_least 51 = .ok (.aload_n 0, 1) := by decide +kernel
theorem dX11_least_52 : decode cX11_least 52 = .ok (.iconst 1, 1) := by decide +kernel
theorem dX11_least_53 : decode cX11_least 53 = .ok (.invokevirtual 129, 3) := by decide +kernel
theorem dX11_least_56 : decode cX11_least 56 = .ok (.ireturn, 1) := by decide +kernel
theorem dX11_least_57 : decode cX11_least 57 = .ok (.iconst 0, 1) := by decide +kernel
theorem dX11_least_58 : decode cX11_least 58 = .ok (.istore 4, 2) := by decide +kernel
theorem dX11_least_60 : decode cX11_least 60 = .ok (.aload_n 0, 1) := by decide +kernel
theorem dX11_least_61 : decode cX11_least 61 = .ok (.aload_n 0, 1) := by decide +kernel
theorem dX11_least_62 : decode cX11_least 62 = .ok (.getfield 23, 3) := by decide +kernel
theorem dX11_least_65 : decode cX11_least 65 = .ok (.iload_n 1, 1) := by decide +kernel
theorem dX11_least_66 : decode cX11_least 66 = .ok (.aaload, 1) := by decide +kernel
theorem dX11_least_67 : decode cX11_least 67 = .ok (.aload_n 0, 1) := by decide +kernel
theorem dX11_least_68 : decode cX11_least 68 = .ok (.getfield 29, 3) := by decide +kernel
theorem dX11_least_71 : decode cX11_least 71 = .ok (.iload_n 2, 1) := by decide +kernel
theorem dX11_least_72 : decode cX11_least 72 = .ok (.aaload, 1) := by decide +kernel
theorem dX11_least_73 : decode cX11_least 73 = .ok (.invokevirtual 374, 3) := by decide +kernel
theorem dX11_least_76 : decode cX11_least 76 = .ok (.istore 5, 2) := by decide +kernel
theorem dX11_least_78 : decode cX11_least 78 = .ok (.iconst 0, 1) := by decide +kernel
theorem dX11_least_79 : decode cX11_least 79 = .ok (.istore 6, 2) := by decide +kernel
theorem dX11_least_81 : decode cX11_least 81 = .ok (.iconst 1, 1) := by decide +kernel
theorem dX11_least_82 : decode cX11_least 82 = .ok (.istore 7, 2) := by decide +kernel
theorem dX11_least_84 : decode cX11_least 84 = .ok (.iload 7, 2) := by decide +kernel
theorem dX11_least_86 : decode cX11_least 86 = .ok (.aload_n 0, 1) := by decide +kernel
theorem dX11_least_87 : decode cX11_least 87 = .ok (.invokevirtual 442, 3) := by decide +kernel
theorem dX11_least_90 : decode cX11_least 90 = .ok (.if_icmp .gt 76, 3) := by decide +kernel
theorem dX11_least_93 : decode cX11_least 93 = .ok (.aload_n 0, 1) := by decide +kernel
theorem dX11_least_94 : decode cX11_least 94 = .ok (.iload 7, 2) := by decide +kernel
theorem dX11_least_96 : decode cX11_least 96 = .ok (.invokevirtual 445, 3) := by decide +kernel
theorem dX11_least_99 : decode cX11_least 99 = .ok (.istore 8, 2) := by decide +kernel
theorem dX11_least_101 : decode cX11_least 101 = .ok (.iload 8, 2) := by decide +kernel
theorem dX11_least_103 : decode cX11_least 103 = .ok (.iload_n 3, 1) := by decide +kernel
theorem dX11_least_104 : decode cX11_least 104 = .ok (.if_icmp .gt 56, 3) := by decide +kernel
theorem dX11_least_107 : decode cX11_least 107 = .ok (.aload_n 0, 1) := by decide +kernel
theorem dX11_least_108 : decode cX11_least 108 = .ok (.aload_n 0, 1) := by decide +kernel
theorem dX11_least_109 : decode cX11_least 109 = .ok (.getfield 23, 3) := by decide +kernel
theorem dX11_least_112 : decode cX11_least 112 = .ok (.iload_n 1, 1) := by decide +kernel
theorem dX11_least_113 : decode cX11_least 113 = .ok (.aaload, 1) := by decide +kernel
theorem dX11_least_114 : decode cX11_least 114 = .ok (.aload_n 0, 1) := by decide +kernel
theorem dX11_least_115 : decode cX11_least 115 = .ok (.getfield 29, 3) := by decide +kernel
theorem dX11_least_118 : decode cX11_least 118 = .ok (.iload_n 2, 1) := by decide +kernel
theorem dX11_least_119 : decode cX11_least 119 = .ok (.aaload, 1) := by decide +kernel
theorem dX11_least_120 : decode cX11_least 120 = .ok (.iload 7, 2) := by decide +kernel
theorem dX11_least_122 : decode cX11_least 122 = .ok (.invokevirtual 448, 3) := by decide +kernel
theorem dX11_least_125 : decode cX11_least 125 = .ok (.istore 9, 2) := by decide +kernel
theorem dX11_least_127 : decode cX11_least 127 = .ok (.iload 9, 2) := by decide +kernel
theorem dX11_least_129 : decode cX11_least 129 = .ok (.iload 5, 2) := by decide +kernel
theorem dX11_least_131 : decode cX11_least 131 = .ok (.if_icmp .lt 17, 3) := by decide +kernel
theorem dX11_least_134 : decode cX11_least 134 = .ok (.iload 9, 2) := by decide +kernel
theorem dX11_least_136 : decode cX11_least 136 = .ok (.iload 5, 2) := by decide +kernel
theorem dX11_least_138 : decode cX11_least 138 = .ok (.if_icmp .ne 22, 3) := by decide +kernel
theorem dX11_least_141 : decode cX11_least 141 = .ok (.iload 8, 2) := by decide +kernel
theorem dX11_least_143 : decode cX11_least 143 = .ok (.iload 6, 2) := by decide +kernel
theorem dX11_least_145 : decode cX11_least 145 = .ok (.if_icmp .ge 15, 3) := by decide +kernel
theorem dX11_least_148 : decode cX11_least 148 = .ok (.iload 7, 2) := by decide +kernel
theorem dX11_least_150 : decode cX11_least 150 = .ok (.istore 4, 2) := by decide +kernel
theorem dX11_least_152 : decode cX11_least 152 = .ok (.iload 9, 2) := by decide +kernel
theorem dX11_least_154 : decode cX11_least 154 = .ok (.istore 5, 2) := by decide +kernel
theorem dX11_least_156 : decode cX11_least 156 = .ok (.iload 8, 2) := by decide +kernel
theorem dX11_least_158 : decode cX11_least 158 = .ok (.istore 6, 2) := by decide +kernel
theorem dX11_least_160 : decode cX11_least 160 = .ok (.iinc 7 1, 3) := by decide +kernel
theorem dX11_least_163 : decode cX11_least 163 = .ok (.goto (-79), 3) := by decide +kernel
theorem dX11_least_166 : decode cX11_least 166 = .ok (.aload_n 0, 1) := by decide +kernel
theorem dX11_least_167 : decode cX11_least 167 = .ok (.iload 5, 2) := by decide +kernel
theorem dX11_least_169 : decode cX11_least 169 = .ok (.iload 4, 2) := by decide +kernel
theorem dX11_least_171 : decode cX11_least 171 = .ok (.invokevirtual 143, 3) := by decide +kernel
theorem dX11_least_174 : decode cX11_least 174 = .ok (.ireturn, 1) := by decide +kernel
theorem dX11_since_0 : decode cX11_since 0 = .ok (.iload_n 1, 1) := by decide +kernel
theorem dX11_since_1 : decode cX11_since 1 = .ok (.invokestatic 181, 3) := by decide +kernel
theorem dX11_since_4 : decode cX11_since 4 = .ok (.ifCond .eq 33, 3) := by decide +kernel
theorem dX11_since_7 : decode cX11_since 7 = .ok (.iload_n 2, 1) := by decide +kernel
theorem dX11_since_8 : decode cX11_since 8 = .ok (.invokestatic 194, 3) := by decide +kernel
theorem dX11_since_11 : decode cX11_since 11 = .ok (.ifCond .eq 26, 3) := by decide +kernel
theorem dX11_since_14 : decode cX11_since 14 = .ok (.iload_n 3, 1) := by decide +kernel
theorem dX11_since_15 : decode cX11_since 15 = .ok (.invokestatic 225, 3) := by decide +kernel
theorem dX11_since_18 : decode cX11_since 18 = .ok (.ifCond .eq 19, 3) := by decide +kernel
theorem dX11_since_21 : decode cX11_since 21 = .ok (.iload 4, 2) := by decide +kernel
theorem dX11_since_23 : decode cX11_since 23 = .ok (.invokestatic 225, 3) := by decide +kernel
theorem dX11_since_26 : decode cX11_since 26 = .ok (.ifCond .eq 11, 3) := by decide +kernel
theorem dX11_since_29 : decode cX11_since 29 = .ok (.iload 5, 2) := by decide +kernel
theorem dX11_since_31 : decode cX11_since 31 = .ok (.invokestatic 125, 3) := by decide +kernel
theorem dX11_since_34 : decode cX11_since 34 = .ok (.ifCond .ne 5, 3) := by decide +kernel
theorem dX11_since_37 : decode cX11_since 37 = .ok (.iconst (-1), 1) := by decide +kernel
theorem dX11_since_38 : decode cX11_since 38 = .ok (.ireturn, 1) := by decide +kernel
theorem dX11_since_39 : decode cX11_since 39 = .ok (.aload_n 0, 1) := by decide +kernel
theorem dX11_since_40 : decode cX11_since 40 = .ok (.getfield 23, 3) := by decide +kernel
theorem dX11_since_43 : decode cX11_since 43 = .ok (.iload_n 1, 1) := by decide +kernel
theorem dX11_since_44 : decode cX11_since 44 = .ok (.aaload, 1) := by decide +kernel
theorem dX11_since_45 : decode cX11_since 45 = .ok (.getfield 206, 3) := by decide +kernel
theorem dX11_since_48 : decode cX11_since 48 = .ok (.ifCond .eq 28, 3) := by decide +kernel
theorem dX11_since_51 : decode cX11_since 51 = .ok (.aload_n 0, 1) := by decide +kernel
theorem dX11_since_52 : decode cX11_since 52 = .ok (.getfield 29, 3) := by decide +kernel
theorem dX11_since_55 : decode cX11_since 55 = .ok (.iload_n 2, 1) := by decide +kernel
theorem dX11_since_56 : decode cX11_since 56 = .ok (.aaload, 1) := by decide +kernel
theorem dX11_since_57 : decode cX11_since 57 = .ok (.getfield 121, 3) := by decide +kernel
theorem dX11_since_60 : decode cX11_since 60 = .ok (.ifCond .eq 16, 3) := by decide +kernel
theorem dX11_since_63 : decode cX11_since 63 = .ok (.aload_n 0, 1) := by decide +kernel
theorem dX11_since_64 : decode cX11_since 64 = .ok (.getfield 11, 3) := by decide +kernel
theorem dX11_since_67 : decode cX11_since 67 = .ok (.iload 5, 2) := by decide +kernel
theorem dX11_since_69 : decode cX11_since 69 = .ok (.aaload, 1) := by decide +kernel
theorem dX11_since_70 : decode cX11_since 70 = .ok (.getfield 136, 3) := by decide +kernel
theorem dX11_since_73 : decode cX11_since 73 = .ok (.ifCond .ne 9, 3) := by decide +kernel
theorem dX11_since_76 : decode cX11_since 76 = .ok (.aload_n 0, 1) := by decide +kernel
theorem dX11_since_77 : decode cX11_since 77 = .ok (.iconst 1, 1) := by decide +kernel
theorem dX11_since_78 : decode cX11_since 78 = .ok (.invokevirtual 129, 3) := by decide +kernel
theorem dX11_since_81 : decode cX11_since 81 = .ok (.ireturn, 1) := by decide +kernel
theorem dX11_since_82 : decode cX11_since 82 = .ok (.aload_n 0, 1) := by decide +kernel
theorem dX11_since_83 : decode cX11_since 83 = .ok (.getfield 11, 3) := by decide +kernel
theorem dX11_since_86 : decode cX11_since 86 = .ok (.iload 5, 2) := by decide +kernel
theorem dX11_since_88 : decode cX11_since 88 = .ok (.aaload, 1) := by decide +kernel
theorem dX11_since_89 : decode cX11_since 89 = .ok (.getfield 157, 3) := by decide +kernel
theorem dX11_since_92 : decode cX11_since 92 = .ok (.iconst 1, 1) := by decide +kernel
theorem dX11_since_93 : decode cX11_since 93 = .ok (.if_icmp .ge 9, 3) := by decide +kernel
theorem dX11_since_96 : decode cX11_since 96 = .ok (.aload_n 0, 1) := by decide +kernel
theorem dX11_since_97 : decode cX11_since 97 = .ok (.iconst 5, 1) := by decide +kernel
theorem dX11_since_98 : decode cX11_since 98 = .ok (.invokevirtual 129, 3) := by decide +kernel
theorem dX11_since_101 : decode cX11_since 101 = .ok (.ireturn, 1) := by decide +kernel
theorem dX11_since_102 : decode cX11_since 102 = .ok (.aload_n 0, 1) := by decide +kernel
theorem dX11_since_103 : decode cX11_since 103 = .ok (.getfield 23, 3) := by decide +kernel
theorem dX11_since_106 : decode cX11_since 106 = .ok (.iload_n 1, 1) := by decide +kernel
theorem dX11_since_107 : decode cX11_since 107 = .ok (.aaload, 1) := by decide +kernel
theorem dX11_since_108 : decode cX11_since 108 = .ok (.iload_n 3, 1) := by decide +kernel
theorem dX11_since_109 : decode cX11_since 109 = .ok (.invokevirtual 207, 3) := by decide +kernel
theorem dX11_since_112 : decode cX11_since 112 = .ok (.ifCond .eq 17, 3) := by decide +kernel
theorem dX11_since_115 : decode cX11_since 115 = .ok (.aload_n 0, 1) := by decide +kernel
theorem dX11_since_116 : decode cX11_since 116 = .ok (.getfield 23, 3) := by decide +kernel
theorem dX11_since_119 : decode cX11_since 119 = .ok (.iload_n 1, 1) := by decide +kernel
theorem dX11_since_120 : decode cX11_since 120 = .ok (.aaload, 1) := by decide +kernel
theorem dX11_since_121 : decode cX11_since 121 = .ok (.iload 4, 2) := by decide +kernel
theorem dX11_since_123 : decode cX11_since 123 = .ok (.invokevirtual 452, 3) := by decide +kernel
theorem dX11_since_126 : decode cX11_since 126 = .ok (.ifCond .ne 9, 3) := by decide +kernel
theorem dX11_since_129 : decode cX11_since 129 = .ok (.aload_n 0, 1) := by decide +kernel
theorem dX11_since_130 : decode cX11_since 130 = .ok (.iconst 2, 1) := by decide +kernel
theorem dX11_since_131 : decode cX11_since 131 = .ok (.invokevirtual 129, 3) := by decide +kernel
theorem dX11_since_134 : decode cX11_since 134 = .ok (.ireturn, 1) := by decide +kernel
theorem dX11_since_135 : decode cX11_since 135 = .ok (.aload_n 0, 1) := by decide +kernel
theorem dX11_since_136 : decode cX11_since 136 = .ok (.getfield 11, 3) := by decide +kernel
theorem dX11_since_139 : decode cX11_since 139 = .ok (.iload 5, 2) := by decide +kernel
theorem dX11_since_141 : decode cX11_since 141 = .ok (.aaload, 1) := by decide +kernel
theorem dX11_since_142 : decode cX11_since 142 = .ok (.sipush (-10000), 3) := by decide +kernel
