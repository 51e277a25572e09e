theorem dX11_row_4 : decode cX11_row 4 = .ok (.ifCond .eq 9, 3) := by decide +kernel
theorem dX11_row_7 : decode cX11_row 7 = .ok (.iload_n 2, 1) := by decide +kernel
theorem dX11_row_8 : decode cX11_row 8 = .ok (.bipush 60, 2) := by decide +kernel
theorem dX11_row_10 : decode cX11_row 10 = .ok (.if_icmp .le 5, 3) := by decide +kernel
theorem dX11_row_13 : decode cX11_row 13 = .ok (.iconst (-1), 1) := by decide +kernel
theorem dX11_row_14 : decode cX11_row 14 = .ok (.ireturn, 1) := by decide +kernel
theorem dX11_row_15 : decode cX11_row 15 = .ok (.iload_n 2, 1) := by decide +kernel
theorem dX11_row_16 : decode cX11_row 16 = .ok (.ifCond .ge 9, 3) := by decide +kernel
theorem dX11_row_19 : decode cX11_row 19 = .ok (.aload_n 0, 1) := by decide +kernel
theorem dX11_row_20 : decode cX11_row 20 = .ok (.iconst 5, 1) := by decide +kernel
theorem dX11_row_21 : decode cX11_row 21 = .ok (.invokevirtual 129, 3) := by decide +kernel
theorem dX11_row_24 : decode cX11_row 24 = .ok (.ireturn, 1) := by decide +kernel
theorem dX11_row_25 : decode cX11_row 25 = .ok (.aload_n 0, 1) := by decide +kernel
theorem dX11_row_26 : decode cX11_row 26 = .ok (.getfield 11, 3) := by decide +kernel
theorem dX11_row_29 : decode cX11_row 29 = .ok (.iload_n 1, 1) := by decide +kernel
theorem dX11_row_30 : decode cX11_row 30 = .ok (.aaload, 1) := by decide +kernel
theorem dX11_row_31 : decode cX11_row 31 = .ok (.iload_n 2, 1) := by decide +kernel
theorem dX11_row_32 : decode cX11_row 32 = .ok (.invokevirtual 133, 3) := by decide +kernel
theorem dX11_row_35 : decode cX11_row 35 = .ok (.iload_n 2, 1) := by decide +kernel
theorem dX11_row_36 : decode cX11_row 36 = .ok (.ireturn, 1) := by decide +kernel
theorem dX11_lay_0 : decode cX11_lay 0 = .ok (.iload_n 1, 1) := by decide +kernel
theorem dX11_lay_1 : decode cX11_lay 1 = .ok (.invokestatic 125, 3) := by decide +kernel
theorem dX11_lay_4 : decode cX11_lay 4 = .ok (.ifCond .ne 5, 3) := by decide +kernel
theorem dX11_lay_7 : decode cX11_lay 7 = .ok (.iconst (-1), 1) := by decide +kernel
theorem dX11_lay_8 : decode cX11_lay 8 = .ok (.ireturn, 1) := by decide +kernel
theorem dX11_lay_9 : decode cX11_lay 9 = .ok (.aload_n 0, 1) := by decide +kernel
theorem dX11_lay_10 : decode cX11_lay 10 = .ok (.getfield 11, 3) := by decide +kernel
theorem dX11_lay_13 : decode cX11_lay 13 = .ok (.iload_n 1, 1) := by decide +kernel
theorem dX11_lay_14 : decode cX11_lay 14 = .ok (.aaload, 1) := by decide +kernel
theorem dX11_lay_15 : decode cX11_lay 15 = .ok (.getfield 136, 3) := by decide +kernel
theorem dX11_lay_18 : decode cX11_lay 18 = .ok (.ifCond .ne 9, 3) := by decide +kernel
theorem dX11_lay_21 : decode cX11_lay 21 = .ok (.aload_n 0, 1) := by decide +kernel
theorem dX11_lay_22 : decode cX11_lay 22 = .ok (.iconst 1, 1) := by decide +kernel
theorem dX11_lay_23 : decode cX11_lay 23 = .ok (.invokevirtual 129, 3) := by decide +kernel
theorem dX11_lay_26 : decode cX11_lay 26 = .ok (.ireturn, 1) := by decide +kernel
theorem dX11_lay_27 : decode cX11_lay 27 = .ok (.aload_n 0, 1) := by decide +kernel
theorem dX11_lay_28 : decode cX11_lay 28 = .ok (.getfield 11, 3) := by decide +kernel
theorem dX11_lay_31 : decode cX11_lay 31 = .ok (.iload_n 1, 1) := by decide +kernel
theorem dX11_lay_32 : decode cX11_lay 32 = .ok (.aaload, 1) := by decide +kernel
theorem dX11_lay_33 : decode cX11_lay 33 = .ok (.iload_n 2, 1) := by decide +kernel
theorem dX11_lay_34 : decode cX11_lay 34 = .ok (.invokevirtual 137, 3) := by decide +kernel
theorem dX11_lay_37 : decode cX11_lay 37 = .ok (.ifCond .ne 9, 3) := by decide +kernel
theorem dX11_lay_40 : decode cX11_lay 40 = .ok (.aload_n 0, 1) := by decide +kernel
theorem dX11_lay_41 : decode cX11_lay 41 = .ok (.iconst 2, 1) := by decide +kernel
theorem dX11_lay_42 : decode cX11_lay 42 = .ok (.invokevirtual 129, 3) := by decide +kernel
theorem dX11_lay_45 : decode cX11_lay 45 = .ok (.ireturn, 1) := by decide +kernel
theorem dX11_lay_46 : decode cX11_lay 46 = .ok (.aload_n 0, 1) := by decide +kernel
theorem dX11_lay_47 : decode cX11_lay 47 = .ok (.aload_n 0, 1) := by decide +kernel
theorem dX11_lay_48 : decode cX11_lay 48 = .ok (.getfield 11, 3) := by decide +kernel
theorem dX11_lay_51 : decode cX11_lay 51 = .ok (.iload_n 1, 1) := by decide +kernel
theorem dX11_lay_52 : decode cX11_lay 52 = .ok (.aaload, 1) := by decide +kernel
theorem dX11_lay_53 : decode cX11_lay 53 = .ok (.getfield 140, 3) := by decide +kernel
theorem dX11_lay_56 : decode cX11_lay 56 = .ok (.iload_n 2, 1) := by decide +kernel
theorem dX11_lay_57 : decode cX11_lay 57 = .ok (.iaload, 1) := by decide +kernel
theorem dX11_lay_58 : decode cX11_lay 58 = .ok (.putfield 104, 3) := by decide +kernel
theorem dX11_lay_61 : decode cX11_lay 61 = .ok (.aload_n 0, 1) := by decide +kernel
theorem dX11_lay_62 : decode cX11_lay 62 = .ok (.getfield 11, 3) := by decide +kernel
theorem dX11_lay_65 : decode cX11_lay 65 = .ok (.iload_n 1, 1) := by decide +kernel
theorem dX11_lay_66 : decode cX11_lay 66 = .ok (.aaload, 1) := by decide +kernel
theorem dX11_lay_67 : decode cX11_lay 67 = .ok (.getfield 140, 3) := by decide +kernel
theorem dX11_lay_70 : decode cX11_lay 70 = .ok (.iload_n 2, 1) := by decide +kernel
theorem dX11_lay_71 : decode cX11_lay 71 = .ok (.iload_n 3, 1) := by decide +kernel
theorem dX11_lay_72 : decode cX11_lay 72 = .ok (.iastore, 1) := by decide +kernel
theorem dX11_lay_73 : decode cX11_lay 73 = .ok (.iconst 1, 1) := by decide +kernel
theorem dX11_lay_74 : decode cX11_lay 74 = .ok (.ireturn, 1) := by decide +kernel
theorem dX11_at_0 : decode cX11_at 0 = .ok (.iload_n 1, 1) := by decide +kernel
theorem dX11_at_1 : decode cX11_at 1 = .ok (.invokestatic 125, 3) := by decide +kernel
theorem dX11_at_4 : decode cX11_at 4 = .ok (.ifCond .ne 5, 3) := by decide +kernel
theorem dX11_at_7 : decode cX11_at 7 = .ok (.iconst (-1), 1) := by decide +kernel
theorem dX11_at_8 : decode cX11_at 8 = .ok (.ireturn, 1) := by decide +kernel
theorem dX11_at_9 : decode cX11_at 9 = .ok (.aload_n 0, 1) := by decide +kernel
theorem dX11_at_10 : decode cX11_at 10 = .ok (.getfield 11, 3) := by decide +kernel
theorem dX11_at_13 : decode cX11_at 13 = .ok (.iload_n 1, 1) := by decide +kernel
theorem dX11_at_14 : decode cX11_at 14 = .ok (.aaload, 1) := by decide +kernel
theorem dX11_at_15 : decode cX11_at 15 = .ok (.getfield 136, 3) := by decide +kernel
theorem dX11_at_18 : decode cX11_at 18 = .ok (.ifCond .ne 9, 3) := by decide +kernel
theorem dX11_at_21 : decode cX11_at 21 = .ok (.aload_n 0, 1) := by decide +kernel
theorem dX11_at_22 : decode cX11_at 22 = .ok (.iconst 1, 1) := by decide +kernel
theorem dX11_at_23 : decode cX11_at 23 = .ok (.invokevirtual 129, 3) := by decide +kernel
theorem dX11_at_26 : decode cX11_at 26 = .ok (.ireturn, 1) := by decide +kernel
theorem dX11_at_27 : decode cX11_at 27 = .ok (.aload_n 0, 1) := by decide +kernel
theorem dX11_at_28 : decode cX11_at 28 = .ok (.getfield 11, 3) := by decide +kernel
theorem dX11_at_31 : decode cX11_at 31 = .ok (.iload_n 1, 1) := by decide +kernel
theorem dX11_at_32 : decode cX11_at 32 = .ok (.aaload, 1) := by decide +kernel
theorem dX11_at_33 : decode cX11_at 33 = .ok (.iload_n 2, 1) := by decide +kernel
theorem dX11_at_34 : decode cX11_at 34 = .ok (.invokevirtual 137, 3) := by decide +kernel
theorem dX11_at_37 : decode cX11_at 37 = .ok (.ifCond .ne 9, 3) := by decide +kernel
theorem dX11_at_40 : decode cX11_at 40 = .ok (.aload_n 0, 1) := by decide +kernel
theorem dX11_at_41 : decode cX11_at 41 = .ok (.iconst 2, 1) := by decide +kernel
theorem dX11_at_42 : decode cX11_at 42 = .ok (.invokevirtual 129, 3) := by decide +kernel
theorem dX11_at_45 : decode cX11_at 45 = .ok (.ireturn, 1) := by decide +kernel
theorem dX11_at_46 : decode cX11_at 46 = .ok (.aload_n 0, 1) := by decide +kernel
theorem dX11_at_47 : decode cX11_at 47 = .ok (.aload_n 0, 1) := by decide +kernel
theorem dX11_at_48 : decode cX11_at 48 = .ok (.getfield 11, 3) := by decide +kernel
theorem dX11_at_51 : decode cX11_at 51 = .ok (.iload_n 1, 1) := by decide +kernel
theorem dX11_at_52 : decode cX11_at 52 = .ok (.aaload, 1) := by decide +kernel
theorem dX11_at_53 : decode cX11_at 53 = .ok (.getfield 140, 3) := by decide +kernel
theorem dX11_at_56 : decode cX11_at 56 = .ok (.iload_n 2, 1) := by decide +kernel
theorem dX11_at_57 : decode cX11_at 57 = .ok (.iaload, 1) := by decide +kernel
theorem dX11_at_58 : decode cX11_at 58 = .ok (.iconst 1, 1) := by decide +kernel
theorem dX11_at_59 : decode cX11_at 59 = .ok (.invokevirtual 143, 3) := by decide +kernel
theorem dX11_at_62 : decode cX11_at 62 = .ok (.ireturn, 1) := by decide +kernel
theorem dX11_tear_0 : decode cX11_tear 0 = .ok (.iload_n 1, 1) := by decide +kernel
theorem dX11_tear_1 : decode cX11_tear 1 = .ok (.invokestatic 125, 3) := by decide +kernel
theorem dX11_tear_4 : decode cX11_tear 4 = .ok (.ifCond .ne 5, 3) := by decide +kernel
theorem dX11_tear_7 : decode cX11_tear 7 = .ok (.iconst (-1), 1) := by decide +kernel
theorem dX11_tear_8 : decode cX11_tear 8 = .ok (.ireturn, 1) := by decide +kernel
theorem dX11_tear_9 : decode cX11_tear 9 = .ok (.aload_n 0, 1) := by decide +kernel
theorem dX11_tear_10 : decode cX11_tear 10 = .ok (.getfield 11, 3) := by decide +kernel
theorem dX11_tear_13 : decode cX11_tear 13 = .ok (.iload_n 1, 1) := by decide +kernel
theorem dX11_tear_14 : decode cX11_tear 14 = .ok (.aaload, 1) := by decide +kernel
theorem dX11_tear_15 : decode cX11_tear 15 = .ok (.getfield 136, 3) := by decide +kernel
theorem dX11_tear_18 : decode cX11_tear 18 = .ok (.ifCond .ne 9, 3) := by decide +kernel
theorem dX11_tear_21 : decode cX11_tear 21 = .ok (.aload_n 0, 1) := by decide +kernel
theorem dX11_tear_22 : decode cX11_tear 22 = .ok (.iconst 1, 1) := by decide +kernel
theorem dX11_tear_23 : decode cX11_tear 23 = .ok (.invokevirtual 129, 3) := by decide +kernel
theorem dX11_tear_26 : decode cX11_tear 26 = .ok (.ireturn, 1) := by decide +kernel
theorem dX11_tear_27 : decode cX11_tear 27 = .ok (.aload_n 0, 1) := by decide +kernel
theorem dX11_tear_28 : decode cX11_tear 28 = .ok (.getfield 11, 3) := by decide +kernel
theorem dX11_tear_31 : decode cX11_tear 31 = .ok (.iload_n 1, 1) := by decide +kernel
theorem dX11_tear_32 : decode cX11_tear 32 = .ok (.aaload, 1) := by decide +kernel
theorem dX11_tear_33 : decode cX11_tear 33 = .ok (.iconst 0, 1) := by decide +kernel
theorem dX11_tear_34 : decode cX11_tear 34 = .ok (.putfield 136, 3) := by decide +kernel
theorem dX11_tear_37 : decode cX11_tear 37 = .ok (.iconst 1, 1) := by decide +kernel
theorem dX11_tear_38 : decode cX11_tear 38 = .ok (.ireturn, 1) := by decide +kernel
theorem dX11_copy_0 : decode cX11_copy 0 = .ok (.iload_n 1, 1) := by decide +kernel
theorem dX11_copy_1 : decode cX11_copy 1 = .ok (.invokestatic 125, 3) := by decide +kernel
theorem dX11_copy_4 : decode cX11_copy 4 = .ok (.ifCond .eq 10, 3) := by decide +kernel
theorem dX11_copy_7 : decode cX11_copy 7 = .ok (.iload_n 3, 1) := by decide +kernel
theorem dX11_copy_8 : decode cX11_copy 8 = .ok (.invokestatic 125, 3) := by decide +kernel
theorem dX11_copy_11 : decode cX11_copy 11 = .ok (.ifCond .ne 5, 3) := by decide +kernel
theorem dX11_copy_14 : decode cX11_copy 14 = .ok (.iconst (-1), 1) := by decide +kernel
theorem dX11_copy_15 : decode cX11_copy 15 = .ok (.ireturn, 1) := by decide +kernel
theorem dX11_copy_16 : decode cX11_copy 16 = .ok (.iload 5, 2) := by decide +kernel
theorem dX11_copy_18 : decode cX11_copy 18 = .ok (.ifCond .ge 9, 3) := by decide +kernel
theorem dX11_copy_21 : decode cX11_copy 21 = .ok (.aload_n 0, 1) := by decide +kernel
theorem dX11_copy_22 : decode cX11_copy 22 = .ok (.iconst 5, 1) := by decide +kernel
theorem dX11_copy_23 : decode cX11_copy 23 = .ok (.invokevirtual 129, 3) := by decide +kernel
theorem dX11_copy_26 : decode cX11_copy 26 = .ok (.ireturn, 1) := by decide +kernel
theorem dX11_copy_27 : decode cX11_copy 27 = .ok (.aload_n 0, 1) := by decide +kernel
theorem dX11_copy_28 : decode cX11_copy 28 = .ok (.getfield 11, 3) := by decide +kernel
theorem dX11_copy_31 : decode cX11_copy 31 = .ok (.iload_n 1, 1) := by decide +kernel
theorem dX11_copy_32 : decode cX11_copy 32 = .ok (.aaload, 1) := by decide +kernel
theorem dX11_copy_33 : decode cX11_copy 33 = .ok (.getfield 136, 3) := by decide +kernel
theorem dX11_copy_36 : decode cX11_copy 36 = .ok (.ifCond .eq 15, 3) := by decide +kernel
theorem dX11_copy_39 : decode cX11_copy 39 = .ok (.aload_n 0, 1) := by decide +kernel
theorem dX11_copy_40 : decode cX11_copy 40 = .ok (.getfield 11, 3) := by decide +kernel
theorem dX11_copy_43 : decode cX11_copy 43 = .ok (.iload_n 3, 1) := by decide +kernel
theorem dX11_copy_44 : decode cX11_copy 44 = .ok (.aaload, 1) := by decide +kernel
theorem dX11_copy_45 : decode cX11_copy 45 = .ok (.getfield 136, 3) := by decide +kernel
theorem dX11_copy_48 : decode cX11_copy 48 = .ok (.ifCond .ne 9, 3) := by decide +kernel
theorem dX11_copy_51 : decode cX11_copy 51 = .ok (.aload_n 0, 1) := by decide +kernel
theorem dX11_copy_52 : decode cX11_copy 52 = .ok (.iconst 1, 1) := by decide +kernel
theorem dX11_copy_53 : decode cX11_copy 53 = .ok (.invokevirtual 129, 3) := by decide +kernel
theorem dX11_copy_56 : decode cX11_copy 56 = .ok (.ireturn, 1) := by decide +kernel
theorem dX11_copy_57 : decode cX11_copy 57 = .ok (.aload_n 0, 1) := by decide +kernel
theorem dX11_copy_58 : decode cX11_copy 58 = .ok (.getfield 11, 3) := by decide +kernel
theorem dX11_copy_61 : decode cX11_copy 61 = .ok (.iload_n 1, 1) := by decide +kernel
theorem dX11_copy_62 : decode cX11_copy 62 = .ok (.aaload, 1) := by decide +kernel
theorem dX11_copy_63 : decode cX11_copy 63 = .ok (.iload_n 2, 1) := by decide +kernel
theorem dX11_copy_64 : decode cX11_copy 64 = .ok (.iload 5, 2) := by decide +kernel
theorem dX11_copy_66 : decode cX11_copy 66 = .ok (.invokevirtual 147, 3) := by decide +kernel
theorem dX11_copy_69 : decode cX11_copy 69 = .ok (.ifCond .eq 19, 3) := by decide +kernel
theorem dX11_copy_72 : decode cX11_copy 72 = .ok (.aload_n 0, 1) := by decide +kernel
theorem dX11_copy_73 : decode cX11_copy 73 = .ok (.getfield 11, 3) := by decide +kernel
theorem dX11_copy_76 : decode cX11_copy 76 = .ok (.iload_n 3, 1) := by decide +kernel
theorem dX11_copy_77 : decode cX11_copy 77 = .ok (.aaload, 1) := by decide +kernel
theorem dX11_copy_78 : decode cX11_copy 78 = .ok (.iload 4, 2) := by decide +kernel
theorem dX11_copy_80 : decode cX11_copy 80 = .ok (.iload 5, 2) := by decide +kernel
theorem dX11_copy_82 : decode cX11_copy 82 = .ok (.invokevirtual 147, 3) := by decide +kernel
theorem dX11_copy_85 : decode cX11_copy 85 = .ok (.ifCond .ne 9, 3) := by decide +kernel
theorem dX11_copy_88 : decode cX11_copy 88 = .ok (.aload_n 0, 1) := by decide +kernel
theorem dX11_copy_89 : decode cX11_copy 89 = .ok (.iconst 2, 1) := by decide +kernel
theorem dX11_copy_90 : decode cX11_copy 90 = .ok (.invokevirtual 129, 3) := by decide +kernel
theorem dX11_copy_93 : decode cX11_copy 93 = .ok (.ireturn, 1) := by decide +kernel
theorem dX11_copy_94 : decode cX11_copy 94 = .ok (.aload_n 0, 1) := by decide +kernel
theorem dX11_copy_95 : decode cX11_copy 95 = .ok (.getfield 11, 3) := by decide +kernel
theorem dX11_copy_98 : decode cX11_copy 98 = .ok (.iload_n 1, 1) := by decide +kernel
theorem dX11_copy_99 : decode cX11_copy 99 = .ok (.aaload, 1) := by decide +kernel
theorem dX11_copy_100 : decode cX11_copy 100 = .ok (.getfield 140, 3) := by decide +kernel
theorem dX11_copy_103 : decode cX11_copy 103 = .ok (.iload_n 2, 1) := by decide +kernel
theorem dX11_copy_104 : decode cX11_copy 104 = .ok (.aload_n 0, 1) := by decide +kernel
theorem dX11_copy_105 : decode cX11_copy 105 = .ok (.getfield 11, 3) := by decide +kernel
theorem dX11_copy_108 : decode cX11_copy 108 = .ok (.iload_n 3, 1) := by decide +kernel
theorem dX11_copy_109 : decode cX11_copy 109 = .ok (.aaload, 1) := by decide +kernel
theorem dX11_copy_110 : decode cX11_copy 110 = .ok (.getfield 140, 3) := by decide +kernel
theorem dX11_copy_113 : decode cX11_copy 113 = .ok (.iload 4, 2) := by decide +kernel
theorem dX11_copy_115 : decode cX11_copy 115 = .ok (.iload 5, 2) := by decide +kernel
theorem dX11_copy_117 : decode cX11_copy 117 = .ok (.invokestatic 151, 3) := by decide +kernel
theorem dX11_copy_120 : decode cX11_copy 120 = .ok (.iconst 1, 1) := by decide +kernel
theorem dX11_copy_121 : decode cX11_copy 121 = .ok (.ireturn, 1) := by decide +kernel
theorem dX11_mean_0 : decode cX11_mean 0 = .ok (.iload_n 1, 1) := by decide +kernel
theorem dX11_mean_1 : decode cX11_mean 1 = .ok (.invokestatic 125, 3) := by decide +kernel
theorem dX11_mean_4 : decode cX11_mean 4 = .ok (.ifCond .ne 5, 3) := by decide +kernel
theorem dX11_mean_7 : decode cX11_mean 7 = .ok (.iconst (-1), 1) := by decide +kernel
theorem dX11_mean_8 : decode cX11_mean 8 = .ok (.ireturn, 1) := by decide +kernel
theorem dX11_mean_9 : decode cX11_mean 9 = .ok (.aload_n 0, 1) := by decide +kernel
theorem dX11_mean_10 : decode cX11_mean 10 = .ok (.getfield 11, 3) := by decide +kernel
theorem dX11_mean_13 : decode cX11_mean 13 = .ok (.iload_n 1, 1) := by decide +kernel
theorem dX11_mean_14 : decode cX11_mean 14 = .ok (.aaload, 1) := by decide +kernel
theorem dX11_mean_15 : decode cX11_mean 15 = .ok (.getfield 136, 3) := by decide +kernel
theorem dX11_mean_18 : decode cX11_mean 18 = .ok (.ifCond .ne 9, 3) := by decide +kernel
theorem dX11_mean_21 : decode cX11_mean 21 = .ok (.aload_n 0, 1) := by decide +kernel
theorem dX11_mean_22 : decode cX11_mean 22 = .ok (.iconst 1, 1) := by decide +kernel
theorem dX11_mean_23 : decode cX11_mean 23 = .ok (.invokevirtual 129, 3) := by decide +kernel
theorem dX11_mean_26 : decode cX11_mean 26 = .ok (.ireturn, 1) := by decide +kernel
theorem dX11_mean_27 : decode cX11_mean 27 = .ok (.aload_n 0, 1) := by decide +kernel
theorem dX11_mean_28 : decode cX11_mean 28 = .ok (.getfield 11, 3) := by decide +kernel
theorem dX11_mean_31 : decode cX11_mean 31 = .ok (.iload_n 1, 1) := by decide +kernel
theorem dX11_mean_32 : decode cX11_mean 32 = .ok (.aaload, 1) := by decide +kernel
theorem dX11_mean_33 : decode cX11_mean 33 = .ok (.getfield 157, 3) := by decide +kernel
theorem dX11_mean_36 : decode cX11_mean 36 = .ok (.iconst 1, 1) := by decide +kernel
theorem dX11_mean_37 : decode cX11_mean 37 = .ok (.if_icmp .ge 9, 3) := by decide +kernel
theorem dX11_mean_40 : decode cX11_mean 40 = .ok (.aload_n 0, 1) := by decide +kernel
theorem dX11_mean_41 : decode cX11_mean 41 = .ok (.iconst 4, 1) := by decide +kernel
theorem dX11_mean_42 : decode cX11_mean 42 = .ok (.invokevirtual 129, 3) := by decide +kernel
theorem dX11_mean_45 : decode cX11_mean 45 = .ok (.ireturn, 1) := by decide +kernel
theorem dX11_mean_46 : decode cX11_mean 46 = .ok (.aload_n 0, 1) := by decide +kernel
theorem dX11_mean_47 : decode cX11_mean 47 = .ok (.aload_n 0, 1) := by decide +kernel
theorem dX11_mean_48 : decode cX11_mean 48 = .ok (.getfield 11, 3) := by decide +kernel
theorem dX11_mean_51 : decode cX11_mean 51 = .ok (.iload_n 1, 1) := by decide +kernel
theorem dX11_mean_52 : decode cX11_mean 52 = .ok (.aaload, 1) := by decide +kernel
theorem dX11_mean_53 : decode cX11_mean 53 = .ok (.invokevirtual 160, 3) := by decide +kernel
theorem dX11_mean_56 : decode cX11_mean 56 = .ok (.aload_n 0, 1) := by decide +kernel
theorem dX11_mean_57 : decode cX11_mean 57 = .ok (.getfield 11, 3) := by decide +kernel
theorem dX11_mean_60 : decode cX11_mean 60 = .ok (.iload_n 1, 1) := by decide +kernel
theorem dX11_mean_61 : decode cX11_mean 61 = .ok (.aaload, 1) := by decide +kernel
theorem dX11_mean_62 : decode cX11_mean 62 = .ok (.getfield 157, 3) := by decide +kernel
theorem dX11_mean_65 : decode cX11_mean 65 = .ok (.i2l, 1) := by decide +kernel
theorem dX11_mean_66 : decode cX11_mean 66 = .ok (.ldiv, 1) := by decide +kernel
theorem dX11_mean_67 : decode cX11_mean 67 = .ok (.l2i, 1) := by decide +kernel
theorem dX11_mean_68 : decode cX11_mean 68 = .ok (.iconst 1, 1) := by decide +kernel
theorem dX11_mean_69 : decode cX11_mean 69 = .ok (.invokevirtual 143, 3) := by decide +kernel
theorem dX11_mean_72 : decode cX11_mean 72 = .ok (.ireturn, 1) := by decide +kernel
theorem dX11_text_0 : decode cX11_text 0 = .ok (.iload_n 1, 1) := by decide +kernel
theorem dX11_text_1 : decode cX11_text 1 = .ok (.invokestatic 164, 3) := by decide +kernel
theorem dX11_text_4 : decode cX11_text 4 = .ok (.ifCond .eq 9, 3) := by decide +kernel
theorem dX11_text_7 : decode cX11_text 7 = .ok (.iload_n 2, 1) := by decide +kernel
theorem dX11_text_8 : decode cX11_text 8 = .ok (.bipush 100, 2) := by decide +kernel
theorem dX11_text_10 : decode cX11_text 10 = .ok (.if_icmp .le 5, 3) := by decide +kernel
theorem dX11_text_13 : decode cX11_text 13 = .ok (.iconst (-1), 1) := by decide +kernel
theorem dX11_text_14 : decode cX11_text 14 = .ok (.ireturn, 1) := by decide +kernel
theorem dX11_text_15 : decode cX11_text 15 = .ok (.iload_n 2, 1) := by decide +kernel
theorem dX11_text_16 : decode cX11_text 16 = .ok (.ifCond .ge 9, 3) := by decide +kernel
theorem dX11_text_19 : decode cX11_text 19 = .ok (.aload_n 0, 1) := by decide +kernel
theorem dX11_text_20 : decode cX11_text 20 = .ok (.iconst 5, 1) := by decide +kernel
theorem dX11_text_21 : decode cX11_text 21 = .ok (.invokevirtual 129, 3) := by decide +kernel
theorem dX11_text_24 : decode cX11_text 24 = .ok (.ireturn, 1) := by decide +kernel
theorem dX11_text_25 : decode cX11_text 25 = .ok (.aload_n 0, 1) := by decide +kernel
theorem dX11_text_26 : decode cX11_text 26 = .ok (.getfield 17, 3) := by decide +kernel
theorem dX11_text_29 : decode cX11_text 29 = .ok (.iload_n 1, 1) := by decide +kernel
theorem dX11_text_30 : decode cX11_text 30 = .ok (.aaload, 1) := by decide +kernel
theorem dX11_text_31 : decode cX11_text 31 = .ok (.iload_n 2, 1) := by decide +kernel
theorem dX11_text_32 : decode cX11_text 32 = .ok (.invokevirtual 167, 3) := by decide +kernel
theorem dX11_text_35 : decode cX11_text 35 = .ok (.iload_n 2, 1) := by decide +kernel
theorem dX11_text_36 : decode cX11_text 36 = .ok (.ireturn, 1) := by decide +kernel
theorem dX11_put_0 : decode cX11_put 0 = .ok (.iload_n 1, 1) := by decide +kernel
theorem dX11_put_1 : decode cX11_put 1 = .ok (.invokestatic 164, 3) := by decide +kernel
theorem dX11_put_4 : decode cX11_put 4 = .ok (.ifCond .ne 5, 3) := by decide +kernel
theorem dX11_put_7 : decode cX11_put 7 = .ok (.iconst (-1), 1) := by decide +kernel
theorem dX11_put_8 : decode cX11_put 8 = .ok (.ireturn, 1) := by decide +kernel
theorem dX11_put_9 : decode cX11_put 9 = .ok (.aload_n 0, 1) := by decide +kernel
theorem dX11_put_10 : decode cX11_put 10 = .ok (.getfield 17, 3) := by decide +kernel
theorem dX11_put_13 : decode cX11_put 13 = .ok (.iload_n 1, 1) := by decide +kernel
theorem dX11_put_14 : decode cX11_put 14 = .ok (.aaload, 1) := by decide +kernel
theorem dX11_put_15 : decode cX11_put 15 = .ok (.getfield 168, 3) := by decide +kernel
theorem dX11_put_18 : decode cX11_put 18 = .ok (.ifCond .ne 9, 3) := by decide +kernel
theorem dX11_put_21 : decode cX11_put 21 = .ok (.aload_n 0, 1) := by decide +kernel
theorem dX11_put_22 : decode cX11_put 22 = .ok (.iconst 1, 1) := by decide +kernel
theorem dX11_put_23 : decode cX11_put 23 = .ok (.invokevirtual 129, 3) := by decide +kernel
theorem dX11_put_26 : decode cX11_put 26 = .ok (.ireturn, 1) := by decide +kernel
theorem dX11_put_27 : decode cX11_put 27 = .ok (.aload_n 0, 1) := by decide +kernel
theorem dX11_put_28 : decode cX11_put 28 = .ok (.getfield 17, 3) := by decide +kernel
theorem dX11_put_31 : decode cX11_put 31 = .ok (.iload_n 1, 1) := by decide +kernel
theorem dX11_put_32 : decode cX11_put 32 = .ok (.aaload, 1) := by decide +kernel
theorem dX11_put_33 : decode cX11_put 33 = .ok (.iload_n 2, 1) := by decide +kernel
theorem dX11_put_34 : decode cX11_put 34 = .ok (.invokevirtual 169, 3) := by decide +kernel
theorem dX11_put_37 : decode cX11_put 37 = .ok (.ifCond .ne 9, 3) := by decide +kernel
theorem dX11_put_40 : decode cX11_put 40 = .ok (.aload_n 0, 1) := by decide +kernel
theorem dX11_put_41 : decode cX11_put 41 = .ok (.iconst 2, 1) := by decide +kernel
theorem dX11_put_42 : decode cX11_put 42 = .ok (.invokevirtual 129, 3) := by decide +kernel
theorem dX11_put_45 : decode cX11_put 45 = .ok (.ireturn, 1) := by decide +kernel
theorem dX11_put_46 : decode cX11_put 46 = .ok (.aload_n 0, 1) := by decide +kernel
theorem dX11_put_47 : decode cX11_put 47 = .ok (.getfield 17, 3) := by decide +kernel
theorem dX11_put_50 : decode cX11_put 50 = .ok (.iload_n 1, 1) := by decide +kernel
theorem dX11_put_51 : decode cX11_put 51 = .ok (.aaload, 1) := by decide +kernel
theorem dX11_put_52 : decode cX11_put 52 = .ok (.getfield 170, 3) := by decide +kernel
theorem dX11_put_55 : decode cX11_put 55 = .ok (.iload_n 2, 1) := by decide +kernel
theorem dX11_put_56 : decode cX11_put 56 = .ok (.baload, 1) := by decide +kernel
theorem dX11_put_57 : decode cX11_put 57 = .ok (.istore 4, 2) := by decide +kernel
theorem dX11_put_59 : decode cX11_put 59 = .ok (.aload_n 0, 1) := by decide +kernel
theorem dX11_put_60 : decode cX11_put 60 = .ok (.getfield 17, 3) := by decide +kernel
theorem dX11_put_63 : decode cX11_put 63 = .ok (.iload_n 1, 1) := by decide +kernel
theorem dX11_put_64 : decode cX11_put 64 = .ok (.aaload, 1) := by decide +kernel
theorem dX11_put_65 : decode cX11_put 65 = .ok (.getfield 170, 3) := by decide +kernel
theorem dX11_put_68 : decode cX11_put 68 = .ok (.iload_n 2, 1) := by decide +kernel
theorem dX11_put_69 : decode cX11_put 69 = .ok (.iload_n 3, 1) := by decide +kernel
theorem dX11_put_70 : decode cX11_put 70 = .ok (.i2b, 1) := by decide +kernel
theorem dX11_put_71 : decode cX11_put 71 = .ok (.bastore, 1) := by decide +kernel
theorem dX11_put_72 : decode cX11_put 72 = .ok (.iload 4, 2) := by decide +kernel
theorem dX11_put_74 : decode cX11_put 74 = .ok (.sipush 1000, 3) := by decide +kernel
theorem dX11_put_77 : decode cX11_put 77 = .ok (.iadd, 1) := by decide +kernel
theorem dX11_put_78 : decode cX11_put 78 = .ok (.ireturn, 1) := by decide +kernel
theorem dX11_fault_0 : decode cX11_fault 0 = .ok (.iload_n 1, 1) := by decide +kernel
theorem dX11_fault_1 : decode cX11_fault 1 = .ok (.invokestatic 164, 3) := by decide +kernel
theorem dX11_fault_4 : decode cX11_fault 4 = .ok (.ifCond .ne 5, 3) := by decide +kernel
theorem dX11_fault_7 : decode cX11_fault 7 = .ok (.iconst (-1), 1) := by decide +kernel
theorem dX11_fault_8 : decode cX11_fault 8 = .ok (.ireturn, 1) := by decide +kernel
theorem dX11_fault_9 : decode cX11_fault 9 = .ok (.aload_n 0, 1) := by decide +kernel
theorem dX11_fault_10 : decode cX11_fault 10 = .ok (.getfield 17, 3) := by decide +kernel
theorem dX11_fault_13 : decode cX11_fault 13 = .ok (.iload_n 1, 1) := by decide +kernel
theorem dX11_fault_14 : decode cX11_fault 14 = .ok (.aaload, 1) := by decide +kernel
theorem dX11_fault_15 : decode cX11_fault 15 = .ok (.getfield 168, 3) := by decide +kernel
theorem dX11_fault_18 : decode cX11_fault 18 = .ok (.ifCond .ne 9, 3) := by decide +kernel
theorem dX11_fault_21 : decode cX11_fault 21 = .ok (.aload_n 0, 1) := by decide +kernel
theorem dX11_fault_22 : decode cX11_fault 22 = .ok (.iconst 1, 1) := by decide +kernel
theorem dX11_fault_23 : decode cX11_fault 23 = .ok (.invokevirtual 129, 3) := by decide +kernel
theorem dX11_fault_26 : decode cX11_fault 26 = .ok (.ireturn, 1) := by decide +kernel
theorem dX11_fault_27 : decode cX11_fault 27 = .ok (.iload_n 2, 1) := by decide +kernel
theorem dX11_fault_28 : decode cX11_fault 28 = .ok (.ifCond .eq 19, 3) := by decide +kernel
theorem dX11_fault_31 : decode cX11_fault 31 = .ok (.aload_n 0, 1) := by decide +kernel
theorem dX11_fault_32 : decode cX11_fault 32 = .ok (.getfield 64, 3) := by decide +kernel
theorem dX11_fault_35 : decode cX11_fault 35 = .ok (.aload_n 0, 1) := by decide +kernel
theorem dX11_fault_36 : decode cX11_fault 36 = .ok (.getfield 17, 3) := by decide +kernel
theorem dX11_fault_39 : decode cX11_fault 39 = .ok (.iload_n 1, 1) := by decide +kernel
theorem dX11_fault_40 : decode cX11_fault 40 = .ok (.aaload, 1) := by decide +kernel
theorem dX11_fault_41 : decode cX11_fault 41 = .ok (.invokevirtual 174, 3) := by decide +kernel
theorem dX11_fault_44 : decode cX11_fault 44 = .ok (.goto 16, 3) := by decide +kernel
theorem dX11_fault_47 : decode cX11_fault 47 = .ok (.aload_n 0, 1) := by decide +kernel
theorem dX11_fault_48 : decode cX11_fault 48 = .ok (.getfield 64, 3) := by decide +kernel
theorem dX11_fault_51 : decode cX11_fault 51 = .ok (.aload_n 0, 1) := by decide +kernel
theorem dX11_fault_52 : decode cX11_fault 52 = .ok (.getfield 17, 3) := by decide +kernel
theorem dX11_fault_55 : decode cX11_fault 55 = .ok (.iload_n 1, 1) := by decide +kernel
theorem dX11_fault_56 : decode cX11_fault 56 = .ok (.aaload, 1) := by decide +kernel
theorem dX11_fault_57 : decode cX11_fault 57 = .ok (.invokevirtual 178, 3) := by decide +kernel
theorem dX11_fault_60 : decode cX11_fault 60 = .ok (.ireturn, 1) := by decide +kernel
theorem dX11_harbour_0 : decode cX11_harbour 0 = .ok (.iload_n 1, 1) := by decide +kernel
theorem dX11_harbour_1 : decode cX11_harbour 1 = .ok (.invokestatic 181, 3) := by decide +kernel
theorem dX11_harbour_4 : decode cX11_harbour 4 = .ok (.ifCond .eq 10, 3) := by decide +kernel
theorem dX11_harbour_7 : decode cX11_harbour 7 = .ok (.iload_n 2, 1) := by decide +kernel
theorem dX11_harbour_8 : decode cX11_harbour 8 = .ok (.invokestatic 164, 3) := by decide +kernel
theorem dX11_harbour_11 : decode cX11_harbour 11 = .ok (.ifCond .ne 5, 3) := by decide +kernel
theorem dX11_harbour_14 : decode cX11_harbour 14 = .ok (.iconst (-1), 1) := by decide +kernel
theorem dX11_harbour_15 : decode cX11_harbour 15 = .ok (.ireturn, 1) := by decide +kernel
theorem dX11_harbour_16 : decode cX11_harbour 16 = .ok (.aload_n 0, 1) := by decide +kernel
theorem dX11_harbour_17 : decode cX11_harbour 17 = .ok (.getfield 17, 3) := by decide +kernel
theorem dX11_harbour_20 : decode cX11_harbour 20 = .ok (.iload_n 2, 1) := by decide +kernel
theorem dX11_harbour_21 : decode cX11_harbour 21 = .ok (.aaload, 1) := by decide +kernel
theorem dX11_harbour_22 : decode cX11_harbour 22 = .ok (.getfield 168, 3) := by decide +kernel
theorem dX11_harbour_25 : decode cX11_harbour 25 = .ok (.ifCond .ne 9, 3) := by decide +kernel
theorem dX11_harbour_28 : decode cX11_harbour 28 = .ok (.aload_n 0, 1) := by decide +kernel
theorem dX11_harbour_29 : decode cX11_harbour 29 = .ok (.iconst 1, 1) := by decide +kernel
theorem dX11_harbour_30 : decode cX11_harbour 30 = .ok (.invokevirtual 129, 3) := by decide +kernel
theorem dX11_harbour_33 : decode cX11_harbour 33 = .ok (.ireturn, 1) := by decide +kernel
theorem dX11_harbour_34 : decode cX11_harbour 34 = .ok (.aload_n 0, 1) := by decide +kernel
theorem dX11_harbour_35 : decode cX11_harbour 35 = .ok (.getfield 64, 3) := by decide +kernel
theorem dX11_harbour_38 : decode cX11_harbour 38 = .ok (.aload_n 0, 1) := by decide +kernel
theorem dX11_harbour_39 : decode cX11_harbour 39 = .ok (.getfield 17, 3) := by decide +kernel
theorem dX11_harbour_42 : decode cX11_harbour 42 = .ok (.iload_n 2, 1) := by decide +kernel
theorem dX11_harbour_43 : decode cX11_harbour 43 = .ok (.aaload, 1) := by decide +kernel
theorem dX11_harbour_44 : decode cX11_harbour 44 = .ok (.invokevirtual 178, 3) := by decide +kernel
theorem dX11_harbour_47 : decode cX11_harbour 47 = .ok (.bipush (-9), 2) := by decide +kernel
theorem dX11_harbour_49 : decode cX11_harbour 49 = .ok (.if_icmp .eq 6, 3) := by decide +kernel
theorem dX11_harbour_52 : decode cX11_harbour 52 = .ok (.bipush (-4), 2) := by decide +kernel
theorem dX11_harbour_54 : decode cX11_harbour 54 = .ok (.ireturn, 1) := by decide +kernel
theorem dX11_harbour_55 : decode cX11_harbour 55 = .ok (.aload_n 0, 1) := by decide +kernel
theorem dX11_harbour_56 : decode cX11_harbour 56 = .ok (.getfield 23, 3) := by decide +kernel
theorem dX11_harbour_59 : decode cX11_harbour 59 = .ok (.iload_n 1, 1) := by decide +kernel
theorem dX11_harbour_60 : decode cX11_harbour 60 = .ok (.aaload, 1) := by decide +kernel
theorem dX11_harbour_61 : decode cX11_harbour 61 = .ok (.aload_n 0, 1) := by decide +kernel
theorem dX11_harbour_62 : decode cX11_harbour 62 = .ok (.getfield 64, 3) := by decide +kernel
theorem dX11_harbour_65 : decode cX11_harbour 65 = .ok (.getfield 184, 3) := by decide +kernel
theorem dX11_harbour_68 : decode cX11_harbour 68 = .ok (.invokevirtual 187, 3) := by decide +kernel
theorem dX11_harbour_71 : decode cX11_harbour 71 = .ok (.aload_n 0, 1) := by decide +kernel
theorem dX11_harbour_72 : decode cX11_harbour 72 = .ok (.getfield 23, 3) := by decide +kernel
theorem dX11_harbour_75 : decode cX11_harbour 75 = .ok (.iload_n 1, 1) := by decide +kernel
theorem dX11_harbour_76 : decode cX11_harbour 76 = .ok (.aaload, 1) := by decide +kernel
theorem dX11_harbour_77 : decode cX11_harbour 77 = .ok (.getfield 191, 3) := by decide +kernel
theorem dX11_harbour_80 : decode cX11_harbour 80 = .ok (.ireturn, 1) := by decide +kernel
theorem dX11_sea_0 : decode cX11_sea 0 = .ok (.iload_n 1, 1) := by decide +kernel
theorem dX11_sea_1 : decode cX11_sea 1 = .ok (.invokestatic 194, 3) := by decide +kernel
theorem dX11_sea_4 : decode cX11_sea 4 = .ok (.ifCond .eq 10, 3) := by decide +kernel
theorem dX11_sea_7 : decode cX11_sea 7 = .ok (.iload_n 2, 1) := by decide +kernel
theorem dX11_sea_8 : decode cX11_sea 8 = .ok (.invokestatic 164, 3) := by decide +kernel
theorem dX11_sea_11 : decode cX11_sea 11 = .ok (.ifCond .ne 5, 3) := by decide +kernel
theorem dX11_sea_14 : decode cX11_sea 14 = .ok (.iconst (-1), 1) := by decide +kernel
theorem dX11_sea_15 : decode cX11_sea 15 = .ok (.ireturn, 1) := by decide +kernel
theorem dX11_sea_16 : decode cX11_sea 16 = .ok (.aload_n 0, 1) := by decide +kernel
theorem dX11_sea_17 : decode cX11_sea 17 = .ok (.getfield 17, 3) := by decide +kernel
theorem dX11_sea_20 : decode cX11_sea 20 = .ok (.iload_n 2, 1) := by decide +kernel
theorem dX11_sea_21 : decode cX11_sea 21 = .ok (.aaload, 1) := by decide +kernel
theorem dX11_sea_22 : decode cX11_sea 22 = .ok (.getfield 168, 3) := by decide +kernel
theorem dX11_sea_25 : decode cX11_sea 25 = .ok (.ifCond .ne 9, 3) := by decide +kernel
theorem dX11_sea_28 : decode cX11_sea 28 = .ok (.aload_n 0, 1) := by decide +kernel
theorem dX11_sea_29 : decode cX11_sea 29 = .ok (.iconst 1, 1) := by decide +kernel
theorem dX11_sea_30 : decode cX11_sea 30 = .ok (.invokevirtual 129, 3) := by decide +kernel
theorem dX11_sea_33 : decode cX11_sea 33 = .ok (.ireturn, 1) := by decide +kernel
theorem dX11_sea_34 : decode cX11_sea 34 = .ok (.aload_n 0, 1) := by decide +kernel
theorem dX11_sea_35 : decode cX11_sea 35 = .ok (.getfield 64, 3) := by decide +kernel
theorem dX11_sea_38 : decode cX11_sea 38 = .ok (.aload_n 0, 1) := by decide +kernel
theorem dX11_sea_39 : decode cX11_sea 39 = .ok (.getfield 17, 3) := by decide +kernel
theorem dX11_sea_42 : decode cX11_sea 42 = .ok (.iload_n 2, 1) := by decide +kernel
theorem dX11_sea_43 : decode cX11_sea 43 = .ok (.aaload, 1) := by decide +kernel
theorem dX11_sea_44 : decode cX11_sea 44 = .ok (.invokevirtual 174, 3) := by decide +kernel
theorem dX11_sea_47 : decode cX11_sea 47 = .ok (.bipush (-9), 2) := by decide +kernel
theorem dX11_sea_49 : decode cX11_sea 49 = .ok (.if_icmp .eq 6, 3) := by decide +kernel
theorem dX11_sea_52 : decode cX11_sea 52 = .ok (.bipush (-4), 2) := by decide +kernel
theorem dX11_sea_54 : decode cX11_sea 54 = .ok (.ireturn, 1) := by decide +kernel
theorem dX11_sea_55 : decode cX11_sea 55 = .ok (.aload_n 0, 1) := by decide +kernel
theorem dX11_sea_56 : decode cX11_sea 56 = .ok (.getfield 29, 3) := by decide +kernel
theorem dX11_sea_59 : decode cX11_sea 59 = .ok (.iload_n 1, 1) := by decide +kernel
theorem dX11_sea_60 : decode cX11_sea 60 = .ok (.aaload, 1) := by decide +kernel
theorem dX11_sea_61 : decode cX11_sea 61 = .ok (.aload_n 0, 1) := by decide +kernel
theorem dX11_sea_62 : decode cX11_sea 62 = .ok (.getfield 64, 3) := by decide +kernel
theorem dX11_sea_65 : decode cX11_sea 65 = .ok (.getfield 197, 3) := by decide +kernel
theorem dX11_sea_68 : decode cX11_sea 68 = .ok (.invokevirtual 200, 3) := by decide +kernel
theorem dX11_sea_71 : decode cX11_sea 71 = .ok (.aload_n 0, 1) := by decide +kernel
theorem dX11_sea_72 : decode cX11_sea 72 = .ok (.getfield 29, 3) := by decide +kernel
theorem dX11_sea_75 : decode cX11_sea 75 = .ok (.iload_n 1, 1) := by decide +kernel
theorem dX11_sea_76 : decode cX11_sea 76 = .ok (.aaload, 1) := by decide +kernel
theorem dX11_sea_77 : decode cX11_sea 77 = .ok (.getfield 203, 3) := by decide +kernel
theorem dX11_sea_80 : decode cX11_sea 80 = .ok (.ireturn, 1) := by decide +kernel
theorem dX11_about_0 : decode cX11_about 0 = .ok (.iload_n 1, 1) := by decide +kernel
theorem dX11_about_1 : decode cX11_about 1 = .ok (.invokestatic 181, 3) := by decide +kernel
theorem dX11_about_4 : decode cX11_about 4 = .ok (.ifCond .eq 13, 3) := by decide +kernel
theorem dX11_about_7 : decode cX11_about 7 = .ok (.iload_n 2, 1) := by decide +kernel
theorem dX11_about_8 : decode cX11_about 8 = .ok (.iconst 0, 1) := by decide +kernel
theorem dX11_about_9 : decode cX11_about 9 = .ok (.bipush 20, 2) := by decide +kernel
theorem dX11_about_11 : decode cX11_about 11 = .ok (.invokestatic 117, 3) := by decide +kernel
theorem dX11_about_14 : decode cX11_about 14 = .ok (.ifCond .ne 5, 3) := by decide +kernel
theorem dX11_about_17 : decode cX11_about 17 = .ok (.iconst (-1), 1) := by decide +kernel
theorem dX11_about_18 : decode cX11_about 18 = .ok (.ireturn, 1) := by decide +kernel
theorem dX11_about_19 : decode cX11_about 19 = .ok (.aload_n 0, 1) := by decide +kernel
theorem dX11_about_20 : decode cX11_about 20 = .ok (.getfield 23, 3) := by decide +kernel
theorem dX11_about_23 : decode cX11_about 23 = .ok (.iload_n 1, 1) := by decide +kernel
theorem dX11_about_24 : decode cX11_about 24 = .ok (.aaload, 1) := by decide +kernel
theorem dX11_about_25 : decode cX11_about 25 = .ok (.getfield 206, 3) := by decide +kernel
theorem dX11_about_28 : decode cX11_about 28 = .ok (.ifCond .ne 9, 3) := by decide +kernel
theorem dX11_about_31 : decode cX11_about 31 = .ok (.aload_n 0, 1) := by decide +kernel
theorem dX11_about_32 : decode cX11_about 32 = .ok (.iconst 1, 1) := by decide +kernel
theorem dX11_about_33 : decode cX11_about 33 = .ok (.invokevirtual 129, 3) := by decide +kernel
theorem dX11_about_36 : decode cX11_about 36 = .ok (.ireturn, 1) := by decide +kernel
theorem dX11_about_37 : decode cX11_about 37 = .ok (.iload_n 2, 1) := by decide +kernel
theorem dX11_about_38 : decode cX11_about 38 = .ok (.iconst 5, 1) := by decide +kernel
theorem dX11_about_39 : decode cX11_about 39 = .ok (.if_icmp .lt 24, 3) := by decide +kernel
theorem dX11_about_42 : decode cX11_about 42 = .ok (.aload_n 0, 1) := by decide +kernel
theorem dX11_about_43 : decode cX11_about 43 = .ok (.getfield 23, 3) := by decide +kernel
theorem dX11_about_46 : decode cX11_about 46 = .ok (.iload_n 1, 1) := by decide +kernel
theorem dX11_about_47 : decode cX11_about 47 = .ok (.aaload, 1) := by decide +kernel
theorem dX11_about_48 : decode cX11_about 48 = .ok (.iload_n 2, 1) := by decide +kernel
theorem dX11_about_49 : decode cX11_about 49 = .ok (.iconst 5, 1) := by decide +kernel
theorem dX11_about_50 : decode cX11_about 50 = .ok (.isub, 1) := by decide +kernel
theorem dX11_about_51 : decode cX11_about 51 = .ok (.invokevirtual 207, 3) := by decide +kernel
theorem dX11_about_54 : decode cX11_about 54 = .ok (.ifCond .ne 9, 3) := by decide +kernel
theorem dX11_about_57 : decode cX11_about 57 = .ok (.aload_n 0, 1) := by decide +kernel
theorem dX11_about_58 : decode cX11_about 58 = .ok (.iconst 2, 1) := by decide +kernel
theorem dX11_about_59 : decode cX11_about 59 = .ok (.invokevirtual 129, 3) := by decide +kernel
theorem dX11_about_62 : decode cX11_about 62 = .ok (.ireturn, 1) := by decide +kernel
theorem dX11_about_63 : decode cX11_about 63 = .ok (.aload_n 0, 1) := by decide +kernel
theorem dX11_about_64 : decode cX11_about 64 = .ok (.aload_n 0, 1) := by decide +kernel
theorem dX11_about_65 : decode cX11_about 65 = .ok (.getfield 23, 3) := by decide +kernel
theorem dX11_about_68 : decode cX11_about 68 = .ok (.iload_n 1, 1) := by decide +kernel
theorem dX11_about_69 : decode cX11_about 69 = .ok (.aaload, 1) := by decide +kernel
theorem dX11_about_70 : decode cX11_about 70 = .ok (.iload_n 2, 1) := by decide +kernel
theorem dX11_about_71 : decode cX11_about 71 = .ok (.invokevirtual 210, 3) := by decide +kernel
theorem dX11_about_74 : decode cX11_about 74 = .ok (.iconst 1, 1) := by decide +kernel
theorem dX11_about_75 : decode cX11_about 75 = .ok (.invokevirtual 143, 3) := by decide +kernel
theorem dX11_about_78 : decode cX11_about 78 = .ok (.ireturn, 1) := by decide +kernel
theorem dX11_set_0 : decode cX11_set 0 = .ok (.iload_n 1, 1) := by decide +kernel
theorem dX11_set_1 : decode cX11_set 1 = .ok (.invokestatic 194, 3) := by decide +kernel
theorem dX11_set_4 : decode cX11_set 4 = .ok (.ifCond .ne 5, 3) := by decide +kernel
theorem dX11_set_7 : decode cX11_set 7 = .ok (.iconst (-1), 1) := by decide +kernel
theorem dX11_set_8 : decode cX11_set 8 = .ok (.ireturn, 1) := by decide +kernel
theorem dX11_set_9 : decode cX11_set 9 = .ok (.aload_n 0, 1) := by decide +kernel
theorem dX11_set_10 : decode cX11_set 10 = .ok (.getfield 29, 3) := by decide +kernel
theorem dX11_set_13 : decode cX11_set 13 = .ok (.iload_n 1, 1) := by decide +kernel
theorem dX11_set_14 : decode cX11_set 14 = .ok (.aaload, 1) := by decide +kernel
theorem dX11_set_15 : decode cX11_set 15 = .ok (.getfield 121, 3) := by decide +kernel
theorem dX11_set_18 : decode cX11_set 18 = .ok (.ifCond .ne 9, 3) := by decide +kernel
theorem dX11_set_21 : decode cX11_set 21 = .ok (.aload_n 0, 1) := by decide +kernel
theorem dX11_set_22 : decode cX11_set 22 = .ok (.iconst 1, 1) := by decide +kernel
theorem dX11_set_23 : decode cX11_set 23 = .ok (.invokevirtual 129, 3) := by decide +kernel
theorem dX11_set_26 : decode cX11_set 26 = .ok (.ireturn, 1) := by decide +kernel
theorem dX11_set_27 : decode cX11_set 27 = .ok (.aload_n 0, 1) := by decide +kernel
theorem dX11_set_28 : decode cX11_set 28 = .ok (.getfield 29, 3) := by decide +kernel
theorem dX11_set_31 : decode cX11_set 31 = .ok (.iload_n 1, 1) := by decide +kernel
theorem dX11_set_32 : decode cX11_set 32 = .ok (.aaload, 1) := by decide +kernel
theorem dX11_set_33 : decode cX11_set 33 = .ok (.iload_n 2, 1) := by decide +kernel
theorem dX11_set_34 : decode cX11_set 34 = .ok (.invokevirtual 213, 3) := by decide +kernel
theorem dX11_set_37 : decode cX11_set 37 = .ok (.ifCond .ne 9, 3) := by decide +kernel
theorem dX11_set_40 : decode cX11_set 40 = .ok (.aload_n 0, 1) := by decide +kernel
theorem dX11_set_41 : decode cX11_set 41 = .ok (.iconst 2, 1) := by decide +kernel
theorem dX11_set_42 : decode cX11_set 42 = .ok (.invokevirtual 129, 3) := by decide +kernel
theorem dX11_set_45 : decode cX11_set 45 = .ok (.ireturn, 1) := by decide +kernel
theorem dX11_set_46 : decode cX11_set 46 = .ok (.aload_n 0, 1) := by decide +kernel
theorem dX11_set_47 : decode cX11_set 47 = .ok (.aload_n 0, 1) := by decide +kernel
theorem dX11_set_48 : decode cX11_set 48 = .ok (.getfield 29, 3) := by decide +kernel
theorem dX11_set_51 : decode cX11_set 51 = .ok (.iload_n 1, 1) := by decide +kernel
theorem dX11_set_52 : decode cX11_set 52 = .ok (.aaload, 1) := by decide +kernel
theorem dX11_set_53 : decode cX11_set 53 = .ok (.getfield 216, 3) := by decide +kernel
theorem dX11_set_56 : decode cX11_set 56 = .ok (.iload_n 2, 1) := by decide +kernel
theorem dX11_set_57 : decode cX11_set 57 = .ok (.iaload, 1) := by decide +kernel
theorem dX11_set_58 : decode cX11_set 58 = .ok (.aload_n 0, 1) := by decide +kernel
theorem dX11_set_59 : decode cX11_set 59 = .ok (.getfield 29, 3) := by decide +kernel
theorem dX11_set_62 : decode cX11_set 62 = .ok (.iload_n 1, 1) := by decide +kernel
theorem dX11_set_63 : decode cX11_set 63 = .ok (.aaload, 1) := by decide +kernel
theorem dX11_set_64 : decode cX11_set 64 = .ok (.getfield 219, 3) := by decide +kernel
theorem dX11_set_67 : decode cX11_set 67 = .ok (.iload_n 2, 1) := by decide +kernel
theorem dX11_set_68 : decode cX11_set 68 = .ok (.iaload, 1) := by decide +kernel
theorem dX11_set_69 : decode cX11_set 69 = .ok (.invokevirtual 143, 3) := by decide +kernel
theorem dX11_set_72 : decode cX11_set 72 = .ok (.ireturn, 1) := by decide +kernel
theorem dX11_ship_0 : decode cX11_ship 0 = .ok (.iload_n 1, 1) := by decide +kernel
theorem dX11_ship_1 : decode cX11_ship 1 = .ok (.invokestatic 222, 3) := by decide +kernel
theorem dX11_ship_4 : decode cX11_ship 4 = .ok (.ifCond .eq 54, 3) := by decide +kernel
theorem dX11_ship_7 : decode cX11_ship 7 = .ok (.iload_n 2, 1) := by decide +kernel
theorem dX11_ship_8 : decode cX11_ship 8 = .ok (.invokestatic 225, 3) := by decide +kernel
theorem dX11_ship_11 : decode cX11_ship 11 = .ok (.ifCond .eq 47, 3) := by decide +kernel
theorem dX11_ship_14 : decode cX11_ship 14 = .ok (.iload_n 3, 1) := by decide +kernel
theorem dX11_ship_15 : decode cX11_ship 15 = .ok (.iconst 1, 1) := by decide +kernel
theorem dX11_ship_16 : decode cX11_ship 16 = .ok (.bipush 9, 2) := by decide +kernel
theorem dX11_ship_18 : decode cX11_ship 18 = .ok (.invokestatic 117, 3) := by decide +kernel
theorem dX11_ship_21 : decode cX11_ship 21 = .ok (.ifCond .eq 37, 3) := by decide +kernel
theorem dX11_ship_24 : decode cX11_ship 24 = .ok (.iload 4, 2) := by decide +kernel
theorem dX11_ship_26 : decode cX11_ship 26 = .ok (.iconst 1, 1) := by decide +kernel
theorem dX11_ship_27 : decode cX11_ship 27 = .ok (.bipush 9, 2) := by decide +kernel
theorem dX11_ship_29 : decode cX11_ship 29 = .ok (.invokestatic 117, 3) := by decide +kernel
theorem dX11_ship_32 : decode cX11_ship 32 = .ok (.ifCond .eq 26, 3) := by decide +kernel
theorem dX11_ship_35 : decode cX11_ship 35 = .ok (.iload 5, 2) := by decide +kernel
theorem dX11_ship_37 : decode cX11_ship 37 = .ok (.iconst 0, 1) := by decide +kernel
theorem dX11_ship_38 : decode cX11_ship 38 = .ok (.bipush 30, 2) := by decide +kernel
theorem dX11_ship_40 : decode cX11_ship 40 = .ok (.invokestatic 117, 3) := by decide +kernel
theorem dX11_ship_43 : decode cX11_ship 43 = .ok (.ifCond .eq 15, 3) := by decide +kernel
theorem dX11_ship_46 : decode cX11_ship 46 = .ok (.iload 6, 2) := by decide +kernel
theorem dX11_ship_48 : decode cX11_ship 48 = .ok (.iconst 1, 1) := by decide +kernel
theorem dX11_ship_49 : decode cX11_ship 49 = .ok (.sipush 9999, 3) := by decide +kernel
theorem dX11_ship_52 : decode cX11_ship 52 = .ok (.invokestatic 117, 3) := by decide +kernel
theorem dX11_ship_55 : decode cX11_ship 55 = .ok (.ifCond .ne 5, 3) := by decide +kernel
theorem dX11_ship_58 : decode cX11_ship 58 = .ok (.iconst (-1), 1) := by decide +kernel
theorem dX11_ship_59 : decode cX11_ship 59 = .ok (.ireturn, 1) := by decide +kernel
theorem dX11_ship_60 : decode cX11_ship 60 = .ok (.aload_n 0, 1) := by decide +kernel
theorem dX11_ship_61 : decode cX11_ship 61 = .ok (.getfield 35, 3) := by decide +kernel
theorem dX11_ship_64 : decode cX11_ship 64 = .ok (.iload_n 1, 1) := by decide +kernel
theorem dX11_ship_65 : decode cX11_ship 65 = .ok (.aaload, 1) := by decide +kernel
theorem dX11_ship_66 : decode cX11_ship 66 = .ok (.iload_n 2, 1) := by decide +kernel
theorem dX11_ship_67 : decode cX11_ship 67 = .ok (.iload_n 3, 1) := by decide +kernel
theorem dX11_ship_68 : decode cX11_ship 68 = .ok (.iload 4, 2) := by decide +kernel
theorem dX11_ship_70 : decode cX11_ship 70 = .ok (.iload 5, 2) := by decide +kernel
theorem dX11_ship_72 : decode cX11_ship 72 = .ok (.iload 6, 2) := by decide +kernel
theorem dX11_ship_74 : decode cX11_ship 74 = .ok (.invokevirtual 228, 3) := by decide +kernel
theorem dX11_ship_77 : decode cX11_ship 77 = .ok (.iconst 1, 1) := by decide +kernel
theorem dX11_ship_78 : decode cX11_ship 78 = .ok (.ireturn, 1) := by decide +kernel
theorem dX11_leave_0 : decode cX11_leave 0 = .ok (.iload_n 1, 1) := by decide +kernel
theorem dX11_leave_1 : decode cX11_leave 1 = .ok (.invokestatic 222, 3) := by decide +kernel
theorem dX11_leave_4 : decode cX11_leave 4 = .ok (.ifCond .ne 5, 3) := by decide +kernel
theorem dX11_leave_7 : decode cX11_leave 7 = .ok (.iconst (-1), 1) := by decide +kernel
theorem dX11_leave_8 : decode cX11_leave 8 = .ok (.ireturn, 1) := by decide +kernel
theorem dX11_leave_9 : decode cX11_leave 9 = .ok (.aload_n 0, 1) := by decide +kernel
theorem dX11_leave_10 : decode cX11_leave 10 = .ok (.getfield 35, 3) := by decide +kernel
theorem dX11_leave_13 : decode cX11_leave 13 = .ok (.iload_n 1, 1) := by decide +kernel
theorem dX11_leave_14 : decode cX11_leave 14 = .ok (.aaload, 1) := by decide +kernel
theorem dX11_leave_15 : decode cX11_leave 15 = .ok (.getfield 232, 3) := by decide +kernel
theorem dX11_leave_18 : decode cX11_leave 18 = .ok (.ifCond .ne 6, 3) := by decide +kernel
theorem dX11_leave_21 : decode cX11_leave 21 = .ok (.bipush (-4), 2) := by decide +kernel
theorem dX11_leave_23 : decode cX11_leave 23 = .ok (.ireturn, 1) := by decide +kernel
theorem dX11_leave_24 : decode cX11_leave 24 = .ok (.aload_n 0, 1) := by decide +kernel
theorem dX11_leave_25 : decode cX11_leave 25 = .ok (.getfield 35, 3) := by decide +kernel
theorem dX11_leave_28 : decode cX11_leave 28 = .ok (.iload_n 1, 1) := by decide +kernel
theorem dX11_leave_29 : decode cX11_leave 29 = .ok (.aaload, 1) := by decide +kernel
theorem dX11_leave_30 : decode cX11_leave 30 = .ok (.iconst 0, 1) := by decide +kernel
theorem dX11_leave_31 : decode cX11_leave 31 = .ok (.putfield 232, 3) := by decide +kernel
theorem dX11_leave_34 : decode cX11_leave 34 = .ok (.iconst 1, 1) := by decide +kernel
theorem dX11_leave_35 : decode cX11_leave 35 = .ok (.ireturn, 1) := by decide +kernel
theorem dX11_night_0 : decode cX11_night 0 = .ok (.iload_n 1, 1) := by decide +kernel
theorem dX11_night_1 : decode cX11_night 1 = .ok (.invokestatic 181, 3) := by decide +kernel
theorem dX11_night_4 : decode cX11_night 4 = .ok (.ifCond .eq 10, 3) := by decide +kernel
theorem dX11_night_7 : decode cX11_night 7 = .ok (.iload_n 2, 1) := by decide +kernel
theorem dX11_night_8 : decode cX11_night 8 = .ok (.invokestatic 194, 3) := by decide +kernel
theorem dX11_night_11 : decode cX11_night 11 = .ok (.ifCond .ne 5, 3) := by decide +kernel
theorem dX11_night_14 : decode cX11_night 14 = .ok (.iconst (-1), 1) := by decide +kernel
theorem dX11_night_15 : decode cX11_night 15 = .ok (.ireturn, 1) := by decide +kernel
theorem dX11_night_16 : decode cX11_night 16 = .ok (.aload_n 0, 1) := by decide +kernel
theorem dX11_night_17 : decode cX11_night 17 = .ok (.getfield 23, 3) := by decide +kernel
theorem dX11_night_20 : decode cX11_night 20 = .ok (.iload_n 1, 1) := by decide +kernel
theorem dX11_night_21 : decode cX11_night 21 = .ok (.aaload, 1) := by decide +kernel
theorem dX11_night_22 : decode cX11_night 22 = .ok (.getfield 206, 3) := by decide +kernel
theorem dX11_night_25 : decode cX11_night 25 = .ok (.ifCond .eq 15, 3) := by decide +kernel
theorem dX11_night_28 : decode cX11_night 28 = .ok (.aload_n 0, 1) := by decide +kernel
theorem dX11_night_29 : decode cX11_night 29 = .ok (.getfield 29, 3) := by decide +kernel
theorem dX11_night_32 : decode cX11_night 32 = .ok (.iload_n 2, 1) := by decide +kernel
theorem dX11_night_33 : decode cX11_night 33 = .ok (.aaload, 1) := by decide +kernel
theorem dX11_night_34 : decode cX11_night 34 = .ok (.getfield 121, 3) := by decide +kernel
theorem dX11_night_37 : decode cX11_night 37 = .ok (.ifCond .ne 9, 3) := by decide +kernel
theorem dX11_night_40 : decode cX11_night 40 = .ok (.aload_n 0, 1) := by decide +kernel
theorem dX11_night_41 : decode cX11_night 41 = .ok (.iconst 1, 1) := by decide +kernel
theorem dX11_night_42 : decode cX11_night 42 = .ok (.invokevirtual 129, 3) := by decide +kernel
theorem dX11_night_45 : decode cX11_night 45 = .ok (.ireturn, 1) := by decide +kernel
theorem dX11_night_46 : decode cX11_night 46 = .ok (.iconst 0, 1) := by decide +kernel
theorem dX11_night_47 : decode cX11_night 47 = .ok (.istore_n 3, 1) := by decide +kernel
theorem dX11_night_48 : decode cX11_night 48 = .ok (.iload_n 3, 1) := by decide +kernel
theorem dX11_night_49 : decode cX11_night 49 = .ok (.iconst 3, 1) := by decide +kernel
theorem dX11_night_50 : decode cX11_night 50 = .ok (.if_icmp .ge 45, 3) := by decide +kernel
theorem dX11_night_53 : decode cX11_night 53 = .ok (.aload_n 0, 1) := by decide +kernel
theorem dX11_night_54 : decode cX11_night 54 = .ok (.getfield 35, 3) := by decide +kernel
theorem dX11_night_57 : decode cX11_night 57 = .ok (.iload_n 3, 1) := by decide +kernel
theorem dX11_night_58 : decode cX11_night 58 = .ok (.aaload, 1) := by decide +kernel
theorem dX11_night_59 : decode cX11_night 59 = .ok (.getfield 232, 3) := by decide +kernel
theorem dX11_night_62 : decode cX11_night 62 = .ok (.ifCond .eq 27, 3) := by decide +kernel
theorem dX11_night_65 : decode cX11_night 65 = .ok (.aload_n 0, 1) := by decide +kernel
theorem dX11_night_66 : decode cX11_night 66 = .ok (.getfield 23, 3) := by decide +kernel
theorem dX11_night_69 : decode cX11_night 69 = .ok (.iload_n 1, 1) := by decide +kernel
theorem dX11_night_70 : decode cX11_night 70 = .ok (.aaload, 1) := by decide +kernel
theorem dX11_night_71 : decode cX11_night 71 = .ok (.aload_n 0, 1) := by decide +kernel
theorem dX11_night_72 : decode cX11_night 72 = .ok (.getfield 35, 3) := by decide +kernel
theorem dX11_night_75 : decode cX11_night 75 = .ok (.iload_n 3, 1) := by decide +kernel
theorem dX11_night_76 : decode cX11_night 76 = .ok (.aaload, 1) := by decide +kernel
theorem dX11_night_77 : decode cX11_night 77 = .ok (.getfield 233, 3) := by decide +kernel
theorem dX11_night_80 : decode cX11_night 80 = .ok (.invokevirtual 207, 3) := by decide +kernel
theorem dX11_night_83 : decode cX11_night 83 = .ok (.ifCond .ne 6, 3) := by decide +kernel
theorem dX11_night_86 : decode cX11_night 86 = .ok (.bipush (-4), 2) := by decide +kernel
theorem dX11_night_88 : decode cX11_night 88 = .ok (.ireturn, 1) := by decide +kernel
theorem dX11_night_89 : decode cX11_night 89 = .ok (.iinc 3 1, 3) := by decide +kernel
theorem dX11_night_92 : decode cX11_night 92 = .ok (.goto (-44), 3) := by decide +kernel
theorem dX11_night_95 : decode cX11_night 95 = .ok (.aload_n 0, 1) := by decide +kernel
theorem dX11_night_96 : decode cX11_night 96 = .ok (.getfield 54, 3) := by decide +kernel
theorem dX11_night_99 : decode cX11_night 99 = .ok (.invokevirtual 236, 3) := by decide +kernel
theorem dX11_night_102 : decode cX11_night 102 = .ok (.iconst 0, 1) := by decide +kernel
theorem dX11_night_103 : decode cX11_night 103 = .ok (.istore_n 3, 1) := by decide +kernel
theorem dX11_night_104 : decode cX11_night 104 = .ok (.iload_n 3, 1) := by decide +kernel
theorem dX11_night_105 : decode cX11_night 105 = .ok (.iconst 3, 1) := by decide +kernel
theorem dX11_night_106 : decode cX11_night 106 = .ok (.if_icmp .ge 40, 3) := by decide +kernel
theorem dX11_night_109 : decode cX11_night 109 = .ok (.aload_n 0, 1) := by decide +kernel
theorem dX11_night_110 : decode cX11_night 110 = .ok (.getfield 54, 3) := by decide +kernel
theorem dX11_night_113 : decode cX11_night 113 = .ok (.aload_n 0, 1) := by decide +kernel
theorem dX11_night_114 : decode cX11_night 114 = .ok (.getfield 35, 3) := by decide +kernel
theorem dX11_night_117 : decode cX11_night 117 = .ok (.iload_n 3, 1) := by decide +kernel
theorem dX11_night_118 : decode cX11_night 118 = .ok (.aaload, 1) := by decide +kernel
theorem dX11_night_119 : decode cX11_night 119 = .ok (.aload_n 0, 1) := by decide +kernel
theorem dX11_night_120 : decode cX11_night 120 = .ok (.getfield 35, 3) := by decide +kernel
theorem dX11_night_123 : decode cX11_night 123 = .ok (.iload_n 3, 1) := by decide +kernel
theorem dX11_night_124 : decode cX11_night 124 = .ok (.aaload, 1) := by decide +kernel
theorem dX11_night_125 : decode cX11_night 125 = .ok (.getfield 233, 3) := by decide +kernel
theorem dX11_night_128 : decode cX11_night 128 = .ok (.aload_n 0, 1) := by decide +kernel
theorem dX11_night_129 : decode cX11_night 129 = .ok (.getfield 35, 3) := by decide +kernel
theorem dX11_night_132 : decode cX11_night 132 = .ok (.iload_n 3, 1) := by decide +kernel
theorem dX11_night_133 : decode cX11_night 133 = .ok (.aaload, 1) := by decide +kernel
theorem dX11_night_134 : decode cX11_night 134 = .ok (.getfield 239, 3) := by decide +kernel
theorem dX11_night_137 : decode cX11_night 137 = .ok (.invokevirtual 242, 3) := by decide +kernel
theorem dX11_night_140 : decode cX11_night 140 = .ok (.iinc 3 1, 3) := by decide +kernel
theorem dX11_night_143 : decode cX11_night 143 = .ok (.goto (-39), 3) := by decide +kernel
theorem dX11_night_146 : decode cX11_night 146 = .ok (.aload_n 0, 1) := by decide +kernel
theorem dX11_night_147 : decode cX11_night 147 = .ok (.getfield 54, 3) := by decide +kernel
theorem dX11_night_150 : decode cX11_night 150 = .ok (.aload_n 0, 1) := by decide +kernel
theorem dX11_night_151 : decode cX11_night 151 = .ok (.getfield 23, 3) := by decide +kernel
theorem dX11_night_154 : decode cX11_night 154 = .ok (.iload_n 1, 1) := by decide +kernel
theorem dX11_night_155 : decode cX11_night 155 = .ok (.aaload, 1) := by decide +kernel
theorem dX11_night_156 : decode cX11_night 156 = .ok (.aload_n 0, 1) := by decide +kernel
theorem dX11_night_157 : decode cX11_night 157 = .ok (.getfield 29, 3) := by decide +kernel
theorem dX11_night_160 : decode cX11_night 160 = .ok (.iload_n 2, 1) := by decide +kernel
theorem dX11_night_161 : decode cX11_night 161 = .ok (.aaload, 1) := by decide +kernel
theorem dX11_night_162 : decode cX11_night 162 = .ok (.invokevirtual 246, 3) := by decide +kernel
theorem dX11_night_165 : decode cX11_night 165 = .ok (.aload_n 0, 1) := by decide +kernel
theorem dX11_night_166 : decode cX11_night 166 = .ok (.getfield 23, 3) := by decide +kernel
theorem dX11_night_169 : decode cX11_night 169 = .ok (.iload_n 1, 1) := by decide +kernel
theorem dX11_night_170 : decode cX11_night 170 = .ok (.aaload, 1) := by decide +kernel
theorem dX11_night_171 : decode cX11_night 171 = .ok (.getfield 191, 3) := by decide +kernel
theorem dX11_night_174 : decode cX11_night 174 = .ok (.ireturn, 1) := by decide +kernel
theorem dX11_go_0 : decode cX11_go 0 = .ok (.iload_n 1, 1) := by decide +kernel
theorem dX11_go_1 : decode cX11_go 1 = .ok (.iconst 0, 1) := by decide +kernel
theorem dX11_go_2 : decode cX11_go 2 = .ok (.sipush 400, 3) := by decide +kernel
theorem dX11_go_5 : decode cX11_go 5 = .ok (.invokestatic 117, 3) := by decide +kernel
theorem dX11_go_8 : decode cX11_go 8 = .ok (.ifCond .ne 5, 3) := by decide +kernel
theorem dX11_go_11 : decode cX11_go 11 = .ok (.iconst (-1), 1) := by decide +kernel
theorem dX11_go_12 : decode cX11_go 12 = .ok (.ireturn, 1) := by decide +kernel
theorem dX11_go_13 : decode cX11_go 13 = .ok (.aload_n 0, 1) := by decide +kernel
theorem dX11_go_14 : decode cX11_go 14 = .ok (.getfield 54, 3) := by decide +kernel
theorem dX11_go_17 : decode cX11_go 17 = .ok (.getfield 250, 3) := by decide +kernel
theorem dX11_go_20 : decode cX11_go 20 = .ok (.ifCond .ne 6, 3) := by decide +kernel
theorem dX11_go_23 : decode cX11_go 23 = .ok (.bipush (-4), 2) := by decide +kernel
theorem dX11_go_25 : decode cX11_go 25 = .ok (.ireturn, 1) := by decide +kernel
theorem dX11_go_26 : decode cX11_go 26 = .ok (.aload_n 0, 1) := by decide +kernel
theorem dX11_go_27 : decode cX11_go 27 = .ok (.getfield 54, 3) := by decide +kernel
theorem dX11_go_30 : decode cX11_go 30 = .ok (.getfield 251, 3) := by decide +kernel
theorem dX11_go_33 : decode cX11_go 33 = .ok (.getfield 255, 3) := by decide +kernel
theorem dX11_go_36 : decode cX11_go 36 = .ok (.iload_n 1, 1) := by decide +kernel
theorem dX11_go_37 : decode cX11_go 37 = .ok (.iadd, 1) := by decide +kernel
theorem dX11_go_38 : decode cX11_go 38 = .ok (.sipush 10000, 3) := by decide +kernel
theorem dX11_go_41 : decode cX11_go 41 = .ok (.if_icmp .le 6, 3) := by decide +kernel
theorem dX11_go_44 : decode cX11_go 44 = .ok (.bipush (-6), 2) := by decide +kernel
theorem dX11_go_46 : decode cX11_go 46 = .ok (.ireturn, 1) := by decide +kernel
theorem dX11_go_47 : decode cX11_go 47 = .ok (.aload_n 0, 1) := by decide +kernel
theorem dX11_go_48 : decode cX11_go 48 = .ok (.getfield 54, 3) := by decide +kernel
theorem dX11_go_51 : decode cX11_go 51 = .ok (.iload_n 1, 1) := by decide +kernel
theorem dX11_go_52 : decode cX11_go 52 = .ok (.invokevirtual 260, 3) := by decide +kernel
theorem dX11_go_55 : decode cX11_go 55 = .ok (.aload_n 0, 1) := by decide +kernel
theorem dX11_go_56 : decode cX11_go 56 = .ok (.getfield 54, 3) := by decide +kernel
theorem dX11_go_59 : decode cX11_go 59 = .ok (.getfield 251, 3) := by decide +kernel
theorem dX11_go_62 : decode cX11_go 62 = .ok (.getfield 255, 3) := by decide +kernel
theorem dX11_go_65 : decode cX11_go 65 = .ok (.ireturn, 1) := by decide +kernel
theorem dX11_cell_0 : decode cX11_cell 0 = .ok (.iload_n 1, 1) := by decide +kernel
theorem dX11_cell_1 : decode cX11_cell 1 = .ok (.invokestatic 225, 3) := by decide +kernel
theorem dX11_cell_4 : decode cX11_cell 4 = .ok (.ifCond .eq 12, 3) := by decide +kernel
theorem dX11_cell_7 : decode cX11_cell 7 = .ok (.iload_n 2, 1) := by decide +kernel
theorem dX11_cell_8 : decode cX11_cell 8 = .ok (.iconst 0, 1) := by decide +kernel
theorem dX11_cell_9 : decode cX11_cell 9 = .ok (.iconst 2, 1) := by decide +kernel
theorem dX11_cell_10 : decode cX11_cell 10 = .ok (.invokestatic 117, 3) := by decide +kernel
theorem dX11_cell_13 : decode cX11_cell 13 = .ok (.ifCond .ne 5, 3) := by decide +kernel
theorem dX11_cell_16 : decode cX11_cell 16 = .ok (.iconst (-1), 1) := by decide +kernel
theorem dX11_cell_17 : decode cX11_cell 17 = .ok (.ireturn, 1) := by decide +kernel
theorem dX11_cell_18 : decode cX11_cell 18 = .ok (.aload_n 0, 1) := by decide +kernel
theorem dX11_cell_19 : decode cX11_cell 19 = .ok (.getfield 54, 3) := by decide +kernel
theorem dX11_cell_22 : decode cX11_cell 22 = .ok (.getfield 250, 3) := by decide +kernel
theorem dX11_cell_25 : decode cX11_cell 25 = .ok (.ifCond .ne 6, 3) := by decide +kernel
theorem dX11_cell_28 : decode cX11_cell 28 = .ok (.bipush (-4), 2) := by decide +kernel
theorem dX11_cell_30 : decode cX11_cell 30 = .ok (.ireturn, 1) := by decide +kernel
theorem dX11_cell_31 : decode cX11_cell 31 = .ok (.aload_n 0, 1) := by decide +kernel
theorem dX11_cell_32 : decode cX11_cell 32 = .ok (.getfield 54, 3) := by decide +kernel
theorem dX11_cell_35 : decode cX11_cell 35 = .ok (.getfield 251, 3) := by decide +kernel
theorem dX11_cell_38 : decode cX11_cell 38 = .ok (.getfield 263, 3) := by decide +kernel
theorem dX11_cell_41 : decode cX11_cell 41 = .ok (.iload_n 1, 1) := by decide +kernel
theorem dX11_cell_42 : decode cX11_cell 42 = .ok (.invokevirtual 207, 3) := by decide +kernel
theorem dX11_cell_45 : decode cX11_cell 45 = .ok (.ifCond .ne 9, 3) := by decide +kernel
theorem dX11_cell_48 : decode cX11_cell 48 = .ok (.aload_n 0, 1) := by decide +kernel
theorem dX11_cell_49 : decode cX11_cell 49 = .ok (.iconst 2, 1) := by decide +kernel
theorem dX11_cell_50 : decode cX11_cell 50 = .ok (.invokevirtual 129, 3) := by decide +kernel
theorem dX11_cell_53 : decode cX11_cell 53 = .ok (.ireturn, 1) := by decide +kernel
theorem dX11_cell_54 : decode cX11_cell 54 = .ok (.aload_n 0, 1) := by decide +kernel
theorem dX11_cell_55 : decode cX11_cell 55 = .ok (.aload_n 0, 1) := by decide +kernel
theorem dX11_cell_56 : decode cX11_cell 56 = .ok (.getfield 54, 3) := by decide +kernel
theorem dX11_cell_59 : decode cX11_cell 59 = .ok (.getfield 251, 3) := by decide +kernel
theorem dX11_cell_62 : decode cX11_cell 62 = .ok (.iload_n 1, 1) := by decide +kernel
theorem dX11_cell_63 : decode cX11_cell 63 = .ok (.iload_n 2, 1) := by decide +kernel
theorem dX11_cell_64 : decode cX11_cell 64 = .ok (.invokevirtual 264, 3) := by decide +kernel
theorem dX11_cell_67 : decode cX11_cell 67 = .ok (.iconst 1, 1) := by decide +kernel
theorem dX11_cell_68 : decode cX11_cell 68 = .ok (.invokevirtual 143, 3) := by decide +kernel
theorem dX11_cell_71 : decode cX11_cell 71 = .ok (.ireturn, 1) := by decide +kernel
theorem dX11_rides_0 : decode cX11_rides 0 = .ok (.iload_n 1, 1) := by decide +kernel
theorem dX11_rides_1 : decode cX11_rides 1 = .ok (.invokestatic 222, 3) := by decide +kernel
theorem dX11_rides_4 : decode cX11_rides 4 = .ok (.ifCond .eq 12, 3) := by decide +kernel
theorem dX11_rides_7 : decode cX11_rides 7 = .ok (.iload_n 2, 1) := by decide +kernel
theorem dX11_rides_8 : decode cX11_rides 8 = .ok (.iconst 0, 1) := by decide +kernel
theorem dX11_rides_9 : decode cX11_rides 9 = .ok (.iconst 3, 1) := by decide +kernel
theorem dX11_rides_10 : decode cX11_rides 10 = .ok (.invokestatic 117, 3) := by decide +kernel
theorem dX11_rides_13 : decode cX11_rides 13 = .ok (.ifCond .ne 5, 3) := by decide +kernel
theorem dX11_rides_16 : decode cX11_rides 16 = .ok (.iconst (-1), 1) := by decide +kernel
theorem dX11_rides_17 : decode cX11_rides 17 = .ok (.ireturn, 1) := by decide +kernel
theorem dX11_rides_18 : decode cX11_rides 18 = .ok (.aload_n 0, 1) := by decide +kernel
theorem dX11_rides_19 : decode cX11_rides 19 = .ok (.getfield 54, 3) := by decide +kernel
theorem dX11_rides_22 : decode cX11_rides 22 = .ok (.getfield 250, 3) := by decide +kernel
theorem dX11_rides_25 : decode cX11_rides 25 = .ok (.ifCond .eq 14, 3) := by decide +kernel
theorem dX11_rides_28 : decode cX11_rides 28 = .ok (.aload_n 0, 1) := by decide +kernel
theorem dX11_rides_29 : decode cX11_rides 29 = .ok (.getfield 54, 3) := by decide +kernel
theorem dX11_rides_32 : decode cX11_rides 32 = .ok (.iload_n 1, 1) := by decide +kernel
theorem dX11_rides_33 : decode cX11_rides 33 = .ok (.invokevirtual 266, 3) := by decide +kernel
theorem dX11_rides_36 : decode cX11_rides 36 = .ok (.ifCond .ne 6, 3) := by decide +kernel
theorem dX11_rides_39 : decode cX11_rides 39 = .ok (.bipush (-4), 2) := by decide +kernel
theorem dX11_rides_41 : decode cX11_rides 41 = .ok (.ireturn, 1) := by decide +kernel
theorem dX11_rides_42 : decode cX11_rides 42 = .ok (.aload_n 0, 1) := by decide +kernel
theorem dX11_rides_43 : decode cX11_rides 43 = .ok (.aload_n 0, 1) := by decide +kernel
theorem dX11_rides_44 : decode cX11_rides 44 = .ok (.getfield 54, 3) := by decide +kernel
theorem dX11_rides_47 : decode cX11_rides 47 = .ok (.getfield 267, 3) := by decide +kernel
theorem dX11_rides_50 : decode cX11_rides 50 = .ok (.iload_n 1, 1) := by decide +kernel
theorem dX11_rides_51 : decode cX11_rides 51 = .ok (.aaload, 1) := by decide +kernel
theorem dX11_rides_52 : decode cX11_rides 52 = .ok (.iload_n 2, 1) := by decide +kernel
theorem dX11_rides_53 : decode cX11_rides 53 = .ok (.invokevirtual 270, 3) := by decide +kernel
theorem dX11_rides_56 : decode cX11_rides 56 = .ok (.iconst 1, 1) := by decide +kernel
theorem dX11_rides_57 : decode cX11_rides 57 = .ok (.invokevirtual 143, 3) := by decide +kernel
theorem dX11_rides_60 : decode cX11_rides 60 = .ok (.ireturn, 1) := by decide +kernel
theorem dX11_gauge_0 : decode cX11_gauge 0 = .ok (.iload_n 1, 1) := by decide +kernel
theorem dX11_gauge_1 : decode cX11_gauge 1 = .ok (.invokestatic 225, 3) := by decide +kernel
theorem dX11_gauge_4 : decode cX11_gauge 4 = .ok (.ifCond .eq 20, 3) := by decide +kernel
theorem dX11_gauge_7 : decode cX11_gauge 7 = .ok (.iload_n 2, 1) := by decide +kernel
theorem dX11_gauge_8 : decode cX11_gauge 8 = .ok (.iconst 0, 1) := by decide +kernel
theorem dX11_gauge_9 : decode cX11_gauge 9 = .ok (.bipush 60, 2) := by decide +kernel
theorem dX11_gauge_11 : decode cX11_gauge 11 = .ok (.invokestatic 117, 3) := by decide +kernel
theorem dX11_gauge_14 : decode cX11_gauge 14 = .ok (.ifCond .eq 10, 3) := by decide +kernel
theorem dX11_gauge_17 : decode cX11_gauge 17 = .ok (.iload_n 3, 1) := by decide +kernel
theorem dX11_gauge_18 : decode cX11_gauge 18 = .ok (.invokestatic 125, 3) := by decide +kernel
theorem dX11_gauge_21 : decode cX11_gauge 21 = .ok (.ifCond .ne 5, 3) := by decide +kernel
theorem dX11_gauge_24 : decode cX11_gauge 24 = .ok (.iconst (-1), 1) := by decide +kernel
theorem dX11_gauge_25 : decode cX11_gauge 25 = .ok (.ireturn, 1) := by decide +kernel
theorem dX11_gauge_26 : decode cX11_gauge 26 = .ok (.aload_n 0, 1) := by decide +kernel
theorem dX11_gauge_27 : decode cX11_gauge 27 = .ok (.getfield 54, 3) := by decide +kernel
theorem dX11_gauge_30 : decode cX11_gauge 30 = .ok (.getfield 250, 3) := by decide +kernel
theorem dX11_gauge_33 : decode cX11_gauge 33 = .ok (.ifCond .ne 6, 3) := by decide +kernel
theorem dX11_gauge_36 : decode cX11_gauge 36 = .ok (.bipush (-4), 2) := by decide +kernel
theorem dX11_gauge_38 : decode cX11_gauge 38 = .ok (.ireturn, 1) := by decide +kernel
theorem dX11_gauge_39 : decode cX11_gauge 39 = .ok (.aload_n 0, 1) := by decide +kernel
theorem dX11_gauge_40 : decode cX11_gauge 40 = .ok (.getfield 54, 3) := by decide +kernel
theorem dX11_gauge_43 : decode cX11_gauge 43 = .ok (.getfield 251, 3) := by decide +kernel
theorem dX11_gauge_46 : decode cX11_gauge 46 = .ok (.getfield 263, 3) := by decide +kernel
theorem dX11_gauge_49 : decode cX11_gauge 49 = .ok (.iload_n 1, 1) := by decide +kernel
theorem dX11_gauge_50 : decode cX11_gauge 50 = .ok (.invokevirtual 207, 3) := by decide +kernel
theorem dX11_gauge_53 : decode cX11_gauge 53 = .ok (.ifCond .ne 9, 3) := by decide +kernel
theorem dX11_gauge_56 : decode cX11_gauge 56 = .ok (.aload_n 0, 1) := by decide +kernel
theorem dX11_gauge_57 : decode cX11_gauge 57 = .ok (.iconst 2, 1) := by decide +kernel
theorem dX11_gauge_58 : decode cX11_gauge 58 = .ok (.invokevirtual 129, 3) := by decide +kernel
theorem dX11_gauge_61 : decode cX11_gauge 61 = .ok (.ireturn, 1) := by decide +kernel
theorem dX11_gauge_62 : decode cX11_gauge 62 = .ok (.aload_n 0, 1) := by decide +kernel
theorem dX11_gauge_63 : decode cX11_gauge 63 = .ok (.getfield 54, 3) := by decide +kernel
theorem dX11_gauge_66 : decode cX11_gauge 66 = .ok (.getfield 251, 3) := by decide +kernel
theorem dX11_gauge_69 : decode cX11_gauge 69 = .ok (.getfield 255, 3) := by decide +kernel
theorem dX11_gauge_72 : decode cX11_gauge 72 = .ok (.iload_n 2, 1) := by decide +kernel
theorem dX11_gauge_73 : decode cX11_gauge 73 = .ok (.iadd, 1) := by decide +kernel
theorem dX11_gauge_74 : decode cX11_gauge 74 = .ok (.sipush 10000, 3) := by decide +kernel
theorem dX11_gauge_77 : decode cX11_gauge 77 = .ok (.if_icmp .le 6, 3) := by decide +kernel
theorem dX11_gauge_80 : decode cX11_gauge 80 = .ok (.bipush (-6), 2) := by decide +kernel
theorem dX11_gauge_82 : decode cX11_gauge 82 = .ok (.ireturn, 1) := by decide +kernel
theorem dX11_gauge_83 : decode cX11_gauge 83 = .ok (.aload_n 0, 1) := by decide +kernel
theorem dX11_gauge_84 : decode cX11_gauge 84 = .ok (.getfield 11, 3) := by decide +kernel
theorem dX11_gauge_87 : decode cX11_gauge 87 = .ok (.iload_n 3, 1) := by decide +kernel
theorem dX11_gauge_88 : decode cX11_gauge 88 = .ok (.aaload, 1) := by decide +kernel
theorem dX11_gauge_89 : decode cX11_gauge 89 = .ok (.iload_n 2, 1) := by decide +kernel
theorem dX11_gauge_90 : decode cX11_gauge 90 = .ok (.invokevirtual 133, 3) := by decide +kernel
theorem dX11_gauge_93 : decode cX11_gauge 93 = .ok (.iconst 0, 1) := by decide +kernel
theorem dX11_gauge_94 : decode cX11_gauge 94 = .ok (.istore 4, 2) := by decide +kernel
theorem dX11_gauge_96 : decode cX11_gauge 96 = .ok (.iload 4, 2) := by decide +kernel
theorem dX11_gauge_98 : decode cX11_gauge 98 = .ok (.iload_n 2, 1) := by decide +kernel
theorem dX11_gauge_99 : decode cX11_gauge 99 = .ok (.if_icmp .ge 41, 3) := by decide +kernel
theorem dX11_gauge_102 : decode cX11_gauge 102 = .ok (.aload_n 0, 1) := by decide +kernel
theorem dX11_gauge_103 : decode cX11_gauge 103 = .ok (.getfield 54, 3) := by decide +kernel
theorem dX11_gauge_106 : decode cX11_gauge 106 = .ok (.iconst 1, 1) := by decide +kernel
theorem dX11_gauge_107 : decode cX11_gauge 107 = .ok (.invokevirtual 260, 3) := by decide +kernel
theorem dX11_gauge_110 : decode cX11_gauge 110 = .ok (.aload_n 0, 1) := by decide +kernel
theorem dX11_gauge_111 : decode cX11_gauge 111 = .ok (.getfield 11, 3) := by decide +kernel
theorem dX11_gauge_114 : decode cX11_gauge 114 = .ok (.iload_n 3, 1) := by decide +kernel
theorem dX11_gauge_115 : decode cX11_gauge 115 = .ok (.aaload, 1) := by decide +kernel
theorem dX11_gauge_116 : decode cX11_gauge 116 = .ok (.getfield 140, 3) := by decide +kernel
theorem dX11_gauge_119 : decode cX11_gauge 119 = .ok (.iload 4, 2) := by decide +kernel
theorem dX11_gauge_121 : decode cX11_gauge 121 = .ok (.aload_n 0, 1) := by decide +kernel
theorem dX11_gauge_122 : decode cX11_gauge 122 = .ok (.getfield 54, 3) := by decide +kernel
theorem dX11_gauge_125 : decode cX11_gauge 125 = .ok (.getfield 251, 3) := by decide +kernel
theorem dX11_gauge_128 : decode cX11_gauge 128 = .ok (.getfield 273, 3) := by decide +kernel
theorem dX11_gauge_131 : decode cX11_gauge 131 = .ok (.iload_n 1, 1) := by decide +kernel
theorem dX11_gauge_132 : decode cX11_gauge 132 = .ok (.iaload, 1) := by decide +kernel
theorem dX11_gauge_133 : decode cX11_gauge 133 = .ok (.iastore, 1) := by decide +kernel
theorem dX11_gauge_134 : decode cX11_gauge 134 = .ok (.iinc 4 1, 3) := by decide +kernel
theorem dX11_gauge_137 : decode cX11_gauge 137 = .ok (.goto (-41), 3) := by decide +kernel
theorem dX11_gauge_140 : decode cX11_gauge 140 = .ok (.aload_n 0, 1) := by decide +kernel
theorem dX11_gauge_141 : decode cX11_gauge 141 = .ok (.getfield 54, 3) := by decide +kernel
theorem dX11_gauge_144 : decode cX11_gauge 144 = .ok (.getfield 251, 3) := by decide +kernel
theorem dX11_gauge_147 : decode cX11_gauge 147 = .ok (.getfield 255, 3) := by decide +kernel
theorem dX11_gauge_150 : decode cX11_gauge 150 = .ok (.ireturn, 1) := by decide +kernel
theorem dX11_keep_0 : decode cX11_keep 0 = .ok (.iload_n 1, 1) := by decide +kernel
theorem dX11_keep_1 : decode cX11_keep 1 = .ok (.iconst 0, 1) := by decide +kernel
theorem dX11_keep_2 : decode cX11_keep 2 = .ok (.iconst 2, 1) := by decide +kernel
theorem dX11_keep_3 : decode cX11_keep 3 = .ok (.invokestatic 117, 3) := by decide +kernel
theorem dX11_keep_6 : decode cX11_keep 6 = .ok (.ifCond .ne 5, 3) := by decide +kernel
theorem dX11_keep_9 : decode cX11_keep 9 = .ok (.iconst (-1), 1) := by decide +kernel
theorem dX11_keep_10 : decode cX11_keep 10 = .ok (.ireturn, 1) := by decide +kernel
theorem dX11_keep_11 : decode cX11_keep 11 = .ok (.aload_n 0, 1) := by decide +kernel
theorem dX11_keep_12 : decode cX11_keep 12 = .ok (.getfield 54, 3) := by decide +kernel
theorem dX11_keep_15 : decode cX11_keep 15 = .ok (.getfield 250, 3) := by decide +kernel
theorem dX11_keep_18 : decode cX11_keep 18 = .ok (.ifCond .ne 6, 3) := by decide +kernel
theorem dX11_keep_21 : decode cX11_keep 21 = .ok (.bipush (-4), 2) := by decide +kernel
theorem dX11_keep_23 : decode cX11_keep 23 = .ok (.ireturn, 1) := by decide +kernel
theorem dX11_keep_24 : decode cX11_keep 24 = .ok (.aload_n 0, 1) := by decide +kernel
theorem dX11_keep_25 : decode cX11_keep 25 = .ok (.getfield 47, 3) := by decide +kernel
theorem dX11_keep_28 : decode cX11_keep 28 = .ok (.iload_n 1, 1) := by decide +kernel
theorem dX11_keep_29 : decode cX11_keep 29 = .ok (.aaload, 1) := by decide +kernel
theorem dX11_keep_30 : decode cX11_keep 30 = .ok (.aload_n 0, 1) := by decide +kernel
theorem dX11_keep_31 : decode cX11_keep 31 = .ok (.getfield 54, 3) := by decide +kernel
theorem dX11_keep_34 : decode cX11_keep 34 = .ok (.invokevirtual 276, 3) := by decide +kernel
theorem dX11_keep_37 : decode cX11_keep 37 = .ok (.aload_n 0, 1) := by decide +kernel
theorem dX11_keep_38 : decode cX11_keep 38 = .ok (.getfield 54, 3) := by decide +kernel
theorem dX11_keep_41 : decode cX11_keep 41 = .ok (.getfield 251, 3) := by decide +kernel
theorem dX11_keep_44 : decode cX11_keep 44 = .ok (.getfield 255, 3) := by decide +kernel
theorem dX11_keep_47 : decode cX11_keep 47 = .ok (.ireturn, 1) := by decide +kernel
theorem dX11_on_0 : decode cX11_on 0 = .ok (.iload_n 1, 1) := by decide +kernel
theorem dX11_on_1 : decode cX11_on 1 = .ok (.iconst 0, 1) := by decide +kernel
theorem dX11_on_2 : decode cX11_on 2 = .ok (.iconst 2, 1) := by decide +kernel
theorem dX11_on_3 : decode cX11_on 3 = .ok (.invokestatic 117, 3) := by decide +kernel
theorem dX11_on_6 : decode cX11_on 6 = .ok (.ifCond .ne 5, 3) := by decide +kernel
theorem dX11_on_9 : decode cX11_on 9 = .ok (.iconst (-1), 1) := by decide +kernel
theorem dX11_on_10 : decode cX11_on 10 = .ok (.ireturn, 1) := by decide +kernel
theorem dX11_on_11 : decode cX11_on 11 = .ok (.aload_n 0, 1) := by decide +kernel
theorem dX11_on_12 : decode cX11_on 12 = .ok (.getfield 47, 3) := by decide +kernel
theorem dX11_on_15 : decode cX11_on 15 = .ok (.iload_n 1, 1) := by decide +kernel
theorem dX11_on_16 : decode cX11_on 16 = .ok (.aaload, 1) := by decide +kernel
theorem dX11_on_17 : decode cX11_on 17 = .ok (.getfield 250, 3) := by decide +kernel
theorem dX11_on_20 : decode cX11_on 20 = .ok (.ifCond .ne 9, 3) := by decide +kernel
theorem dX11_on_23 : decode cX11_on 23 = .ok (.aload_n 0, 1) := by decide +kernel
theorem dX11_on_24 : decode cX11_on 24 = .ok (.iconst 1, 1) := by decide +kernel
theorem dX11_on_25 : decode cX11_on 25 = .ok (.invokevirtual 129, 3) := by decide +kernel
theorem dX11_on_28 : decode cX11_on 28 = .ok (.ireturn, 1) := by decide +kernel
theorem dX11_on_29 : decode cX11_on 29 = .ok (.aload_n 0, 1) := by decide +kernel
theorem dX11_on_30 : decode cX11_on 30 = .ok (.getfield 54, 3) := by decide +kernel
theorem dX11_on_33 : decode cX11_on 33 = .ok (.aload_n 0, 1) := by decide +kernel
theorem dX11_on_34 : decode cX11_on 34 = .ok (.getfield 47, 3) := by decide +kernel
theorem dX11_on_37 : decode cX11_on 37 = .ok (.iload_n 1, 1) := by decide +kernel
theorem dX11_on_38 : decode cX11_on 38 = .ok (.aaload, 1) := by decide +kernel
theorem dX11_on_39 : decode cX11_on 39 = .ok (.invokevirtual 276, 3) := by decide +kernel
theorem dX11_on_42 : decode cX11_on 42 = .ok (.aload_n 0, 1) := by decide +kernel
theorem dX11_on_43 : decode cX11_on 43 = .ok (.getfield 54, 3) := by decide +kernel
theorem dX11_on_46 : decode cX11_on 46 = .ok (.getfield 251, 3) := by decide +kernel
theorem dX11_on_49 : decode cX11_on 49 = .ok (.getfield 255, 3) := by decide +kernel
theorem dX11_on_52 : decode cX11_on 52 = .ok (.ireturn, 1) := by decide +kernel
theorem dX11_water_0 : decode cX11_water 0 = .ok (.aload_n 0, 1) := by decide +kernel
theorem dX11_water_1 : decode cX11_water 1 = .ok (.getfield 54, 3) := by decide +kernel
theorem dX11_water_4 : decode cX11_water 4 = .ok (.getfield 250, 3) := by decide +kernel
theorem dX11_water_7 : decode cX11_water 7 = .ok (.ifCond .ne 6, 3) := by decide +kernel
theorem dX11_water_10 : decode cX11_water 10 = .ok (.bipush (-4), 2) := by decide +kernel
theorem dX11_water_12 : decode cX11_water 12 = .ok (.ireturn, 1) := by decide +kernel
theorem dX11_water_13 : decode cX11_water 13 = .ok (.aload_n 0, 1) := by decide +kernel
theorem dX11_water_14 : decode cX11_water 14 = .ok (.aload_n 0, 1) := by decide +kernel
theorem dX11_water_15 : decode cX11_water 15 = .ok (.getfield 54, 3) := by decide +kernel
theorem dX11_water_18 : decode cX11_water 18 = .ok (.getfield 251, 3) := by decide +kernel
theorem dX11_water_21 : decode cX11_water 21 = .ok (.invokevirtual 279, 3) := by decide +kernel
theorem dX11_water_24 : decode cX11_water 24 = .ok (.iconst 1, 1) := by decide +kernel
theorem dX11_water_25 : decode cX11_water 25 = .ok (.invokevirtual 143, 3) := by decide +kernel
theorem dX11_water_28 : decode cX11_water 28 = .ok (.ireturn, 1) := by decide +kernel
theorem dX11_beat_0 : decode cX11_beat 0 = .ok (.iload_n 1, 1) := by decide +kernel
theorem dX11_beat_1 : decode cX11_beat 1 = .ok (.invokestatic 125, 3) := by decide +kernel
theorem dX11_beat_4 : decode cX11_beat 4 = .ok (.ifCond .ne 5, 3) := by decide +kernel
theorem dX11_beat_7 : decode cX11_beat 7 = .ok (.iconst (-1), 1) := by decide +kernel
theorem dX11_beat_8 : decode cX11_beat 8 = .ok (.ireturn, 1) := by decide +kernel
theorem dX11_beat_9 : decode cX11_beat 9 = .ok (.aload_n 0, 1) := by decide +kernel
theorem dX11_beat_10 : decode cX11_beat 10 = .ok (.getfield 11, 3) := by decide +kernel
theorem dX11_beat_13 : decode cX11_beat 13 = .ok (.iload_n 1, 1) := by decide +kernel
theorem dX11_beat_14 : decode cX11_beat 14 = .ok (.aaload, 1) := by decide +kernel
theorem dX11_beat_15 : decode cX11_beat 15 = .ok (.getfield 136, 3) := by decide +kernel
theorem dX11_beat_18 : decode cX11_beat 18 = .ok (.ifCond .ne 9, 3) := by decide +kernel
theorem dX11_beat_21 : decode cX11_beat 21 = .ok (.aload_n 0, 1) := by decide +kernel
theorem dX11_beat_22 : decode cX11_beat 22 = .ok (.iconst 1, 1) := by decide +kernel
theorem dX11_beat_23 : decode cX11_beat 23 = .ok (.invokevirtual 129, 3) := by decide +kernel
theorem dX11_beat_26 : decode cX11_beat 26 = .ok (.ireturn, 1) := by decide +kernel
theorem dX11_beat_27 : decode cX11_beat 27 = .ok (.aload_n 0, 1) := by decide +kernel
theorem dX11_beat_28 : decode cX11_beat 28 = .ok (.getfield 86, 3) := by decide +kernel
theorem dX11_beat_31 : decode cX11_beat 31 = .ok (.aload_n 0, 1) := by decide +kernel
theorem dX11_beat_32 : decode cX11_beat 32 = .ok (.getfield 11, 3) := by decide +kernel
theorem dX11_beat_35 : decode cX11_beat 35 = .ok (.iload_n 1, 1) := by decide +kernel
theorem dX11_beat_36 : decode cX11_beat 36 = .ok (.aaload, 1) := by decide +kernel
theorem dX11_beat_37 : decode cX11_beat 37 = .ok (.getfield 140, 3) := by decide +kernel
theorem dX11_beat_40 : decode cX11_beat 40 = .ok (.aload_n 0, 1) := by decide +kernel
theorem dX11_beat_41 : decode cX11_beat 41 = .ok (.getfield 11, 3) := by decide +kernel
theorem dX11_beat_44 : decode cX11_beat 44 = .ok (.iload_n 1, 1) := by decide +kernel
theorem dX11_beat_45 : decode cX11_beat 45 = .ok (.aaload, 1) := by decide +kernel
theorem dX11_beat_46 : decode cX11_beat 46 = .ok (.getfield 157, 3) := by decide +kernel
theorem dX11_beat_49 : decode cX11_beat 49 = .ok (.invokevirtual 283, 3) := by decide +kernel
theorem dX11_beat_52 : decode cX11_beat 52 = .ok (.aload_n 0, 1) := by decide +kernel
theorem dX11_beat_53 : decode cX11_beat 53 = .ok (.invokevirtual 287, 3) := by decide +kernel
theorem dX11_beat_56 : decode cX11_beat 56 = .ok (.ireturn, 1) := by decide +kernel
theorem dX11_span_0 : decode cX11_span 0 = .ok (.iload_n 1, 1) := by decide +kernel
theorem dX11_span_1 : decode cX11_span 1 = .ok (.invokestatic 125, 3) := by decide +kernel
theorem dX11_span_4 : decode cX11_span 4 = .ok (.ifCond .ne 5, 3) := by decide +kernel
theorem dX11_span_7 : decode cX11_span 7 = .ok (.iconst (-1), 1) := by decide +kernel
theorem dX11_span_8 : decode cX11_span 8 = .ok (.ireturn, 1) := by decide +kernel
theorem dX11_span_9 : decode cX11_span 9 = .ok (.aload_n 0, 1) := by decide +kernel
theorem dX11_span_10 : decode cX11_span 10 = .ok (.getfield 11, 3) := by decide +kernel
theorem dX11_span_13 : decode cX11_span 13 = .ok (.iload_n 1, 1) := by decide +kernel
theorem dX11_span_14 : decode cX11_span 14 = .ok (.aaload, 1) := by decide +kernel
theorem dX11_span_15 : decode cX11_span 15 = .ok (.getfield 136, 3) := by decide +kernel
theorem dX11_span_18 : decode cX11_span 18 = .ok (.ifCond .ne 9, 3) := by decide +kernel
theorem dX11_span_21 : decode cX11_span 21 = .ok (.aload_n 0, 1) := by decide +kernel
theorem dX11_span_22 : decode cX11_span 22 = .ok (.iconst 1, 1) := by decide +kernel
theorem dX11_span_23 : decode cX11_span 23 = .ok (.invokevirtual 129, 3) := by decide +kernel
theorem dX11_span_26 : decode cX11_span 26 = .ok (.ireturn, 1) := by decide +kernel
theorem dX11_span_27 : decode cX11_span 27 = .ok (.aload_n 0, 1) := by decide +kernel
theorem dX11_span_28 : decode cX11_span 28 = .ok (.getfield 86, 3) := by decide +kernel
theorem dX11_span_31 : decode cX11_span 31 = .ok (.aload_n 0, 1) := by decide +kernel
theorem dX11_span_32 : decode cX11_span 32 = .ok (.getfield 11, 3) := by decide +kernel
theorem dX11_span_35 : decode cX11_span 35 = .ok (.iload_n 1, 1) := by decide +kernel
theorem dX11_span_36 : decode cX11_span 36 = .ok (.aaload, 1) := by decide +kernel
theorem dX11_span_37 : decode cX11_span 37 = .ok (.getfield 140, 3) := by decide +kernel
theorem dX11_span_40 : decode cX11_span 40 = .ok (.aload_n 0, 1) := by decide +kernel
theorem dX11_span_41 : decode cX11_span 41 = .ok (.getfield 11, 3) := by decide +kernel
theorem dX11_span_44 : decode cX11_span 44 = .ok (.iload_n 1, 1) := by decide +kernel
theorem dX11_span_45 : decode cX11_span 45 = .ok (.aaload, 1) := by decide +kernel
theorem dX11_span_46 : decode cX11_span 46 = .ok (.getfield 157, 3) := by decide +kernel
theorem dX11_span_49 : decode cX11_span 49 = .ok (.invokevirtual 283, 3) := by decide +kernel
theorem dX11_span_52 : decode cX11_span 52 = .ok (.aload_n 0, 1) := by decide +kernel
theorem dX11_span_53 : decode cX11_span 53 = .ok (.getfield 86, 3) := by decide +kernel
theorem dX11_span_56 : decode cX11_span 56 = .ok (.invokevirtual 290, 3) := by decide +kernel
theorem dX11_span_59 : decode cX11_span 59 = .ok (.ifCond .ne 9, 3) := by decide +kernel
theorem dX11_span_62 : decode cX11_span 62 = .ok (.aload_n 0, 1) := by decide +kernel
theorem dX11_span_63 : decode cX11_span 63 = .ok (.iconst 4, 1) := by decide +kernel
theorem dX11_span_64 : decode cX11_span 64 = .ok (.invokevirtual 129, 3) := by decide +kernel
theorem dX11_span_67 : decode cX11_span 67 = .ok (.ireturn, 1) := by decide +kernel
theorem dX11_span_68 : decode cX11_span 68 = .ok (.aload_n 0, 1) := by decide +kernel
theorem dX11_span_69 : decode cX11_span 69 = .ok (.aload_n 0, 1) := by decide +kernel
theorem dX11_span_70 : decode cX11_span 70 = .ok (.getfield 86, 3) := by decide +kernel
theorem dX11_span_73 : decode cX11_span 73 = .ok (.getfield 294, 3) := by decide +kernel
theorem dX11_span_76 : decode cX11_span 76 = .ok (.aload_n 0, 1) := by decide +kernel
theorem dX11_span_77 : decode cX11_span 77 = .ok (.getfield 86, 3) := by decide +kernel
theorem dX11_span_80 : decode cX11_span 80 = .ok (.getfield 297, 3) := by decide +kernel
theorem dX11_span_83 : decode cX11_span 83 = .ok (.invokevirtual 143, 3) := by decide +kernel
theorem dX11_span_86 : decode cX11_span 86 = .ok (.ireturn, 1) := by decide +kernel
theorem dX11_ring_0 : decode cX11_ring 0 = .ok (.iload_n 1, 1) := by decide +kernel
theorem dX11_ring_1 : decode cX11_ring 1 = .ok (.invokestatic 181, 3) := by decide +kernel
theorem dX11_ring_4 : decode cX11_ring 4 = .ok (.ifCond .eq 10, 3) := by decide +kernel
theorem dX11_ring_7 : decode cX11_ring 7 = .ok (.iload_n 2, 1) := by decide +kernel
theorem dX11_ring_8 : decode cX11_ring 8 = .ok (.invokestatic 225, 3) := by decide +kernel
theorem dX11_ring_11 : decode cX11_ring 11 = .ok (.ifCond .ne 5, 3) := by decide +kernel
theorem dX11_ring_14 : decode cX11_ring 14 = .ok (.iconst (-1), 1) := by decide +kernel
theorem dX11_ring_15 : decode cX11_ring 15 = .ok (.ireturn, 1) := by decide +kernel
theorem dX11_ring_16 : decode cX11_ring 16 = .ok (.aload_n 0, 1) := by decide +kernel
theorem dX11_ring_17 : decode cX11_ring 17 = .ok (.getfield 23, 3) := by decide +kernel
theorem dX11_ring_20 : decode cX11_ring 20 = .ok (.iload_n 1, 1) := by decide +kernel
theorem dX11_ring_21 : decode cX11_ring 21 = .ok (.aaload, 1) := by decide +kernel
theorem dX11_ring_22 : decode cX11_ring 22 = .ok (.getfield 206, 3) := by decide +kernel
theorem dX11_ring_25 : decode cX11_ring 25 = .ok (.ifCond .ne 9, 3) := by decide +kernel
theorem dX11_ring_28 : decode cX11_ring 28 = .ok (.aload_n 0, 1) := by decide +kernel
theorem dX11_ring_29 : decode cX11_ring 29 = .ok (.iconst 1, 1) := by decide +kernel
theorem dX11_ring_30 : decode cX11_ring 30 = .ok (.invokevirtual 129, 3) := by decide +kernel
theorem dX11_ring_33 : decode cX11_ring 33 = .ok (.ireturn, 1) := by decide +kernel
theorem dX11_ring_34 : decode cX11_ring 34 = .ok (.aload_n 0, 1) := by decide +kernel
theorem dX11_ring_35 : decode cX11_ring 35 = .ok (.getfield 23, 3) := by decide +kernel
theorem dX11_ring_38 : decode cX11_ring 38 = .ok (.iload_n 1, 1) := by decide +kernel
theorem dX11_ring_39 : decode cX11_ring 39 = .ok (.aaload, 1) := by decide +kernel
theorem dX11_ring_40 : decode cX11_ring 40 = .ok (.iload_n 2, 1) := by decide +kernel
theorem dX11_ring_41 : decode cX11_ring 41 = .ok (.invokevirtual 207, 3) := by decide +kernel
theorem dX11_ring_44 : decode cX11_ring 44 = .ok (.ifCond .ne 9, 3) := by decide +kernel
theorem dX11_ring_47 : decode cX11_ring 47 = .ok (.aload_n 0, 1) := by decide +kernel
theorem dX11_ring_48 : decode cX11_ring 48 = .ok (.iconst 2, 1) := by decide +kernel
theorem dX11_ring_49 : decode cX11_ring 49 = .ok (.invokevirtual 129, 3) := by decide +kernel
theorem dX11_ring_52 : decode cX11_ring 52 = .ok (.ireturn, 1) := by decide +kernel
theorem dX11_ring_53 : decode cX11_ring 53 = .ok (.aload_n 0, 1) := by decide +kernel
theorem dX11_ring_54 : decode cX11_ring 54 = .ok (.aload_n 0, 1) := by decide +kernel
theorem dX11_ring_55 : decode cX11_ring 55 = .ok (.getfield 23, 3) := by decide +kernel
theorem dX11_ring_58 : decode cX11_ring 58 = .ok (.iload_n 1, 1) := by decide +kernel
theorem dX11_ring_59 : decode cX11_ring 59 = .ok (.aaload, 1) := by decide +kernel
theorem dX11_ring_60 : decode cX11_ring 60 = .ok (.iload_n 2, 1) := by decide +kernel
theorem dX11_ring_61 : decode cX11_ring 61 = .ok (.invokevirtual 300, 3) := by decide +kernel
theorem dX11_ring_64 : decode cX11_ring 64 = .ok (.aload_n 0, 1) := by decide +kernel
theorem dX11_ring_65 : decode cX11_ring 65 = .ok (.invokevirtual 287, 3) := by decide +kernel
theorem dX11_ring_68 : decode cX11_ring 68 = .ok (.ireturn, 1) := by decide +kernel
theorem dX11_roll_0 : decode cX11_roll 0 = .ok (.iload_n 1, 1) := by decide +kernel
theorem dX11_roll_1 : decode cX11_roll 1 = .ok (.invokestatic 222, 3) := by decide +kernel
theorem dX11_roll_4 : decode cX11_roll 4 = .ok (.ifCond .ne 5, 3) := by decide +kernel
theorem dX11_roll_7 : decode cX11_roll 7 = .ok (.iconst (-1), 1) := by decide +kernel
theorem dX11_roll_8 : decode cX11_roll 8 = .ok (.ireturn, 1) := by decide +kernel
theorem dX11_roll_9 : decode cX11_roll 9 = .ok (.aload_n 0, 1) := by decide +kernel
theorem dX11_roll_10 : decode cX11_roll 10 = .ok (.getfield 35, 3) := by decide +kernel
theorem dX11_roll_13 : decode cX11_roll 13 = .ok (.iload_n 1, 1) := by decide +kernel
theorem dX11_roll_14 : decode cX11_roll 14 = .ok (.aaload, 1) := by decide +kernel
theorem dX11_roll_15 : decode cX11_roll 15 = .ok (.getfield 232, 3) := by decide +kernel
theorem dX11_roll_18 : decode cX11_roll 18 = .ok (.ifCond .ne 6, 3) := by decide +kernel
theorem dX11_roll_21 : decode cX11_roll 21 = .ok (.bipush (-4), 2) := by decide +kernel
theorem dX11_roll_23 : decode cX11_roll 23 = .ok (.ireturn, 1) := by decide +kernel
theorem dX11_roll_24 : decode cX11_roll 24 = .ok (.aload_n 0, 1) := by decide +kernel
theorem dX11_roll_25 : decode cX11_roll 25 = .ok (.aload_n 0, 1) := by decide +kernel
theorem dX11_roll_26 : decode cX11_roll 26 = .ok (.getfield 35, 3) := by decide +kernel
theorem dX11_roll_29 : decode cX11_roll 29 = .ok (.iload_n 1, 1) := by decide +kernel
theorem dX11_roll_30 : decode cX11_roll 30 = .ok (.aaload, 1) := by decide +kernel
theorem dX11_roll_31 : decode cX11_roll 31 = .ok (.invokevirtual 304, 3) := by decide +kernel
theorem dX11_roll_34 : decode cX11_roll 34 = .ok (.aload_n 0, 1) := by decide +kernel
theorem dX11_roll_35 : decode cX11_roll 35 = .ok (.invokevirtual 287, 3) := by decide +kernel
theorem dX11_roll_38 : decode cX11_roll 38 = .ok (.ireturn, 1) := by decide +kernel
theorem dX11_kind_0 : decode cX11_kind 0 = .ok (.aload_n 0, 1) := by decide +kernel
theorem dX11_kind_1 : decode cX11_kind 1 = .ok (.iload_n 1, 1) := by decide +kernel
theorem dX11_kind_2 : decode cX11_kind 2 = .ok (.iload_n 2, 1) := by decide +kernel
theorem dX11_kind_3 : decode cX11_kind 3 = .ok (.iload_n 3, 1) := by decide +kernel
theorem dX11_kind_4 : decode cX11_kind 4 = .ok (.iload 4, 2) := by decide +kernel
theorem dX11_kind_6 : decode cX11_kind 6 = .ok (.invokevirtual 308, 3) := by decide +kernel
theorem dX11_kind_9 : decode cX11_kind 9 = .ok (.ireturn, 1) := by decide +kernel
theorem dX11_mark_0 : decode cX11_mark 0 = .ok (.iload 5, 2) := by decide +kernel
theorem dX11_mark_2 : decode cX11_mark 2 = .ok (.iconst 1, 1) := by decide +kernel
theorem dX11_mark_3 : decode cX11_mark 3 = .ok (.iconst 5, 1) := by decide +kernel
theorem dX11_mark_4 : decode cX11_mark 4 = .ok (.invokestatic 117, 3) := by decide +kernel
theorem dX11_mark_7 : decode cX11_mark 7 = .ok (.ifCond .ne 5, 3) := by decide +kernel
theorem dX11_mark_10 : decode cX11_mark 10 = .ok (.iconst (-1), 1) := by decide +kernel
theorem dX11_mark_11 : decode cX11_mark 11 = .ok (.ireturn, 1) := by decide +kernel
theorem dX11_mark_12 : decode cX11_mark 12 = .ok (.aload_n 0, 1) := by decide +kernel
theorem dX11_mark_13 : decode cX11_mark 13 = .ok (.iload_n 1, 1) := by decide +kernel
theorem dX11_mark_14 : decode cX11_mark 14 = .ok (.iload_n 2, 1) := by decide +kernel
theorem dX11_mark_15 : decode cX11_mark 15 = .ok (.iload_n 3, 1) := by decide +kernel
theorem dX11_mark_16 : decode cX11_mark 16 = .ok (.iload 4, 2) := by decide +kernel
theorem dX11_mark_18 : decode cX11_mark 18 = .ok (.invokevirtual 308, 3) := by decide +kernel
theorem dX11_mark_21 : decode cX11_mark 21 = .ok (.istore 6, 2) := by decide +kernel
theorem dX11_mark_23 : decode cX11_mark 23 = .ok (.iload 6, 2) := by decide +kernel
theorem dX11_mark_25 : decode cX11_mark 25 = .ok (.ifCond .ge 6, 3) := by decide +kernel
theorem dX11_mark_28 : decode cX11_mark 28 = .ok (.iload 6, 2) := by decide +kernel
theorem dX11_mark_30 : decode cX11_mark 30 = .ok (.ireturn, 1) := by decide +kernel
theorem dX11_mark_31 : decode cX11_mark 31 = .ok (.iload 6, 2) := by decide +kernel
theorem dX11_mark_33 : decode cX11_mark 33 = .ok (.iload 5, 2) := by decide +kernel
theorem dX11_mark_35 : decode cX11_mark 35 = .ok (.if_icmp .eq 27, 3) := by decide +kernel
theorem dX11_mark_38 : decode cX11_mark 38 = .ok (.iload 6, 2) := by decide +kernel
theorem dX11_mark_40 : decode cX11_mark 40 = .ok (.iconst 4, 1) := by decide +kernel
theorem dX11_mark_41 : decode cX11_mark 41 = .ok (.if_icmp .ne 9, 3) := by decide +kernel
theorem dX11_mark_44 : decode cX11_mark 44 = .ok (.iload 5, 2) := by decide +kernel
theorem dX11_mark_46 : decode cX11_mark 46 = .ok (.iconst 2, 1) := by decide +kernel
theorem dX11_mark_47 : decode cX11_mark 47 = .ok (.if_icmp .eq 15, 3) := by decide +kernel
theorem dX11_mark_50 : decode cX11_mark 50 = .ok (.iload 6, 2) := by decide +kernel
theorem dX11_mark_52 : decode cX11_mark 52 = .ok (.iconst 5, 1) := by decide +kernel
theorem dX11_mark_53 : decode cX11_mark 53 = .ok (.if_icmp .ne 13, 3) := by decide +kernel
theorem dX11_mark_56 : decode cX11_mark 56 = .ok (.iload 5, 2) := by decide +kernel
theorem dX11_mark_58 : decode cX11_mark 58 = .ok (.iconst 1, 1) := by decide +kernel
theorem dX11_mark_59 : decode cX11_mark 59 = .ok (.if_icmp .ne 7, 3) := by decide +kernel
theorem dX11_mark_62 : decode cX11_mark 62 = .ok (.iconst 1, 1) := by decide +kernel
theorem dX11_mark_63 : decode cX11_mark 63 = .ok (.goto 4, 3) := by decide +kernel
theorem dX11_mark_66 : decode cX11_mark 66 = .ok (.iconst 0, 1) := by decide +kernel
theorem dX11_mark_67 : decode cX11_mark 67 = .ok (.istore 7, 2) := by decide +kernel
theorem dX11_mark_69 : decode cX11_mark 69 = .ok (.iload 7, 2) := by decide +kernel
theorem dX11_mark_71 : decode cX11_mark 71 = .ok (.ifCond .ne 9, 3) := by decide +kernel
theorem dX11_mark_74 : decode cX11_mark 74 = .ok (.aload_n 0, 1) := by decide +kernel
theorem dX11_mark_75 : decode cX11_mark 75 = .ok (.iconst 3, 1) := by decide +kernel
theorem dX11_mark_76 : decode cX11_mark 76 = .ok (.invokevirtual 129, 3) := by decide +kernel
theorem dX11_mark_79 : decode cX11_mark 79 = .ok (.ireturn, 1) := by decide +kernel
theorem dX11_mark_80 : decode cX11_mark 80 = .ok (.iload 5, 2) := by decide +kernel
theorem dX11_mark_82 : decode cX11_mark 82 = .ok (.tableswitch 63 2 5 #[30, 63, 37, 55], 30) := by decide +kernel
theorem dX11_mark_112 : decode cX11_mark 112 = .ok (.aload_n 0, 1) := by decide +kernel
theorem dX11_mark_113 : decode cX11_mark 113 = .ok (.iload_n 2, 1) := by decide +kernel
theorem dX11_mark_114 : decode cX11_mark 114 = .ok (.iload_n 3, 1) := by decide +kernel
theorem dX11_mark_115 : decode cX11_mark 115 = .ok (.invokevirtual 312, 3) := by decide +kernel
theorem dX11_mark_118 : decode cX11_mark 118 = .ok (.ireturn, 1) := by decide +kernel
theorem dX11_mark_119 : decode cX11_mark 119 = .ok (.aload_n 0, 1) := by decide +kernel
theorem dX11_mark_120 : decode cX11_mark 120 = .ok (.iload_n 2, 1) := by decide +kernel
theorem dX11_mark_121 : decode cX11_mark 121 = .ok (.iload_n 3, 1) := by decide +kernel
theorem dX11_mark_122 : decode cX11_mark 122 = .ok (.invokevirtual 312, 3) := by decide +kernel
theorem dX11_mark_125 : decode cX11_mark 125 = .ok (.aload_n 0, 1) := by decide +kernel
theorem dX11_mark_126 : decode cX11_mark 126 = .ok (.getfield 86, 3) := by decide +kernel
theorem dX11_mark_129 : decode cX11_mark 129 = .ok (.invokevirtual 315, 3) := by decide +kernel
theorem dX11_mark_132 : decode cX11_mark 132 = .ok (.isub, 1) := by decide +kernel
theorem dX11_mark_133 : decode cX11_mark 133 = .ok (.invokestatic 318, 3) := by decide +kernel
theorem dX11_mark_136 : decode cX11_mark 136 = .ok (.ireturn, 1) := by decide +kernel
theorem dX11_mark_137 : decode cX11_mark 137 = .ok (.aload_n 0, 1) := by decide +kernel
theorem dX11_mark_138 : decode cX11_mark 138 = .ok (.getfield 86, 3) := by decide +kernel
theorem dX11_mark_141 : decode cX11_mark 141 = .ok (.invokevirtual 323, 3) := by decide +kernel
theorem dX11_mark_144 : decode cX11_mark 144 = .ok (.ireturn, 1) := by decide +kernel
theorem dX11_mark_145 : decode cX11_mark 145 = .ok (.aload_n 0, 1) := by decide +kernel
theorem dX11_mark_146 : decode cX11_mark 146 = .ok (.getfield 86, 3) := by decide +kernel
theorem dX11_mark_149 : decode cX11_mark 149 = .ok (.invokevirtual 315, 3) := by decide +kernel
theorem dX11_mark_152 : decode cX11_mark 152 = .ok (.ireturn, 1) := by decide +kernel
theorem dX11_tellBeat_0 : decode cX11_tellBeat 0 = .ok (.aload_n 0, 1) := by decide +kernel
theorem dX11_tellBeat_1 : decode cX11_tellBeat 1 = .ok (.getfield 86, 3) := by decide +kernel
theorem dX11_tellBeat_4 : decode cX11_tellBeat 4 = .ok (.invokevirtual 290, 3) := by decide +kernel
theorem dX11_tellBeat_7 : decode cX11_tellBeat 7 = .ok (.ifCond .ne 9, 3) := by decide +kernel
theorem dX11_tellBeat_10 : decode cX11_tellBeat 10 = .ok (.aload_n 0, 1) := by decide +kernel
theorem dX11_tellBeat_11 : decode cX11_tellBeat 11 = .ok (.iconst 4, 1) := by decide +kernel
theorem dX11_tellBeat_12 : decode cX11_tellBeat 12 = .ok (.invokevirtual 129, 3) := by decide +kernel
theorem dX11_tellBeat_15 : decode cX11_tellBeat 15 = .ok (.ireturn, 1) := by decide +kernel
theorem dX11_tellBeat_16 : decode cX11_tellBeat 16 = .ok (.aload_n 0, 1) := by decide +kernel
theorem dX11_tellBeat_17 : decode cX11_tellBeat 17 = .ok (.getfield 110, 3) := by decide +kernel
theorem dX11_tellBeat_20 : decode cX11_tellBeat 20 = .ok (.aload_n 0, 1) := by decide +kernel
theorem dX11_tellBeat_21 : decode cX11_tellBeat 21 = .ok (.getfield 86, 3) := by decide +kernel
theorem dX11_tellBeat_24 : decode cX11_tellBeat 24 = .ok (.getfield 326, 3) := by decide +kernel
theorem dX11_tellBeat_27 : decode cX11_tellBeat 27 = .ok (.aload_n 0, 1) := by decide +kernel
theorem dX11_tellBeat_28 : decode cX11_tellBeat 28 = .ok (.getfield 86, 3) := by decide +kernel
theorem dX11_tellBeat_31 : decode cX11_tellBeat 31 = .ok (.getfield 329, 3) := by decide +kernel
theorem dX11_tellBeat_34 : decode cX11_tellBeat 34 = .ok (.isub, 1) := by decide +kernel
theorem dX11_tellBeat_35 : decode cX11_tellBeat 35 = .ok (.aload_n 0, 1) := by decide +kernel
theorem dX11_tellBeat_36 : decode cX11_tellBeat 36 = .ok (.getfield 86, 3) := by decide +kernel
theorem dX11_tellBeat_39 : decode cX11_tellBeat 39 = .ok (.getfield 332, 3) := by decide +kernel
theorem dX11_tellBeat_42 : decode cX11_tellBeat 42 = .ok (.iconst 1, 1) := by decide +kernel
theorem dX11_tellBeat_43 : decode cX11_tellBeat 43 = .ok (.isub, 1) := by decide +kernel
theorem dX11_tellBeat_44 : decode cX11_tellBeat 44 = .ok (.invokevirtual 335, 3) := by decide +kernel
theorem dX11_tellBeat_47 : decode cX11_tellBeat 47 = .ok (.aload_n 0, 1) := by decide +kernel
theorem dX11_tellBeat_48 : decode cX11_tellBeat 48 = .ok (.getfield 86, 3) := by decide +kernel
theorem dX11_tellBeat_51 : decode cX11_tellBeat 51 = .ok (.getfield 332, 3) := by decide +kernel
theorem dX11_tellBeat_54 : decode cX11_tellBeat 54 = .ok (.ireturn, 1) := by decide +kernel
theorem dX11_hearRing_0 : decode cX11_hearRing 0 = .ok (.aload_n 0, 1) := by decide +kernel
theorem dX11_hearRing_1 : decode cX11_hearRing 1 = .ok (.getfield 58, 3) := by decide +kernel
theorem dX11_hearRing_4 : decode cX11_hearRing 4 = .ok (.getfield 251, 3) := by decide +kernel
theorem dX11_hearRing_7 : decode cX11_hearRing 7 = .ok (.astore_n 3, 1) := by decide +kernel
theorem dX11_hearRing_8 : decode cX11_hearRing 8 = .ok (.aload_n 3, 1) := by decide +kernel
theorem dX11_hearRing_9 : decode cX11_hearRing 9 = .ok (.aload_n 1, 1) := by decide +kernel
theorem dX11_hearRing_10 : decode cX11_hearRing 10 = .ok (.aload_n 0, 1) := by decide +kernel
theorem dX11_hearRing_11 : decode cX11_hearRing 11 = .ok (.getfield 74, 3) := by decide +kernel
theorem dX11_hearRing_14 : decode cX11_hearRing 14 = .ok (.invokevirtual 338, 3) := by decide +kernel
theorem dX11_hearRing_17 : decode cX11_hearRing 17 = .ok (.aload_n 3, 1) := by decide +kernel
theorem dX11_hearRing_18 : decode cX11_hearRing 18 = .ok (.iload_n 2, 1) := by decide +kernel
theorem dX11_hearRing_19 : decode cX11_hearRing 19 = .ok (.sipush 1000, 3) := by decide +kernel
theorem dX11_hearRing_22 : decode cX11_hearRing 22 = .ok (.invokevirtual 339, 3) := by decide +kernel
theorem dX11_hearRing_25 : decode cX11_hearRing 25 = .ok (.iconst 0, 1) := by decide +kernel
theorem dX11_hearRing_26 : decode cX11_hearRing 26 = .ok (.istore 4, 2) := by decide +kernel
theorem dX11_hearRing_28 : decode cX11_hearRing 28 = .ok (.iload 4, 2) := by decide +kernel
theorem dX11_hearRing_30 : decode cX11_hearRing 30 = .ok (.sipush 400, 3) := by decide +kernel
theorem dX11_hearRing_33 : decode cX11_hearRing 33 = .ok (.if_icmp .ge 29, 3) := by decide +kernel
theorem dX11_hearRing_36 : decode cX11_hearRing 36 = .ok (.aload_n 3, 1) := by decide +kernel
theorem dX11_hearRing_37 : decode cX11_hearRing 37 = .ok (.invokevirtual 342, 3) := by decide +kernel
theorem dX11_hearRing_40 : decode cX11_hearRing 40 = .ok (.aload_n 0, 1) := by decide +kernel
theorem dX11_hearRing_41 : decode cX11_hearRing 41 = .ok (.getfield 86, 3) := by decide +kernel
theorem dX11_hearRing_44 : decode cX11_hearRing 44 = .ok (.getfield 344, 3) := by decide +kernel
theorem dX11_hearRing_47 : decode cX11_hearRing 47 = .ok (.iload 4, 2) := by decide +kernel
theorem dX11_hearRing_49 : decode cX11_hearRing 49 = .ok (.aload_n 3, 1) := by decide +kernel
theorem dX11_hearRing_50 : decode cX11_hearRing 50 = .ok (.iload_n 2, 1) := by decide +kernel
theorem dX11_hearRing_51 : decode cX11_hearRing 51 = .ok (.iconst 0, 1) := by decide +kernel
theorem dX11_hearRing_52 : decode cX11_hearRing 52 = .ok (.invokevirtual 264, 3) := by decide +kernel
theorem dX11_hearRing_55 : decode cX11_hearRing 55 = .ok (.iastore, 1) := by decide +kernel
theorem dX11_hearRing_56 : decode cX11_hearRing 56 = .ok (.iinc 4 1, 3) := by decide +kernel
theorem dX11_hearRing_59 : decode cX11_hearRing 59 = .ok (.goto (-31), 3) := by decide +kernel
theorem dX11_hearRing_62 : decode cX11_hearRing 62 = .ok (.aload_n 0, 1) := by decide +kernel
theorem dX11_hearRing_63 : decode cX11_hearRing 63 = .ok (.getfield 86, 3) := by decide +kernel
theorem dX11_hearRing_66 : decode cX11_hearRing 66 = .ok (.aload_n 0, 1) := by decide +kernel
theorem dX11_hearRing_67 : decode cX11_hearRing 67 = .ok (.getfield 86, 3) := by decide +kernel
theorem dX11_hearRing_70 : decode cX11_hearRing 70 = .ok (.getfield 344, 3) := by decide +kernel
theorem dX11_hearRing_73 : decode cX11_hearRing 73 = .ok (.sipush 400, 3) := by decide +kernel
theorem dX11_hearRing_76 : decode cX11_hearRing 76 = .ok (.invokevirtual 283, 3) := by decide +kernel
theorem dX11_hearRing_79 : decode cX11_hearRing 79 = .ok (.return_, 1) := by decide +kernel
theorem dX11_hearRoll_0 : decode cX11_hearRoll 0 = .ok (.aload_n 0, 1) := by decide +kernel
theorem dX11_hearRoll_1 : decode cX11_hearRoll 1 = .ok (.getfield 79, 3) := by decide +kernel
theorem dX11_hearRoll_4 : decode cX11_hearRoll 4 = .ok (.aload_n 1, 1) := by decide +kernel
theorem dX11_hearRoll_5 : decode cX11_hearRoll 5 = .ok (.invokevirtual 347, 3) := by decide +kernel
theorem dX11_hearRoll_8 : decode cX11_hearRoll 8 = .ok (.aload_n 0, 1) := by decide +kernel
theorem dX11_hearRoll_9 : decode cX11_hearRoll 9 = .ok (.getfield 79, 3) := by decide +kernel
theorem dX11_hearRoll_12 : decode cX11_hearRoll 12 = .ok (.invokevirtual 349, 3) := by decide +kernel
theorem dX11_hearRoll_15 : decode cX11_hearRoll 15 = .ok (.aload_n 0, 1) := by decide +kernel
theorem dX11_hearRoll_16 : decode cX11_hearRoll 16 = .ok (.getfield 79, 3) := by decide +kernel
theorem dX11_hearRoll_19 : decode cX11_hearRoll 19 = .ok (.aload_n 0, 1) := by decide +kernel
theorem dX11_hearRoll_20 : decode cX11_hearRoll 20 = .ok (.getfield 79, 3) := by decide +kernel
theorem dX11_hearRoll_23 : decode cX11_hearRoll 23 = .ok (.getfield 352, 3) := by decide +kernel
theorem dX11_hearRoll_26 : decode cX11_hearRoll 26 = .ok (.bipush 100, 2) := by decide +kernel
theorem dX11_hearRoll_28 : decode cX11_hearRoll 28 = .ok (.iadd, 1) := by decide +kernel
theorem dX11_hearRoll_29 : decode cX11_hearRoll 29 = .ok (.putfield 355, 3) := by decide +kernel
theorem dX11_hearRoll_32 : decode cX11_hearRoll 32 = .ok (.iconst 0, 1) := by decide +kernel
theorem dX11_hearRoll_33 : decode cX11_hearRoll 33 = .ok (.istore_n 2, 1) := by decide +kernel
theorem dX11_hearRoll_34 : decode cX11_hearRoll 34 = .ok (.iload_n 2, 1) := by decide +kernel
theorem dX11_hearRoll_35 : decode cX11_hearRoll 35 = .ok (.sipush 400, 3) := by decide +kernel
theorem dX11_hearRoll_38 : decode cX11_hearRoll 38 = .ok (.if_icmp .ge 34, 3) := by decide +kernel
theorem dX11_hearRoll_41 : decode cX11_hearRoll 41 = .ok (.aload_n 0, 1) := by decide +kernel
theorem dX11_hearRoll_42 : decode cX11_hearRoll 42 = .ok (.getfield 79, 3) := by decide +kernel
theorem dX11_hearRoll_45 : decode cX11_hearRoll 45 = .ok (.iconst 0, 1) := by decide +kernel
theorem dX11_hearRoll_46 : decode cX11_hearRoll 46 = .ok (.iload_n 2, 1) := by decide +kernel
theorem dX11_hearRoll_47 : decode cX11_hearRoll 47 = .ok (.invokevirtual 358, 3) := by decide +kernel
theorem dX11_hearRoll_50 : decode cX11_hearRoll 50 = .ok (.aload_n 0, 1) := by decide +kernel
theorem dX11_hearRoll_51 : decode cX11_hearRoll 51 = .ok (.getfield 86, 3) := by decide +kernel
theorem dX11_hearRoll_54 : decode cX11_hearRoll 54 = .ok (.getfield 344, 3) := by decide +kernel
theorem dX11_hearRoll_57 : decode cX11_hearRoll 57 = .ok (.iload_n 2, 1) := by decide +kernel
theorem dX11_hearRoll_58 : decode cX11_hearRoll 58 = .ok (.aload_n 0, 1) := by decide +kernel
theorem dX11_hearRoll_59 : decode cX11_hearRoll 59 = .ok (.getfield 79, 3) := by decide +kernel
theorem dX11_hearRoll_62 : decode cX11_hearRoll 62 = .ok (.getfield 355, 3) := by decide +kernel
theorem dX11_hearRoll_65 : decode cX11_hearRoll 65 = .ok (.iastore, 1) := by decide +kernel
theorem dX11_hearRoll_66 : decode cX11_hearRoll 66 = .ok (.iinc 2 1, 3) := by decide +kernel
theorem dX11_hearRoll_69 : decode cX11_hearRoll 69 = .ok (.goto (-35), 3) := by decide +kernel
theorem dX11_hearRoll_72 : decode cX11_hearRoll 72 = .ok (.aload_n 0, 1) := by decide +kernel
theorem dX11_hearRoll_73 : decode cX11_hearRoll 73 = .ok (.getfield 86, 3) := by decide +kernel
theorem dX11_hearRoll_76 : decode cX11_hearRoll 76 = .ok (.aload_n 0, 1) := by decide +kernel
theorem dX11_hearRoll_77 : decode cX11_hearRoll 77 = .ok (.getfield 86, 3) := by decide +kernel
theorem dX11_hearRoll_80 : decode cX11_hearRoll 80 = .ok (.getfield 344, 3) := by decide +kernel
theorem dX11_hearRoll_83 : decode cX11_hearRoll 83 = .ok (.sipush 400, 3) := by decide +kernel
theorem dX11_hearRoll_86 : decode cX11_hearRoll 86 = .ok (.invokevirtual 283, 3) := by decide +kernel
theorem dX11_hearRoll_89 : decode cX11_hearRoll 89 = .ok (.return_, 1) := by decide +kernel
theorem dX11_kindOf_0 : decode cX11_kindOf 0 = .ok (.iload_n 1, 1) := by decide +kernel
theorem dX11_kindOf_1 : decode cX11_kindOf 1 = .ok (.tableswitch 49 0 2 #[27, 34, 43], 27) := by decide +kernel
theorem dX11_kindOf_28 : decode cX11_kindOf 28 = .ok (.aload_n 0, 1) := by decide +kernel
theorem dX11_kindOf_29 : decode cX11_kindOf 29 = .ok (.iload_n 2, 1) := by decide +kernel
theorem dX11_kindOf_30 : decode cX11_kindOf 30 = .ok (.iload_n 3, 1) := by decide +kernel
theorem dX11_kindOf_31 : decode cX11_kindOf 31 = .ok (.invokevirtual 361, 3) := by decide +kernel
theorem dX11_kindOf_34 : decode cX11_kindOf 34 = .ok (.ireturn, 1) := by decide +kernel
theorem dX11_kindOf_35 : decode cX11_kindOf 35 = .ok (.aload_n 0, 1) := by decide +kernel
theorem dX11_kindOf_36 : decode cX11_kindOf 36 = .ok (.iload_n 2, 1) := by decide +kernel
theorem dX11_kindOf_37 : decode cX11_kindOf 37 = .ok (.iload_n 3, 1) := by decide +kernel
theorem dX11_kindOf_38 : decode cX11_kindOf 38 = .ok (.iload 4, 2) := by decide +kernel
theorem dX11_kindOf_40 : decode cX11_kindOf 40 = .ok (.invokevirtual 364, 3) := by decide +kernel
theorem dX11_kindOf_43 : decode cX11_kindOf 43 = .ok (.ireturn, 1) := by decide +kernel
theorem dX11_kindOf_44 : decode cX11_kindOf 44 = .ok (.aload_n 0, 1) := by decide +kernel
theorem dX11_kindOf_45 : decode cX11_kindOf 45 = .ok (.iload_n 2, 1) := by decide +kernel
theorem dX11_kindOf_46 : decode cX11_kindOf 46 = .ok (.invokevirtual 368, 3) := by decide +kernel
theorem dX11_kindOf_49 : decode cX11_kindOf 49 = .ok (.ireturn, 1) := by decide +kernel
theorem dX11_kindOf_50 : decode cX11_kindOf 50 = .ok (.iconst (-1), 1) := by decide +kernel
theorem dX11_kindOf_51 : decode cX11_kindOf 51 = .ok (.ireturn, 1) := by decide +kernel
theorem dX11_kindOfRing_0 : decode cX11_kindOfRing 0 = .ok (.iload_n 1, 1) := by decide +kernel
theorem dX11_kindOfRing_1 : decode cX11_kindOfRing 1 = .ok (.invokestatic 181, 3) := by decide +kernel
theorem dX11_kindOfRing_4 : decode cX11_kindOfRing 4 = .ok (.ifCond .eq 10, 3) := by decide +kernel
theorem dX11_kindOfRing_7 : decode cX11_kindOfRing 7 = .ok (.iload_n 2, 1) := by decide +kernel
theorem dX11_kindOfRing_8 : decode cX11_kindOfRing 8 = .ok (.invokestatic 225, 3) := by decide +kernel
theorem dX11_kindOfRing_11 : decode cX11_kindOfRing 11 = .ok (.ifCond .ne 5, 3) := by decide +kernel
theorem dX11_kindOfRing_14 : decode cX11_kindOfRing 14 = .ok (.iconst (-1), 1) := by decide +kernel
theorem dX11_kindOfRing_15 : decode cX11_kindOfRing 15 = .ok (.ireturn, 1) := by decide +kernel
theorem dX11_kindOfRing_16 : decode cX11_kindOfRing 16 = .ok (.aload_n 0, 1) := by decide +kernel
theorem dX11_kindOfRing_17 : decode cX11_kindOfRing 17 = .ok (.getfield 23, 3) := by decide +kernel
theorem dX11_kindOfRing_20 : decode cX11_kindOfRing 20 = .ok (.iload_n 1, 1) := by decide +kernel
theorem dX11_kindOfRing_21 : decode cX11_kindOfRing 21 = .ok (.aaload, 1) := by decide +kernel
theorem dX11_kindOfRing_22 : decode cX11_kindOfRing 22 = .ok (.getfield 206, 3) := by decide +kernel
theorem dX11_kindOfRing_25 : decode cX11_kindOfRing 25 = .ok (.ifCond .ne 9, 3) := by decide +kernel
theorem dX11_kindOfRing_28 : decode cX11_kindOfRing 28 = .ok (.aload_n 0, 1) := by decide +kernel
theorem dX11_kindOfRing_29 : decode cX11_kindOfRing 29 = .ok (.iconst 1, 1) := by decide +kernel
theorem dX11_kindOfRing_30 : decode cX11_kindOfRing 30 = .ok (.invokevirtual 129, 3) := by decide +kernel
theorem dX11_kindOfRing_33 : decode cX11_kindOfRing 33 = .ok (.ireturn, 1) := by decide +kernel
theorem dX11_kindOfRing_34 : decode cX11_kindOfRing 34 = .ok (.aload_n 0, 1) := by decide +kernel
theorem dX11_kindOfRing_35 : decode cX11_kindOfRing 35 = .ok (.getfield 23, 3) := by decide +kernel
theorem dX11_kindOfRing_38 : decode cX11_kindOfRing 38 = .ok (.iload_n 1, 1) := by decide +kernel
theorem dX11_kindOfRing_39 : decode cX11_kindOfRing 39 = .ok (.aaload, 1) := by decide +kernel
theorem dX11_kindOfRing_40 : decode cX11_kindOfRing 40 = .ok (.iload_n 2, 1) := by decide +kernel
theorem dX11_kindOfRing_41 : decode cX11_kindOfRing 41 = .ok (.invokevirtual 207, 3) := by decide +kernel
theorem dX11_kindOfRing_44 : decode cX11_kindOfRing 44 = .ok (.ifCond .ne 9, 3) := by decide +kernel
theorem dX11_kindOfRing_47 : decode cX11_kindOfRing 47 = .ok (.aload_n 0, 1) := by decide +kernel
theorem dX11_kindOfRing_48 : decode cX11_kindOfRing 48 = .ok (.iconst 2, 1) := by decide +kernel
theorem dX11_kindOfRing_49 : decode cX11_kindOfRing 49 = .ok (.invokevirtual 129, 3) := by decide +kernel
theorem dX11_kindOfRing_52 : decode cX11_kindOfRing 52 = .ok (.ireturn, 1) := by decide +kernel
theorem dX11_kindOfRing_53 : decode cX11_kindOfRing 53 = .ok (.aload_n 0, 1) := by decide +kernel
theorem dX11_kindOfRing_54 : decode cX11_kindOfRing 54 = .ok (.aload_n 0, 1) := by decide +kernel
theorem dX11_kindOfRing_55 : decode cX11_kindOfRing 55 = .ok (.getfield 23, 3) := by decide +kernel
theorem dX11_kindOfRing_58 : decode cX11_kindOfRing 58 = .ok (.iload_n 1, 1) := by decide +kernel
theorem dX11_kindOfRing_59 : decode cX11_kindOfRing 59 = .ok (.aaload, 1) := by decide +kernel
theorem dX11_kindOfRing_60 : decode cX11_kindOfRing 60 = .ok (.iload_n 2, 1) := by decide +kernel
theorem dX11_kindOfRing_61 : decode cX11_kindOfRing 61 = .ok (.invokevirtual 300, 3) := by decide +kernel
theorem dX11_kindOfRing_64 : decode cX11_kindOfRing 64 = .ok (.aload_n 0, 1) := by decide +kernel
theorem dX11_kindOfRing_65 : decode cX11_kindOfRing 65 = .ok (.getfield 86, 3) := by decide +kernel
theorem dX11_kindOfRing_68 : decode cX11_kindOfRing 68 = .ok (.invokevirtual 290, 3) := by decide +kernel
theorem dX11_kindOfRing_71 : decode cX11_kindOfRing 71 = .ok (.ifCond .ne 9, 3) := by decide +kernel
theorem dX11_kindOfRing_74 : decode cX11_kindOfRing 74 = .ok (.aload_n 0, 1) := by decide +kernel
theorem dX11_kindOfRing_75 : decode cX11_kindOfRing 75 = .ok (.iconst 4, 1) := by decide +kernel
theorem dX11_kindOfRing_76 : decode cX11_kindOfRing 76 = .ok (.invokevirtual 129, 3) := by decide +kernel
theorem dX11_kindOfRing_79 : decode cX11_kindOfRing 79 = .ok (.ireturn, 1) := by decide +kernel
theorem dX11_kindOfRing_80 : decode cX11_kindOfRing 80 = .ok (.aload_n 0, 1) := by decide +kernel
theorem dX11_kindOfRing_81 : decode cX11_kindOfRing 81 = .ok (.getfield 86, 3) := by decide +kernel
theorem dX11_kindOfRing_84 : decode cX11_kindOfRing 84 = .ok (.invokevirtual 323, 3) := by decide +kernel
theorem dX11_kindOfRing_87 : decode cX11_kindOfRing 87 = .ok (.sipush 300, 3) := by decide +kernel
theorem dX11_kindOfRing_90 : decode cX11_kindOfRing 90 = .ok (.if_icmp .gt 7, 3) := by decide +kernel
theorem dX11_kindOfRing_93 : decode cX11_kindOfRing 93 = .ok (.iconst 5, 1) := by decide +kernel
