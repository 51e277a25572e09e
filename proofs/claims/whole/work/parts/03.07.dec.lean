theorem dX12_layPull_41 : decode cX12_layPull 41 = .ok (.iconst 3, 1) := by decide +kernel
theorem dX12_layPull_42 : decode cX12_layPull 42 = .ok (.iadd, 1) := by decide +kernel
theorem dX12_layPull_43 : decode cX12_layPull 43 = .ok (.iload 5, 2) := by decide +kernel
theorem dX12_layPull_45 : decode cX12_layPull 45 = .ok (.invokevirtual 160, 3) := by decide +kernel
theorem dX12_layPull_48 : decode cX12_layPull 48 = .ok (.iconst 0, 1) := by decide +kernel
theorem dX12_layPull_49 : decode cX12_layPull 49 = .ok (.istore 6, 2) := by decide +kernel
theorem dX12_layPull_51 : decode cX12_layPull 51 = .ok (.iload 6, 2) := by decide +kernel
theorem dX12_layPull_53 : decode cX12_layPull 53 = .ok (.sipush 300, 3) := by decide +kernel
theorem dX12_layPull_56 : decode cX12_layPull 56 = .ok (.if_icmp .ge 13, 3) := by decide +kernel
theorem dX12_layPull_59 : decode cX12_layPull 59 = .ok (.aload_n 0, 1) := by decide +kernel
theorem dX12_layPull_60 : decode cX12_layPull 60 = .ok (.invokevirtual 220, 3) := by decide +kernel
theorem dX12_layPull_63 : decode cX12_layPull 63 = .ok (.iinc 6 1, 3) := by decide +kernel
theorem dX12_layPull_66 : decode cX12_layPull 66 = .ok (.goto (-15), 3) := by decide +kernel
theorem dX12_layPull_69 : decode cX12_layPull 69 = .ok (.aload_n 0, 1) := by decide +kernel
theorem dX12_layPull_70 : decode cX12_layPull 70 = .ok (.aload_n 0, 1) := by decide +kernel
theorem dX12_layPull_71 : decode cX12_layPull 71 = .ok (.iload_n 1, 1) := by decide +kernel
theorem dX12_layPull_72 : decode cX12_layPull 72 = .ok (.invokestatic 164, 3) := by decide +kernel
theorem dX12_layPull_75 : decode cX12_layPull 75 = .ok (.bipush 8, 2) := by decide +kernel
theorem dX12_layPull_77 : decode cX12_layPull 77 = .ok (.iadd, 1) := by decide +kernel
theorem dX12_layPull_78 : decode cX12_layPull 78 = .ok (.invokevirtual 183, 3) := by decide +kernel
theorem dX12_layPull_81 : decode cX12_layPull 81 = .ok (.putfield 317, 3) := by decide +kernel
theorem dX12_layPull_84 : decode cX12_layPull 84 = .ok (.aload_n 0, 1) := by decide +kernel
theorem dX12_layPull_85 : decode cX12_layPull 85 = .ok (.aload_n 0, 1) := by decide +kernel
theorem dX12_layPull_86 : decode cX12_layPull 86 = .ok (.iload_n 1, 1) := by decide +kernel
theorem dX12_layPull_87 : decode cX12_layPull 87 = .ok (.invokestatic 164, 3) := by decide +kernel
theorem dX12_layPull_90 : decode cX12_layPull 90 = .ok (.bipush 9, 2) := by decide +kernel
theorem dX12_layPull_92 : decode cX12_layPull 92 = .ok (.iadd, 1) := by decide +kernel
theorem dX12_layPull_93 : decode cX12_layPull 93 = .ok (.invokevirtual 183, 3) := by decide +kernel
theorem dX12_layPull_96 : decode cX12_layPull 96 = .ok (.putfield 320, 3) := by decide +kernel
theorem dX12_layPull_99 : decode cX12_layPull 99 = .ok (.return_, 1) := by decide +kernel
theorem dX12_needPull_0 : decode cX12_needPull 0 = .ok (.iload_n 1, 1) := by decide +kernel
theorem dX12_needPull_1 : decode cX12_needPull 1 = .ok (.invokestatic 154, 3) := by decide +kernel
theorem dX12_needPull_4 : decode cX12_needPull 4 = .ok (.ifCond .eq 17, 3) := by decide +kernel
theorem dX12_needPull_7 : decode cX12_needPull 7 = .ok (.iload_n 2, 1) := by decide +kernel
theorem dX12_needPull_8 : decode cX12_needPull 8 = .ok (.invokestatic 151, 3) := by decide +kernel
theorem dX12_needPull_11 : decode cX12_needPull 11 = .ok (.ifCond .eq 10, 3) := by decide +kernel
theorem dX12_needPull_14 : decode cX12_needPull 14 = .ok (.iload_n 3, 1) := by decide +kernel
theorem dX12_needPull_15 : decode cX12_needPull 15 = .ok (.invokestatic 151, 3) := by decide +kernel
theorem dX12_needPull_18 : decode cX12_needPull 18 = .ok (.ifCond .ne 5, 3) := by decide +kernel
theorem dX12_needPull_21 : decode cX12_needPull 21 = .ok (.iconst (-1), 1) := by decide +kernel
theorem dX12_needPull_22 : decode cX12_needPull 22 = .ok (.ireturn, 1) := by decide +kernel
theorem dX12_needPull_23 : decode cX12_needPull 23 = .ok (.aload_n 0, 1) := by decide +kernel
theorem dX12_needPull_24 : decode cX12_needPull 24 = .ok (.getfield 51, 3) := by decide +kernel
theorem dX12_needPull_27 : decode cX12_needPull 27 = .ok (.iload_n 1, 1) := by decide +kernel
theorem dX12_needPull_28 : decode cX12_needPull 28 = .ok (.baload, 1) := by decide +kernel
theorem dX12_needPull_29 : decode cX12_needPull 29 = .ok (.ifCond .ne 6, 3) := by decide +kernel
theorem dX12_needPull_32 : decode cX12_needPull 32 = .ok (.bipush (-4), 2) := by decide +kernel
theorem dX12_needPull_34 : decode cX12_needPull 34 = .ok (.ireturn, 1) := by decide +kernel
theorem dX12_needPull_35 : decode cX12_needPull 35 = .ok (.aload_n 0, 1) := by decide +kernel
theorem dX12_needPull_36 : decode cX12_needPull 36 = .ok (.getfield 29, 3) := by decide +kernel
theorem dX12_needPull_39 : decode cX12_needPull 39 = .ok (.iload_n 2, 1) := by decide +kernel
theorem dX12_needPull_40 : decode cX12_needPull 40 = .ok (.baload, 1) := by decide +kernel
theorem dX12_needPull_41 : decode cX12_needPull 41 = .ok (.ifCond .eq 12, 3) := by decide +kernel
theorem dX12_needPull_44 : decode cX12_needPull 44 = .ok (.aload_n 0, 1) := by decide +kernel
theorem dX12_needPull_45 : decode cX12_needPull 45 = .ok (.getfield 36, 3) := by decide +kernel
theorem dX12_needPull_48 : decode cX12_needPull 48 = .ok (.iload_n 3, 1) := by decide +kernel
theorem dX12_needPull_49 : decode cX12_needPull 49 = .ok (.baload, 1) := by decide +kernel
theorem dX12_needPull_50 : decode cX12_needPull 50 = .ok (.ifCond .ne 9, 3) := by decide +kernel
theorem dX12_needPull_53 : decode cX12_needPull 53 = .ok (.aload_n 0, 1) := by decide +kernel
theorem dX12_needPull_54 : decode cX12_needPull 54 = .ok (.iconst 1, 1) := by decide +kernel
theorem dX12_needPull_55 : decode cX12_needPull 55 = .ok (.invokevirtual 100, 3) := by decide +kernel
theorem dX12_needPull_58 : decode cX12_needPull 58 = .ok (.ireturn, 1) := by decide +kernel
theorem dX12_needPull_59 : decode cX12_needPull 59 = .ok (.iload 4, 2) := by decide +kernel
theorem dX12_needPull_61 : decode cX12_needPull 61 = .ok (.ifCond .eq 31, 3) := by decide +kernel
theorem dX12_needPull_64 : decode cX12_needPull 64 = .ok (.aload_n 0, 1) := by decide +kernel
theorem dX12_needPull_65 : decode cX12_needPull 65 = .ok (.getfield 54, 3) := by decide +kernel
theorem dX12_needPull_68 : decode cX12_needPull 68 = .ok (.iconst 5, 1) := by decide +kernel
theorem dX12_needPull_69 : decode cX12_needPull 69 = .ok (.iload_n 1, 1) := by decide +kernel
theorem dX12_needPull_70 : decode cX12_needPull 70 = .ok (.imul, 1) := by decide +kernel
theorem dX12_needPull_71 : decode cX12_needPull 71 = .ok (.iaload, 1) := by decide +kernel
theorem dX12_needPull_72 : decode cX12_needPull 72 = .ok (.aload_n 0, 1) := by decide +kernel
theorem dX12_needPull_73 : decode cX12_needPull 73 = .ok (.getfield 33, 3) := by decide +kernel
theorem dX12_needPull_76 : decode cX12_needPull 76 = .ok (.bipush 21, 2) := by decide +kernel
theorem dX12_needPull_78 : decode cX12_needPull 78 = .ok (.iload_n 2, 1) := by decide +kernel
theorem dX12_needPull_79 : decode cX12_needPull 79 = .ok (.imul, 1) := by decide +kernel
theorem dX12_needPull_80 : decode cX12_needPull 80 = .ok (.iaload, 1) := by decide +kernel
theorem dX12_needPull_81 : decode cX12_needPull 81 = .ok (.if_icmp .lt 11, 3) := by decide +kernel
theorem dX12_needPull_84 : decode cX12_needPull 84 = .ok (.aload_n 0, 1) := by decide +kernel
theorem dX12_needPull_85 : decode cX12_needPull 85 = .ok (.iconst 2, 1) := by decide +kernel
theorem dX12_needPull_86 : decode cX12_needPull 86 = .ok (.invokevirtual 100, 3) := by decide +kernel
theorem dX12_needPull_89 : decode cX12_needPull 89 = .ok (.goto 4, 3) := by decide +kernel
theorem dX12_needPull_92 : decode cX12_needPull 92 = .ok (.iconst 0, 1) := by decide +kernel
theorem dX12_needPull_93 : decode cX12_needPull 93 = .ok (.ireturn, 1) := by decide +kernel
theorem dX12_pull_0 : decode cX12_pull 0 = .ok (.aload_n 0, 1) := by decide +kernel
theorem dX12_pull_1 : decode cX12_pull 1 = .ok (.iload_n 1, 1) := by decide +kernel
theorem dX12_pull_2 : decode cX12_pull 2 = .ok (.iload_n 2, 1) := by decide +kernel
theorem dX12_pull_3 : decode cX12_pull 3 = .ok (.iload_n 3, 1) := by decide +kernel
theorem dX12_pull_4 : decode cX12_pull 4 = .ok (.iconst 1, 1) := by decide +kernel
theorem dX12_pull_5 : decode cX12_pull 5 = .ok (.invokevirtual 323, 3) := by decide +kernel
theorem dX12_pull_8 : decode cX12_pull 8 = .ok (.istore 4, 2) := by decide +kernel
theorem dX12_pull_10 : decode cX12_pull 10 = .ok (.iload 4, 2) := by decide +kernel
theorem dX12_pull_12 : decode cX12_pull 12 = .ok (.ifCond .ge 6, 3) := by decide +kernel
theorem dX12_pull_15 : decode cX12_pull 15 = .ok (.iload 4, 2) := by decide +kernel
theorem dX12_pull_17 : decode cX12_pull 17 = .ok (.ireturn, 1) := by decide +kernel
theorem dX12_pull_18 : decode cX12_pull 18 = .ok (.aload_n 0, 1) := by decide +kernel
theorem dX12_pull_19 : decode cX12_pull 19 = .ok (.iload_n 1, 1) := by decide +kernel
theorem dX12_pull_20 : decode cX12_pull 20 = .ok (.iload_n 2, 1) := by decide +kernel
theorem dX12_pull_21 : decode cX12_pull 21 = .ok (.iload_n 3, 1) := by decide +kernel
theorem dX12_pull_22 : decode cX12_pull 22 = .ok (.aload_n 0, 1) := by decide +kernel
theorem dX12_pull_23 : decode cX12_pull 23 = .ok (.getfield 54, 3) := by decide +kernel
theorem dX12_pull_26 : decode cX12_pull 26 = .ok (.iconst 5, 1) := by decide +kernel
theorem dX12_pull_27 : decode cX12_pull 27 = .ok (.iload_n 1, 1) := by decide +kernel
theorem dX12_pull_28 : decode cX12_pull 28 = .ok (.imul, 1) := by decide +kernel
theorem dX12_pull_29 : decode cX12_pull 29 = .ok (.iaload, 1) := by decide +kernel
theorem dX12_pull_30 : decode cX12_pull 30 = .ok (.aload_n 0, 1) := by decide +kernel
theorem dX12_pull_31 : decode cX12_pull 31 = .ok (.getfield 54, 3) := by decide +kernel
theorem dX12_pull_34 : decode cX12_pull 34 = .ok (.iconst 5, 1) := by decide +kernel
theorem dX12_pull_35 : decode cX12_pull 35 = .ok (.iload_n 1, 1) := by decide +kernel
theorem dX12_pull_36 : decode cX12_pull 36 = .ok (.imul, 1) := by decide +kernel
theorem dX12_pull_37 : decode cX12_pull 37 = .ok (.iconst 2, 1) := by decide +kernel
theorem dX12_pull_38 : decode cX12_pull 38 = .ok (.iadd, 1) := by decide +kernel
theorem dX12_pull_39 : decode cX12_pull 39 = .ok (.iaload, 1) := by decide +kernel
theorem dX12_pull_40 : decode cX12_pull 40 = .ok (.invokevirtual 327, 3) := by decide +kernel
theorem dX12_pull_43 : decode cX12_pull 43 = .ok (.aload_n 0, 1) := by decide +kernel
theorem dX12_pull_44 : decode cX12_pull 44 = .ok (.aload_n 0, 1) := by decide +kernel
theorem dX12_pull_45 : decode cX12_pull 45 = .ok (.getfield 320, 3) := by decide +kernel
theorem dX12_pull_48 : decode cX12_pull 48 = .ok (.aload_n 0, 1) := by decide +kernel
theorem dX12_pull_49 : decode cX12_pull 49 = .ok (.getfield 317, 3) := by decide +kernel
theorem dX12_pull_52 : decode cX12_pull 52 = .ok (.invokevirtual 108, 3) := by decide +kernel
theorem dX12_pull_55 : decode cX12_pull 55 = .ok (.ireturn, 1) := by decide +kernel
theorem dX12_tight_0 : decode cX12_tight 0 = .ok (.aload_n 0, 1) := by decide +kernel
theorem dX12_tight_1 : decode cX12_tight 1 = .ok (.iload_n 1, 1) := by decide +kernel
theorem dX12_tight_2 : decode cX12_tight 2 = .ok (.iload_n 2, 1) := by decide +kernel
theorem dX12_tight_3 : decode cX12_tight 3 = .ok (.iload_n 3, 1) := by decide +kernel
theorem dX12_tight_4 : decode cX12_tight 4 = .ok (.iconst 1, 1) := by decide +kernel
theorem dX12_tight_5 : decode cX12_tight 5 = .ok (.invokevirtual 323, 3) := by decide +kernel
theorem dX12_tight_8 : decode cX12_tight 8 = .ok (.istore 4, 2) := by decide +kernel
theorem dX12_tight_10 : decode cX12_tight 10 = .ok (.iload 4, 2) := by decide +kernel
theorem dX12_tight_12 : decode cX12_tight 12 = .ok (.ifCond .ge 6, 3) := by decide +kernel
theorem dX12_tight_15 : decode cX12_tight 15 = .ok (.iload 4, 2) := by decide +kernel
theorem dX12_tight_17 : decode cX12_tight 17 = .ok (.ireturn, 1) := by decide +kernel
theorem dX12_tight_18 : decode cX12_tight 18 = .ok (.bipush (-9), 2) := by decide +kernel
theorem dX12_tight_20 : decode cX12_tight 20 = .ok (.istore 5, 2) := by decide +kernel
theorem dX12_tight_22 : decode cX12_tight 22 = .ok (.iconst 0, 1) := by decide +kernel
theorem dX12_tight_23 : decode cX12_tight 23 = .ok (.istore 6, 2) := by decide +kernel
theorem dX12_tight_25 : decode cX12_tight 25 = .ok (.iconst 1, 1) := by decide +kernel
theorem dX12_tight_26 : decode cX12_tight 26 = .ok (.istore 7, 2) := by decide +kernel
theorem dX12_tight_28 : decode cX12_tight 28 = .ok (.iload 7, 2) := by decide +kernel
theorem dX12_tight_30 : decode cX12_tight 30 = .ok (.bipush 9, 2) := by decide +kernel
theorem dX12_tight_32 : decode cX12_tight 32 = .ok (.if_icmp .gt 52, 3) := by decide +kernel
theorem dX12_tight_35 : decode cX12_tight 35 = .ok (.aload_n 0, 1) := by decide +kernel
theorem dX12_tight_36 : decode cX12_tight 36 = .ok (.iload_n 1, 1) := by decide +kernel
theorem dX12_tight_37 : decode cX12_tight 37 = .ok (.iload_n 2, 1) := by decide +kernel
theorem dX12_tight_38 : decode cX12_tight 38 = .ok (.iload_n 3, 1) := by decide +kernel
theorem dX12_tight_39 : decode cX12_tight 39 = .ok (.aload_n 0, 1) := by decide +kernel
theorem dX12_tight_40 : decode cX12_tight 40 = .ok (.getfield 54, 3) := by decide +kernel
theorem dX12_tight_43 : decode cX12_tight 43 = .ok (.iconst 5, 1) := by decide +kernel
theorem dX12_tight_44 : decode cX12_tight 44 = .ok (.iload_n 1, 1) := by decide +kernel
theorem dX12_tight_45 : decode cX12_tight 45 = .ok (.imul, 1) := by decide +kernel
theorem dX12_tight_46 : decode cX12_tight 46 = .ok (.iaload, 1) := by decide +kernel
theorem dX12_tight_47 : decode cX12_tight 47 = .ok (.iload 7, 2) := by decide +kernel
theorem dX12_tight_49 : decode cX12_tight 49 = .ok (.invokevirtual 327, 3) := by decide +kernel
theorem dX12_tight_52 : decode cX12_tight 52 = .ok (.iload 5, 2) := by decide +kernel
theorem dX12_tight_54 : decode cX12_tight 54 = .ok (.bipush (-9), 2) := by decide +kernel
theorem dX12_tight_56 : decode cX12_tight 56 = .ok (.if_icmp .eq 12, 3) := by decide +kernel
theorem dX12_tight_59 : decode cX12_tight 59 = .ok (.aload_n 0, 1) := by decide +kernel
theorem dX12_tight_60 : decode cX12_tight 60 = .ok (.getfield 317, 3) := by decide +kernel
theorem dX12_tight_63 : decode cX12_tight 63 = .ok (.iload 6, 2) := by decide +kernel
theorem dX12_tight_65 : decode cX12_tight 65 = .ok (.if_icmp .ge 13, 3) := by decide +kernel
theorem dX12_tight_68 : decode cX12_tight 68 = .ok (.iload 7, 2) := by decide +kernel
theorem dX12_tight_70 : decode cX12_tight 70 = .ok (.istore 5, 2) := by decide +kernel
theorem dX12_tight_72 : decode cX12_tight 72 = .ok (.aload_n 0, 1) := by decide +kernel
theorem dX12_tight_73 : decode cX12_tight 73 = .ok (.getfield 317, 3) := by decide +kernel
theorem dX12_tight_76 : decode cX12_tight 76 = .ok (.istore 6, 2) := by decide +kernel
theorem dX12_tight_78 : decode cX12_tight 78 = .ok (.iinc 7 1, 3) := by decide +kernel
theorem dX12_tight_81 : decode cX12_tight 81 = .ok (.goto (-53), 3) := by decide +kernel
theorem dX12_tight_84 : decode cX12_tight 84 = .ok (.aload_n 0, 1) := by decide +kernel
theorem dX12_tight_85 : decode cX12_tight 85 = .ok (.iload 6, 2) := by decide +kernel
theorem dX12_tight_87 : decode cX12_tight 87 = .ok (.iload 5, 2) := by decide +kernel
theorem dX12_tight_89 : decode cX12_tight 89 = .ok (.invokevirtual 108, 3) := by decide +kernel
theorem dX12_tight_92 : decode cX12_tight 92 = .ok (.ireturn, 1) := by decide +kernel
theorem dX12_where_0 : decode cX12_where 0 = .ok (.aload_n 0, 1) := by decide +kernel
theorem dX12_where_1 : decode cX12_where 1 = .ok (.iload_n 1, 1) := by decide +kernel
theorem dX12_where_2 : decode cX12_where 2 = .ok (.iload_n 2, 1) := by decide +kernel
theorem dX12_where_3 : decode cX12_where 3 = .ok (.iload_n 3, 1) := by decide +kernel
theorem dX12_where_4 : decode cX12_where 4 = .ok (.iconst 0, 1) := by decide +kernel
theorem dX12_where_5 : decode cX12_where 5 = .ok (.invokevirtual 323, 3) := by decide +kernel
theorem dX12_where_8 : decode cX12_where 8 = .ok (.istore 4, 2) := by decide +kernel
theorem dX12_where_10 : decode cX12_where 10 = .ok (.iload 4, 2) := by decide +kernel
theorem dX12_where_12 : decode cX12_where 12 = .ok (.ifCond .ge 6, 3) := by decide +kernel
theorem dX12_where_15 : decode cX12_where 15 = .ok (.iload 4, 2) := by decide +kernel
theorem dX12_where_17 : decode cX12_where 17 = .ok (.ireturn, 1) := by decide +kernel
theorem dX12_where_18 : decode cX12_where 18 = .ok (.bipush (-9), 2) := by decide +kernel
theorem dX12_where_20 : decode cX12_where 20 = .ok (.istore 5, 2) := by decide +kernel
theorem dX12_where_22 : decode cX12_where 22 = .ok (.iconst 0, 1) := by decide +kernel
theorem dX12_where_23 : decode cX12_where 23 = .ok (.istore 6, 2) := by decide +kernel
theorem dX12_where_25 : decode cX12_where 25 = .ok (.iconst 0, 1) := by decide +kernel
theorem dX12_where_26 : decode cX12_where 26 = .ok (.istore 7, 2) := by decide +kernel
theorem dX12_where_28 : decode cX12_where 28 = .ok (.iload 7, 2) := by decide +kernel
theorem dX12_where_30 : decode cX12_where 30 = .ok (.aload_n 0, 1) := by decide +kernel
theorem dX12_where_31 : decode cX12_where 31 = .ok (.getfield 33, 3) := by decide +kernel
theorem dX12_where_34 : decode cX12_where 34 = .ok (.bipush 21, 2) := by decide +kernel
theorem dX12_where_36 : decode cX12_where 36 = .ok (.iload_n 2, 1) := by decide +kernel
theorem dX12_where_37 : decode cX12_where 37 = .ok (.imul, 1) := by decide +kernel
theorem dX12_where_38 : decode cX12_where 38 = .ok (.iaload, 1) := by decide +kernel
theorem dX12_where_39 : decode cX12_where 39 = .ok (.if_icmp .ge 54, 3) := by decide +kernel
theorem dX12_where_42 : decode cX12_where 42 = .ok (.aload_n 0, 1) := by decide +kernel
theorem dX12_where_43 : decode cX12_where 43 = .ok (.iload_n 1, 1) := by decide +kernel
theorem dX12_where_44 : decode cX12_where 44 = .ok (.iload_n 2, 1) := by decide +kernel
theorem dX12_where_45 : decode cX12_where 45 = .ok (.iload_n 3, 1) := by decide +kernel
theorem dX12_where_46 : decode cX12_where 46 = .ok (.iload 7, 2) := by decide +kernel
theorem dX12_where_48 : decode cX12_where 48 = .ok (.aload_n 0, 1) := by decide +kernel
theorem dX12_where_49 : decode cX12_where 49 = .ok (.getfield 54, 3) := by decide +kernel
theorem dX12_where_52 : decode cX12_where 52 = .ok (.iconst 5, 1) := by decide +kernel
theorem dX12_where_53 : decode cX12_where 53 = .ok (.iload_n 1, 1) := by decide +kernel
theorem dX12_where_54 : decode cX12_where 54 = .ok (.imul, 1) := by decide +kernel
theorem dX12_where_55 : decode cX12_where 55 = .ok (.iconst 2, 1) := by decide +kernel
theorem dX12_where_56 : decode cX12_where 56 = .ok (.iadd, 1) := by decide +kernel
theorem dX12_where_57 : decode cX12_where 57 = .ok (.iaload, 1) := by decide +kernel
theorem dX12_where_58 : decode cX12_where 58 = .ok (.invokevirtual 327, 3) := by decide +kernel
theorem dX12_where_61 : decode cX12_where 61 = .ok (.iload 5, 2) := by decide +kernel
theorem dX12_where_63 : decode cX12_where 63 = .ok (.bipush (-9), 2) := by decide +kernel
theorem dX12_where_65 : decode cX12_where 65 = .ok (.if_icmp .eq 12, 3) := by decide +kernel
theorem dX12_where_68 : decode cX12_where 68 = .ok (.aload_n 0, 1) := by decide +kernel
theorem dX12_where_69 : decode cX12_where 69 = .ok (.getfield 317, 3) := by decide +kernel
theorem dX12_where_72 : decode cX12_where 72 = .ok (.iload 6, 2) := by decide +kernel
theorem dX12_where_74 : decode cX12_where 74 = .ok (.if_icmp .ge 13, 3) := by decide +kernel
theorem dX12_where_77 : decode cX12_where 77 = .ok (.iload 7, 2) := by decide +kernel
theorem dX12_where_79 : decode cX12_where 79 = .ok (.istore 5, 2) := by decide +kernel
theorem dX12_where_81 : decode cX12_where 81 = .ok (.aload_n 0, 1) := by decide +kernel
theorem dX12_where_82 : decode cX12_where 82 = .ok (.getfield 317, 3) := by decide +kernel
theorem dX12_where_85 : decode cX12_where 85 = .ok (.istore 6, 2) := by decide +kernel
theorem dX12_where_87 : decode cX12_where 87 = .ok (.iinc 7 1, 3) := by decide +kernel
theorem dX12_where_90 : decode cX12_where 90 = .ok (.goto (-62), 3) := by decide +kernel
theorem dX12_where_93 : decode cX12_where 93 = .ok (.aload_n 0, 1) := by decide +kernel
theorem dX12_where_94 : decode cX12_where 94 = .ok (.iload 6, 2) := by decide +kernel
theorem dX12_where_96 : decode cX12_where 96 = .ok (.iload 5, 2) := by decide +kernel
theorem dX12_where_98 : decode cX12_where 98 = .ok (.invokevirtual 108, 3) := by decide +kernel
theorem dX12_where_101 : decode cX12_where 101 = .ok (.ireturn, 1) := by decide +kernel
theorem dX12_tonight_0 : decode cX12_tonight 0 = .ok (.iload_n 1, 1) := by decide +kernel
theorem dX12_tonight_1 : decode cX12_tonight 1 = .ok (.invokestatic 151, 3) := by decide +kernel
theorem dX12_tonight_4 : decode cX12_tonight 4 = .ok (.ifCond .eq 17, 3) := by decide +kernel
theorem dX12_tonight_7 : decode cX12_tonight 7 = .ok (.iload_n 2, 1) := by decide +kernel
theorem dX12_tonight_8 : decode cX12_tonight 8 = .ok (.invokestatic 151, 3) := by decide +kernel
theorem dX12_tonight_11 : decode cX12_tonight 11 = .ok (.ifCond .eq 10, 3) := by decide +kernel
theorem dX12_tonight_14 : decode cX12_tonight 14 = .ok (.iload_n 3, 1) := by decide +kernel
theorem dX12_tonight_15 : decode cX12_tonight 15 = .ok (.invokestatic 96, 3) := by decide +kernel
theorem dX12_tonight_18 : decode cX12_tonight 18 = .ok (.ifCond .ne 5, 3) := by decide +kernel
theorem dX12_tonight_21 : decode cX12_tonight 21 = .ok (.iconst (-1), 1) := by decide +kernel
theorem dX12_tonight_22 : decode cX12_tonight 22 = .ok (.ireturn, 1) := by decide +kernel
theorem dX12_tonight_23 : decode cX12_tonight 23 = .ok (.aload_n 0, 1) := by decide +kernel
theorem dX12_tonight_24 : decode cX12_tonight 24 = .ok (.getfield 29, 3) := by decide +kernel
theorem dX12_tonight_27 : decode cX12_tonight 27 = .ok (.iload_n 1, 1) := by decide +kernel
theorem dX12_tonight_28 : decode cX12_tonight 28 = .ok (.baload, 1) := by decide +kernel
theorem dX12_tonight_29 : decode cX12_tonight 29 = .ok (.ifCond .eq 12, 3) := by decide +kernel
theorem dX12_tonight_32 : decode cX12_tonight 32 = .ok (.aload_n 0, 1) := by decide +kernel
theorem dX12_tonight_33 : decode cX12_tonight 33 = .ok (.getfield 36, 3) := by decide +kernel
theorem dX12_tonight_36 : decode cX12_tonight 36 = .ok (.iload_n 2, 1) := by decide +kernel
theorem dX12_tonight_37 : decode cX12_tonight 37 = .ok (.baload, 1) := by decide +kernel
theorem dX12_tonight_38 : decode cX12_tonight 38 = .ok (.ifCond .ne 9, 3) := by decide +kernel
theorem dX12_tonight_41 : decode cX12_tonight 41 = .ok (.aload_n 0, 1) := by decide +kernel
theorem dX12_tonight_42 : decode cX12_tonight 42 = .ok (.iconst 1, 1) := by decide +kernel
theorem dX12_tonight_43 : decode cX12_tonight 43 = .ok (.invokevirtual 100, 3) := by decide +kernel
theorem dX12_tonight_46 : decode cX12_tonight 46 = .ok (.ireturn, 1) := by decide +kernel
theorem dX12_tonight_47 : decode cX12_tonight 47 = .ok (.aload_n 0, 1) := by decide +kernel
theorem dX12_tonight_48 : decode cX12_tonight 48 = .ok (.getfield 51, 3) := by decide +kernel
theorem dX12_tonight_51 : decode cX12_tonight 51 = .ok (.iconst 0, 1) := by decide +kernel
theorem dX12_tonight_52 : decode cX12_tonight 52 = .ok (.baload, 1) := by decide +kernel
theorem dX12_tonight_53 : decode cX12_tonight 53 = .ok (.ifCond .ne 24, 3) := by decide +kernel
theorem dX12_tonight_56 : decode cX12_tonight 56 = .ok (.aload_n 0, 1) := by decide +kernel
theorem dX12_tonight_57 : decode cX12_tonight 57 = .ok (.getfield 51, 3) := by decide +kernel
theorem dX12_tonight_60 : decode cX12_tonight 60 = .ok (.iconst 1, 1) := by decide +kernel
theorem dX12_tonight_61 : decode cX12_tonight 61 = .ok (.baload, 1) := by decide +kernel
theorem dX12_tonight_62 : decode cX12_tonight 62 = .ok (.ifCond .ne 15, 3) := by decide +kernel
theorem dX12_tonight_65 : decode cX12_tonight 65 = .ok (.aload_n 0, 1) := by decide +kernel
theorem dX12_tonight_66 : decode cX12_tonight 66 = .ok (.getfield 51, 3) := by decide +kernel
theorem dX12_tonight_69 : decode cX12_tonight 69 = .ok (.iconst 2, 1) := by decide +kernel
theorem dX12_tonight_70 : decode cX12_tonight 70 = .ok (.baload, 1) := by decide +kernel
theorem dX12_tonight_71 : decode cX12_tonight 71 = .ok (.ifCond .ne 6, 3) := by decide +kernel
theorem dX12_tonight_74 : decode cX12_tonight 74 = .ok (.bipush (-4), 2) := by decide +kernel
theorem dX12_tonight_76 : decode cX12_tonight 76 = .ok (.ireturn, 1) := by decide +kernel
theorem dX12_tonight_77 : decode cX12_tonight 77 = .ok (.aload_n 0, 1) := by decide +kernel
theorem dX12_tonight_78 : decode cX12_tonight 78 = .ok (.getfield 33, 3) := by decide +kernel
theorem dX12_tonight_81 : decode cX12_tonight 81 = .ok (.bipush 21, 2) := by decide +kernel
theorem dX12_tonight_83 : decode cX12_tonight 83 = .ok (.iload_n 1, 1) := by decide +kernel
theorem dX12_tonight_84 : decode cX12_tonight 84 = .ok (.imul, 1) := by decide +kernel
theorem dX12_tonight_85 : decode cX12_tonight 85 = .ok (.iaload, 1) := by decide +kernel
theorem dX12_tonight_86 : decode cX12_tonight 86 = .ok (.istore 4, 2) := by decide +kernel
theorem dX12_tonight_88 : decode cX12_tonight 88 = .ok (.iconst 0, 1) := by decide +kernel
theorem dX12_tonight_89 : decode cX12_tonight 89 = .ok (.istore 5, 2) := by decide +kernel
theorem dX12_tonight_91 : decode cX12_tonight 91 = .ok (.iload 5, 2) := by decide +kernel
theorem dX12_tonight_93 : decode cX12_tonight 93 = .ok (.iconst 3, 1) := by decide +kernel
theorem dX12_tonight_94 : decode cX12_tonight 94 = .ok (.if_icmp .ge 100, 3) := by decide +kernel
theorem dX12_tonight_97 : decode cX12_tonight 97 = .ok (.iconst 0, 1) := by decide +kernel
theorem dX12_tonight_98 : decode cX12_tonight 98 = .ok (.istore 6, 2) := by decide +kernel
theorem dX12_tonight_100 : decode cX12_tonight 100 = .ok (.iload 6, 2) := by decide +kernel
theorem dX12_tonight_102 : decode cX12_tonight 102 = .ok (.iload 4, 2) := by decide +kernel
theorem dX12_tonight_104 : decode cX12_tonight 104 = .ok (.if_icmp .ge 84, 3) := by decide +kernel
theorem dX12_tonight_107 : decode cX12_tonight 107 = .ok (.aload_n 0, 1) := by decide +kernel
theorem dX12_tonight_108 : decode cX12_tonight 108 = .ok (.getfield 51, 3) := by decide +kernel
theorem dX12_tonight_111 : decode cX12_tonight 111 = .ok (.iload 5, 2) := by decide +kernel
theorem dX12_tonight_113 : decode cX12_tonight 113 = .ok (.baload, 1) := by decide +kernel
theorem dX12_tonight_114 : decode cX12_tonight 114 = .ok (.ifCond .eq 74, 3) := by decide +kernel
theorem dX12_tonight_117 : decode cX12_tonight 117 = .ok (.aload_n 0, 1) := by decide +kernel
theorem dX12_tonight_118 : decode cX12_tonight 118 = .ok (.iload 5, 2) := by decide +kernel
theorem dX12_tonight_120 : decode cX12_tonight 120 = .ok (.iload_n 1, 1) := by decide +kernel
theorem dX12_tonight_121 : decode cX12_tonight 121 = .ok (.iload_n 2, 1) := by decide +kernel
theorem dX12_tonight_122 : decode cX12_tonight 122 = .ok (.iload 6, 2) := by decide +kernel
theorem dX12_tonight_124 : decode cX12_tonight 124 = .ok (.aload_n 0, 1) := by decide +kernel
theorem dX12_tonight_125 : decode cX12_tonight 125 = .ok (.getfield 54, 3) := by decide +kernel
theorem dX12_tonight_128 : decode cX12_tonight 128 = .ok (.iconst 5, 1) := by decide +kernel
theorem dX12_tonight_129 : decode cX12_tonight 129 = .ok (.iload 5, 2) := by decide +kernel
theorem dX12_tonight_131 : decode cX12_tonight 131 = .ok (.imul, 1) := by decide +kernel
theorem dX12_tonight_132 : decode cX12_tonight 132 = .ok (.iconst 2, 1) := by decide +kernel
theorem dX12_tonight_133 : decode cX12_tonight 133 = .ok (.iadd, 1) := by decide +kernel
theorem dX12_tonight_134 : decode cX12_tonight 134 = .ok (.iaload, 1) := by decide +kernel
theorem dX12_tonight_135 : decode cX12_tonight 135 = .ok (.invokevirtual 327, 3) := by decide +kernel
theorem dX12_tonight_138 : decode cX12_tonight 138 = .ok (.aload_n 0, 1) := by decide +kernel
theorem dX12_tonight_139 : decode cX12_tonight 139 = .ok (.getfield 66, 3) := by decide +kernel
theorem dX12_tonight_142 : decode cX12_tonight 142 = .ok (.bipush 16, 2) := by decide +kernel
theorem dX12_tonight_144 : decode cX12_tonight 144 = .ok (.iload 5, 2) := by decide +kernel
theorem dX12_tonight_146 : decode cX12_tonight 146 = .ok (.imul, 1) := by decide +kernel
theorem dX12_tonight_147 : decode cX12_tonight 147 = .ok (.iload 6, 2) := by decide +kernel
theorem dX12_tonight_149 : decode cX12_tonight 149 = .ok (.iadd, 1) := by decide +kernel
theorem dX12_tonight_150 : decode cX12_tonight 150 = .ok (.aload_n 0, 1) := by decide +kernel
theorem dX12_tonight_151 : decode cX12_tonight 151 = .ok (.getfield 317, 3) := by decide +kernel
theorem dX12_tonight_154 : decode cX12_tonight 154 = .ok (.iastore, 1) := by decide +kernel
theorem dX12_tonight_155 : decode cX12_tonight 155 = .ok (.aload_n 0, 1) := by decide +kernel
theorem dX12_tonight_156 : decode cX12_tonight 156 = .ok (.getfield 69, 3) := by decide +kernel
theorem dX12_tonight_159 : decode cX12_tonight 159 = .ok (.bipush 16, 2) := by decide +kernel
theorem dX12_tonight_161 : decode cX12_tonight 161 = .ok (.iload 5, 2) := by decide +kernel
theorem dX12_tonight_163 : decode cX12_tonight 163 = .ok (.imul, 1) := by decide +kernel
theorem dX12_tonight_164 : decode cX12_tonight 164 = .ok (.iload 6, 2) := by decide +kernel
theorem dX12_tonight_166 : decode cX12_tonight 166 = .ok (.iadd, 1) := by decide +kernel
theorem dX12_tonight_167 : decode cX12_tonight 167 = .ok (.aload_n 0, 1) := by decide +kernel
theorem dX12_tonight_168 : decode cX12_tonight 168 = .ok (.getfield 320, 3) := by decide +kernel
theorem dX12_tonight_171 : decode cX12_tonight 171 = .ok (.bipush (-9), 2) := by decide +kernel
theorem dX12_tonight_173 : decode cX12_tonight 173 = .ok (.if_icmp .eq 7, 3) := by decide +kernel
theorem dX12_tonight_176 : decode cX12_tonight 176 = .ok (.iconst 1, 1) := by decide +kernel
theorem dX12_tonight_177 : decode cX12_tonight 177 = .ok (.goto 4, 3) := by decide +kernel
theorem dX12_tonight_180 : decode cX12_tonight 180 = .ok (.iconst 0, 1) := by decide +kernel
theorem dX12_tonight_181 : decode cX12_tonight 181 = .ok (.bastore, 1) := by decide +kernel
theorem dX12_tonight_182 : decode cX12_tonight 182 = .ok (.iinc 6 1, 3) := by decide +kernel
theorem dX12_tonight_185 : decode cX12_tonight 185 = .ok (.goto (-85), 3) := by decide +kernel
theorem dX12_tonight_188 : decode cX12_tonight 188 = .ok (.iinc 5 1, 3) := by decide +kernel
theorem dX12_tonight_191 : decode cX12_tonight 191 = .ok (.goto (-100), 3) := by decide +kernel
theorem dX12_tonight_194 : decode cX12_tonight 194 = .ok (.aload_n 0, 1) := by decide +kernel
theorem dX12_tonight_195 : decode cX12_tonight 195 = .ok (.iload 4, 2) := by decide +kernel
theorem dX12_tonight_197 : decode cX12_tonight 197 = .ok (.iload_n 3, 1) := by decide +kernel
theorem dX12_tonight_198 : decode cX12_tonight 198 = .ok (.invokevirtual 331, 3) := by decide +kernel
theorem dX12_tonight_201 : decode cX12_tonight 201 = .ok (.ireturn, 1) := by decide +kernel
theorem dX12_lie_0 : decode cX12_lie 0 = .ok (.bipush (-9), 2) := by decide +kernel
theorem dX12_lie_2 : decode cX12_lie 2 = .ok (.istore_n 3, 1) := by decide +kernel
theorem dX12_lie_3 : decode cX12_lie 3 = .ok (.iconst 0, 1) := by decide +kernel
theorem dX12_lie_4 : decode cX12_lie 4 = .ok (.istore 4, 2) := by decide +kernel
theorem dX12_lie_6 : decode cX12_lie 6 = .ok (.iconst 0, 1) := by decide +kernel
theorem dX12_lie_7 : decode cX12_lie 7 = .ok (.istore 5, 2) := by decide +kernel
theorem dX12_lie_9 : decode cX12_lie 9 = .ok (.iconst 0, 1) := by decide +kernel
theorem dX12_lie_10 : decode cX12_lie 10 = .ok (.istore 6, 2) := by decide +kernel
theorem dX12_lie_12 : decode cX12_lie 12 = .ok (.iload 6, 2) := by decide +kernel
theorem dX12_lie_14 : decode cX12_lie 14 = .ok (.iload_n 1, 1) := by decide +kernel
theorem dX12_lie_15 : decode cX12_lie 15 = .ok (.iload_n 1, 1) := by decide +kernel
theorem dX12_lie_16 : decode cX12_lie 16 = .ok (.imul, 1) := by decide +kernel
theorem dX12_lie_17 : decode cX12_lie 17 = .ok (.iload_n 1, 1) := by decide +kernel
theorem dX12_lie_18 : decode cX12_lie 18 = .ok (.imul, 1) := by decide +kernel
theorem dX12_lie_19 : decode cX12_lie 19 = .ok (.if_icmp .ge 187, 3) := by decide +kernel
theorem dX12_lie_22 : decode cX12_lie 22 = .ok (.aload_n 0, 1) := by decide +kernel
theorem dX12_lie_23 : decode cX12_lie 23 = .ok (.getfield 72, 3) := by decide +kernel
theorem dX12_lie_26 : decode cX12_lie 26 = .ok (.iconst 0, 1) := by decide +kernel
theorem dX12_lie_27 : decode cX12_lie 27 = .ok (.iload 6, 2) := by decide +kernel
theorem dX12_lie_29 : decode cX12_lie 29 = .ok (.iload_n 1, 1) := by decide +kernel
theorem dX12_lie_30 : decode cX12_lie 30 = .ok (.iload_n 1, 1) := by decide +kernel
theorem dX12_lie_31 : decode cX12_lie 31 = .ok (.imul, 1) := by decide +kernel
theorem dX12_lie_32 : decode cX12_lie 32 = .ok (.idiv, 1) := by decide +kernel
theorem dX12_lie_33 : decode cX12_lie 33 = .ok (.iastore, 1) := by decide +kernel
theorem dX12_lie_34 : decode cX12_lie 34 = .ok (.aload_n 0, 1) := by decide +kernel
theorem dX12_lie_35 : decode cX12_lie 35 = .ok (.getfield 72, 3) := by decide +kernel
theorem dX12_lie_38 : decode cX12_lie 38 = .ok (.iconst 1, 1) := by decide +kernel
theorem dX12_lie_39 : decode cX12_lie 39 = .ok (.iload 6, 2) := by decide +kernel
theorem dX12_lie_41 : decode cX12_lie 41 = .ok (.iload_n 1, 1) := by decide +kernel
theorem dX12_lie_42 : decode cX12_lie 42 = .ok (.idiv, 1) := by decide +kernel
theorem dX12_lie_43 : decode cX12_lie 43 = .ok (.iload_n 1, 1) := by decide +kernel
theorem dX12_lie_44 : decode cX12_lie 44 = .ok (.irem, 1) := by decide +kernel
theorem dX12_lie_45 : decode cX12_lie 45 = .ok (.iastore, 1) := by decide +kernel
theorem dX12_lie_46 : decode cX12_lie 46 = .ok (.aload_n 0, 1) := by decide +kernel
theorem dX12_lie_47 : decode cX12_lie 47 = .ok (.getfield 72, 3) := by decide +kernel
theorem dX12_lie_50 : decode cX12_lie 50 = .ok (.iconst 2, 1) := by decide +kernel
theorem dX12_lie_51 : decode cX12_lie 51 = .ok (.iload 6, 2) := by decide +kernel
theorem dX12_lie_53 : decode cX12_lie 53 = .ok (.iload_n 1, 1) := by decide +kernel
theorem dX12_lie_54 : decode cX12_lie 54 = .ok (.irem, 1) := by decide +kernel
theorem dX12_lie_55 : decode cX12_lie 55 = .ok (.iastore, 1) := by decide +kernel
theorem dX12_lie_56 : decode cX12_lie 56 = .ok (.aload_n 0, 1) := by decide +kernel
theorem dX12_lie_57 : decode cX12_lie 57 = .ok (.invokevirtual 334, 3) := by decide +kernel
theorem dX12_lie_60 : decode cX12_lie 60 = .ok (.ifCond .eq 140, 3) := by decide +kernel
theorem dX12_lie_63 : decode cX12_lie 63 = .ok (.iconst 0, 1) := by decide +kernel
theorem dX12_lie_64 : decode cX12_lie 64 = .ok (.istore 7, 2) := by decide +kernel
theorem dX12_lie_66 : decode cX12_lie 66 = .ok (.iconst 0, 1) := by decide +kernel
theorem dX12_lie_67 : decode cX12_lie 67 = .ok (.istore 8, 2) := by decide +kernel
theorem dX12_lie_69 : decode cX12_lie 69 = .ok (.iconst 0, 1) := by decide +kernel
theorem dX12_lie_70 : decode cX12_lie 70 = .ok (.istore 9, 2) := by decide +kernel
theorem dX12_lie_72 : decode cX12_lie 72 = .ok (.iload 9, 2) := by decide +kernel
theorem dX12_lie_74 : decode cX12_lie 74 = .ok (.iconst 3, 1) := by decide +kernel
theorem dX12_lie_75 : decode cX12_lie 75 = .ok (.if_icmp .ge 87, 3) := by decide +kernel
theorem dX12_lie_78 : decode cX12_lie 78 = .ok (.iload 7, 2) := by decide +kernel
theorem dX12_lie_80 : decode cX12_lie 80 = .ok (.aload_n 0, 1) := by decide +kernel
theorem dX12_lie_81 : decode cX12_lie 81 = .ok (.getfield 51, 3) := by decide +kernel
theorem dX12_lie_84 : decode cX12_lie 84 = .ok (.iload 9, 2) := by decide +kernel
theorem dX12_lie_86 : decode cX12_lie 86 = .ok (.baload, 1) := by decide +kernel
theorem dX12_lie_87 : decode cX12_lie 87 = .ok (.ifCond .eq 28, 3) := by decide +kernel
theorem dX12_lie_90 : decode cX12_lie 90 = .ok (.aload_n 0, 1) := by decide +kernel
theorem dX12_lie_91 : decode cX12_lie 91 = .ok (.getfield 69, 3) := by decide +kernel
theorem dX12_lie_94 : decode cX12_lie 94 = .ok (.bipush 16, 2) := by decide +kernel
theorem dX12_lie_96 : decode cX12_lie 96 = .ok (.iload 9, 2) := by decide +kernel
theorem dX12_lie_98 : decode cX12_lie 98 = .ok (.imul, 1) := by decide +kernel
theorem dX12_lie_99 : decode cX12_lie 99 = .ok (.aload_n 0, 1) := by decide +kernel
theorem dX12_lie_100 : decode cX12_lie 100 = .ok (.getfield 72, 3) := by decide +kernel
theorem dX12_lie_103 : decode cX12_lie 103 = .ok (.iload 9, 2) := by decide +kernel
theorem dX12_lie_105 : decode cX12_lie 105 = .ok (.iaload, 1) := by decide +kernel
theorem dX12_lie_106 : decode cX12_lie 106 = .ok (.iadd, 1) := by decide +kernel
theorem dX12_lie_107 : decode cX12_lie 107 = .ok (.baload, 1) := by decide +kernel
theorem dX12_lie_108 : decode cX12_lie 108 = .ok (.ifCond .eq 7, 3) := by decide +kernel
theorem dX12_lie_111 : decode cX12_lie 111 = .ok (.iconst 1, 1) := by decide +kernel
theorem dX12_lie_112 : decode cX12_lie 112 = .ok (.goto 4, 3) := by decide +kernel
theorem dX12_lie_115 : decode cX12_lie 115 = .ok (.iconst 0, 1) := by decide +kernel
theorem dX12_lie_116 : decode cX12_lie 116 = .ok (.iadd, 1) := by decide +kernel
theorem dX12_lie_117 : decode cX12_lie 117 = .ok (.istore 7, 2) := by decide +kernel
theorem dX12_lie_119 : decode cX12_lie 119 = .ok (.iload 8, 2) := by decide +kernel
theorem dX12_lie_121 : decode cX12_lie 121 = .ok (.aload_n 0, 1) := by decide +kernel
theorem dX12_lie_122 : decode cX12_lie 122 = .ok (.getfield 51, 3) := by decide +kernel
theorem dX12_lie_125 : decode cX12_lie 125 = .ok (.iload 9, 2) := by decide +kernel
theorem dX12_lie_127 : decode cX12_lie 127 = .ok (.baload, 1) := by decide +kernel
theorem dX12_lie_128 : decode cX12_lie 128 = .ok (.ifCond .eq 24, 3) := by decide +kernel
theorem dX12_lie_131 : decode cX12_lie 131 = .ok (.aload_n 0, 1) := by decide +kernel
theorem dX12_lie_132 : decode cX12_lie 132 = .ok (.getfield 66, 3) := by decide +kernel
theorem dX12_lie_135 : decode cX12_lie 135 = .ok (.bipush 16, 2) := by decide +kernel
theorem dX12_lie_137 : decode cX12_lie 137 = .ok (.iload 9, 2) := by decide +kernel
theorem dX12_lie_139 : decode cX12_lie 139 = .ok (.imul, 1) := by decide +kernel
theorem dX12_lie_140 : decode cX12_lie 140 = .ok (.aload_n 0, 1) := by decide +kernel
theorem dX12_lie_141 : decode cX12_lie 141 = .ok (.getfield 72, 3) := by decide +kernel
theorem dX12_lie_144 : decode cX12_lie 144 = .ok (.iload 9, 2) := by decide +kernel
theorem dX12_lie_146 : decode cX12_lie 146 = .ok (.iaload, 1) := by decide +kernel
theorem dX12_lie_147 : decode cX12_lie 147 = .ok (.iadd, 1) := by decide +kernel
theorem dX12_lie_148 : decode cX12_lie 148 = .ok (.iaload, 1) := by decide +kernel
theorem dX12_lie_149 : decode cX12_lie 149 = .ok (.goto 4, 3) := by decide +kernel
theorem dX12_lie_152 : decode cX12_lie 152 = .ok (.iconst 0, 1) := by decide +kernel
theorem dX12_lie_153 : decode cX12_lie 153 = .ok (.iadd, 1) := by decide +kernel
theorem dX12_lie_154 : decode cX12_lie 154 = .ok (.istore 8, 2) := by decide +kernel
theorem dX12_lie_156 : decode cX12_lie 156 = .ok (.iinc 9 1, 3) := by decide +kernel
theorem dX12_lie_159 : decode cX12_lie 159 = .ok (.goto (-87), 3) := by decide +kernel
theorem dX12_lie_162 : decode cX12_lie 162 = .ok (.iload_n 3, 1) := by decide +kernel
theorem dX12_lie_163 : decode cX12_lie 163 = .ok (.bipush (-9), 2) := by decide +kernel
theorem dX12_lie_165 : decode cX12_lie 165 = .ok (.if_icmp .eq 24, 3) := by decide +kernel
theorem dX12_lie_168 : decode cX12_lie 168 = .ok (.iload 7, 2) := by decide +kernel
theorem dX12_lie_170 : decode cX12_lie 170 = .ok (.iload 4, 2) := by decide +kernel
theorem dX12_lie_172 : decode cX12_lie 172 = .ok (.if_icmp .lt 17, 3) := by decide +kernel
theorem dX12_lie_175 : decode cX12_lie 175 = .ok (.iload 7, 2) := by decide +kernel
theorem dX12_lie_177 : decode cX12_lie 177 = .ok (.iload 4, 2) := by decide +kernel
theorem dX12_lie_179 : decode cX12_lie 179 = .ok (.if_icmp .ne 21, 3) := by decide +kernel
theorem dX12_lie_182 : decode cX12_lie 182 = .ok (.iload 8, 2) := by decide +kernel
theorem dX12_lie_184 : decode cX12_lie 184 = .ok (.iload 5, 2) := by decide +kernel
theorem dX12_lie_186 : decode cX12_lie 186 = .ok (.if_icmp .ge 14, 3) := by decide +kernel
theorem dX12_lie_189 : decode cX12_lie 189 = .ok (.iload 6, 2) := by decide +kernel
theorem dX12_lie_191 : decode cX12_lie 191 = .ok (.istore_n 3, 1) := by decide +kernel
theorem dX12_lie_192 : decode cX12_lie 192 = .ok (.iload 7, 2) := by decide +kernel
theorem dX12_lie_194 : decode cX12_lie 194 = .ok (.istore 4, 2) := by decide +kernel
theorem dX12_lie_196 : decode cX12_lie 196 = .ok (.iload 8, 2) := by decide +kernel
theorem dX12_lie_198 : decode cX12_lie 198 = .ok (.istore 5, 2) := by decide +kernel
theorem dX12_lie_200 : decode cX12_lie 200 = .ok (.iinc 6 1, 3) := by decide +kernel
theorem dX12_lie_203 : decode cX12_lie 203 = .ok (.goto (-191), 3) := by decide +kernel
theorem dX12_lie_206 : decode cX12_lie 206 = .ok (.aload_n 0, 1) := by decide +kernel
theorem dX12_lie_207 : decode cX12_lie 207 = .ok (.getfield 72, 3) := by decide +kernel
theorem dX12_lie_210 : decode cX12_lie 210 = .ok (.iconst 0, 1) := by decide +kernel
theorem dX12_lie_211 : decode cX12_lie 211 = .ok (.iload_n 3, 1) := by decide +kernel
theorem dX12_lie_212 : decode cX12_lie 212 = .ok (.iload_n 1, 1) := by decide +kernel
theorem dX12_lie_213 : decode cX12_lie 213 = .ok (.iload_n 1, 1) := by decide +kernel
theorem dX12_lie_214 : decode cX12_lie 214 = .ok (.imul, 1) := by decide +kernel
theorem dX12_lie_215 : decode cX12_lie 215 = .ok (.idiv, 1) := by decide +kernel
theorem dX12_lie_216 : decode cX12_lie 216 = .ok (.iastore, 1) := by decide +kernel
theorem dX12_lie_217 : decode cX12_lie 217 = .ok (.aload_n 0, 1) := by decide +kernel
theorem dX12_lie_218 : decode cX12_lie 218 = .ok (.getfield 72, 3) := by decide +kernel
theorem dX12_lie_221 : decode cX12_lie 221 = .ok (.iconst 1, 1) := by decide +kernel
theorem dX12_lie_222 : decode cX12_lie 222 = .ok (.iload_n 3, 1) := by decide +kernel
theorem dX12_lie_223 : decode cX12_lie 223 = .ok (.iload_n 1, 1) := by decide +kernel
theorem dX12_lie_224 : decode cX12_lie 224 = .ok (.idiv, 1) := by decide +kernel
theorem dX12_lie_225 : decode cX12_lie 225 = .ok (.iload_n 1, 1) := by decide +kernel
theorem dX12_lie_226 : decode cX12_lie 226 = .ok (.irem, 1) := by decide +kernel
theorem dX12_lie_227 : decode cX12_lie 227 = .ok (.iastore, 1) := by decide +kernel
theorem dX12_lie_228 : decode cX12_lie 228 = .ok (.aload_n 0, 1) := by decide +kernel
theorem dX12_lie_229 : decode cX12_lie 229 = .ok (.getfield 72, 3) := by decide +kernel
theorem dX12_lie_232 : decode cX12_lie 232 = .ok (.iconst 2, 1) := by decide +kernel
theorem dX12_lie_233 : decode cX12_lie 233 = .ok (.iload_n 3, 1) := by decide +kernel
theorem dX12_lie_234 : decode cX12_lie 234 = .ok (.iload_n 1, 1) := by decide +kernel
theorem dX12_lie_235 : decode cX12_lie 235 = .ok (.irem, 1) := by decide +kernel
theorem dX12_lie_236 : decode cX12_lie 236 = .ok (.iastore, 1) := by decide +kernel
theorem dX12_lie_237 : decode cX12_lie 237 = .ok (.iconst 0, 1) := by decide +kernel
theorem dX12_lie_238 : decode cX12_lie 238 = .ok (.istore 6, 2) := by decide +kernel
theorem dX12_lie_240 : decode cX12_lie 240 = .ok (.iconst 0, 1) := by decide +kernel
theorem dX12_lie_241 : decode cX12_lie 241 = .ok (.istore 7, 2) := by decide +kernel
theorem dX12_lie_243 : decode cX12_lie 243 = .ok (.iload 7, 2) := by decide +kernel
theorem dX12_lie_245 : decode cX12_lie 245 = .ok (.bipush 60, 2) := by decide +kernel
theorem dX12_lie_247 : decode cX12_lie 247 = .ok (.if_icmp .ge 22, 3) := by decide +kernel
theorem dX12_lie_250 : decode cX12_lie 250 = .ok (.aload_n 0, 1) := by decide +kernel
theorem dX12_lie_251 : decode cX12_lie 251 = .ok (.getfield 16, 3) := by decide +kernel
theorem dX12_lie_254 : decode cX12_lie 254 = .ok (.bipush 60, 2) := by decide +kernel
theorem dX12_lie_256 : decode cX12_lie 256 = .ok (.iload_n 2, 1) := by decide +kernel
theorem dX12_lie_257 : decode cX12_lie 257 = .ok (.imul, 1) := by decide +kernel
theorem dX12_lie_258 : decode cX12_lie 258 = .ok (.iload 7, 2) := by decide +kernel
theorem dX12_lie_260 : decode cX12_lie 260 = .ok (.iadd, 1) := by decide +kernel
theorem dX12_lie_261 : decode cX12_lie 261 = .ok (.iconst 0, 1) := by decide +kernel
theorem dX12_lie_262 : decode cX12_lie 262 = .ok (.iastore, 1) := by decide +kernel
theorem dX12_lie_263 : decode cX12_lie 263 = .ok (.iinc 7 1, 3) := by decide +kernel
theorem dX12_lie_266 : decode cX12_lie 266 = .ok (.goto (-23), 3) := by decide +kernel
theorem dX12_lie_269 : decode cX12_lie 269 = .ok (.iconst 0, 1) := by decide +kernel
theorem dX12_lie_270 : decode cX12_lie 270 = .ok (.istore 7, 2) := by decide +kernel
theorem dX12_lie_272 : decode cX12_lie 272 = .ok (.iload 7, 2) := by decide +kernel
theorem dX12_lie_274 : decode cX12_lie 274 = .ok (.iconst 3, 1) := by decide +kernel
theorem dX12_lie_275 : decode cX12_lie 275 = .ok (.if_icmp .ge 41, 3) := by decide +kernel
theorem dX12_lie_278 : decode cX12_lie 278 = .ok (.aload_n 0, 1) := by decide +kernel
theorem dX12_lie_279 : decode cX12_lie 279 = .ok (.getfield 51, 3) := by decide +kernel
theorem dX12_lie_282 : decode cX12_lie 282 = .ok (.iload 7, 2) := by decide +kernel
theorem dX12_lie_284 : decode cX12_lie 284 = .ok (.baload, 1) := by decide +kernel
theorem dX12_lie_285 : decode cX12_lie 285 = .ok (.ifCond .eq 25, 3) := by decide +kernel
theorem dX12_lie_288 : decode cX12_lie 288 = .ok (.aload_n 0, 1) := by decide +kernel
theorem dX12_lie_289 : decode cX12_lie 289 = .ok (.getfield 16, 3) := by decide +kernel
theorem dX12_lie_292 : decode cX12_lie 292 = .ok (.bipush 60, 2) := by decide +kernel
theorem dX12_lie_294 : decode cX12_lie 294 = .ok (.iload_n 2, 1) := by decide +kernel
theorem dX12_lie_295 : decode cX12_lie 295 = .ok (.imul, 1) := by decide +kernel
theorem dX12_lie_296 : decode cX12_lie 296 = .ok (.iload 6, 2) := by decide +kernel
theorem dX12_lie_298 : decode cX12_lie 298 = .ok (.iadd, 1) := by decide +kernel
theorem dX12_lie_299 : decode cX12_lie 299 = .ok (.aload_n 0, 1) := by decide +kernel
theorem dX12_lie_300 : decode cX12_lie 300 = .ok (.getfield 72, 3) := by decide +kernel
theorem dX12_lie_303 : decode cX12_lie 303 = .ok (.iload 7, 2) := by decide +kernel
theorem dX12_lie_305 : decode cX12_lie 305 = .ok (.iaload, 1) := by decide +kernel
theorem dX12_lie_306 : decode cX12_lie 306 = .ok (.iastore, 1) := by decide +kernel
theorem dX12_lie_307 : decode cX12_lie 307 = .ok (.iinc 6 1, 3) := by decide +kernel
theorem dX12_lie_310 : decode cX12_lie 310 = .ok (.iinc 7 1, 3) := by decide +kernel
theorem dX12_lie_313 : decode cX12_lie 313 = .ok (.goto (-41), 3) := by decide +kernel
theorem dX12_lie_316 : decode cX12_lie 316 = .ok (.aload_n 0, 1) := by decide +kernel
theorem dX12_lie_317 : decode cX12_lie 317 = .ok (.getfield 13, 3) := by decide +kernel
theorem dX12_lie_320 : decode cX12_lie 320 = .ok (.iload_n 2, 1) := by decide +kernel
theorem dX12_lie_321 : decode cX12_lie 321 = .ok (.iload 6, 2) := by decide +kernel
theorem dX12_lie_323 : decode cX12_lie 323 = .ok (.iastore, 1) := by decide +kernel
theorem dX12_lie_324 : decode cX12_lie 324 = .ok (.aload_n 0, 1) := by decide +kernel
theorem dX12_lie_325 : decode cX12_lie 325 = .ok (.iload 5, 2) := by decide +kernel
theorem dX12_lie_327 : decode cX12_lie 327 = .ok (.iload 4, 2) := by decide +kernel
theorem dX12_lie_329 : decode cX12_lie 329 = .ok (.invokevirtual 108, 3) := by decide +kernel
theorem dX12_lie_332 : decode cX12_lie 332 = .ok (.ireturn, 1) := by decide +kernel
theorem dX12_areApart_0 : decode cX12_areApart 0 = .ok (.iconst 1, 1) := by decide +kernel
theorem dX12_areApart_1 : decode cX12_areApart 1 = .ok (.istore_n 1, 1) := by decide +kernel
theorem dX12_areApart_2 : decode cX12_areApart 2 = .ok (.iconst 0, 1) := by decide +kernel
theorem dX12_areApart_3 : decode cX12_areApart 3 = .ok (.istore_n 2, 1) := by decide +kernel
theorem dX12_areApart_4 : decode cX12_areApart 4 = .ok (.iload_n 2, 1) := by decide +kernel
theorem dX12_areApart_5 : decode cX12_areApart 5 = .ok (.iconst 3, 1) := by decide +kernel
theorem dX12_areApart_6 : decode cX12_areApart 6 = .ok (.if_icmp .ge 93, 3) := by decide +kernel
theorem dX12_areApart_9 : decode cX12_areApart 9 = .ok (.iload_n 1, 1) := by decide +kernel
theorem dX12_areApart_10 : decode cX12_areApart 10 = .ok (.ifCond .eq 25, 3) := by decide +kernel
theorem dX12_areApart_13 : decode cX12_areApart 13 = .ok (.aload_n 0, 1) := by decide +kernel
theorem dX12_areApart_14 : decode cX12_areApart 14 = .ok (.getfield 51, 3) := by decide +kernel
theorem dX12_areApart_17 : decode cX12_areApart 17 = .ok (.iload_n 2, 1) := by decide +kernel
theorem dX12_areApart_18 : decode cX12_areApart 18 = .ok (.baload, 1) := by decide +kernel
theorem dX12_areApart_19 : decode cX12_areApart 19 = .ok (.ifCond .ne 12, 3) := by decide +kernel
theorem dX12_areApart_22 : decode cX12_areApart 22 = .ok (.aload_n 0, 1) := by decide +kernel
theorem dX12_areApart_23 : decode cX12_areApart 23 = .ok (.getfield 72, 3) := by decide +kernel
theorem dX12_areApart_26 : decode cX12_areApart 26 = .ok (.iload_n 2, 1) := by decide +kernel
theorem dX12_areApart_27 : decode cX12_areApart 27 = .ok (.iaload, 1) := by decide +kernel
theorem dX12_areApart_28 : decode cX12_areApart 28 = .ok (.ifCond .ne 7, 3) := by decide +kernel
theorem dX12_areApart_31 : decode cX12_areApart 31 = .ok (.iconst 1, 1) := by decide +kernel
theorem dX12_areApart_32 : decode cX12_areApart 32 = .ok (.goto 4, 3) := by decide +kernel
theorem dX12_areApart_35 : decode cX12_areApart 35 = .ok (.iconst 0, 1) := by decide +kernel
theorem dX12_areApart_36 : decode cX12_areApart 36 = .ok (.istore_n 1, 1) := by decide +kernel
theorem dX12_areApart_37 : decode cX12_areApart 37 = .ok (.iconst 0, 1) := by decide +kernel
theorem dX12_areApart_38 : decode cX12_areApart 38 = .ok (.istore_n 3, 1) := by decide +kernel
theorem dX12_areApart_39 : decode cX12_areApart 39 = .ok (.iload_n 3, 1) := by decide +kernel
theorem dX12_areApart_40 : decode cX12_areApart 40 = .ok (.iload_n 2, 1) := by decide +kernel
theorem dX12_areApart_41 : decode cX12_areApart 41 = .ok (.if_icmp .ge 52, 3) := by decide +kernel
theorem dX12_areApart_44 : decode cX12_areApart 44 = .ok (.iload_n 1, 1) := by decide +kernel
theorem dX12_areApart_45 : decode cX12_areApart 45 = .ok (.ifCond .eq 40, 3) := by decide +kernel
theorem dX12_areApart_48 : decode cX12_areApart 48 = .ok (.aload_n 0, 1) := by decide +kernel
theorem dX12_areApart_49 : decode cX12_areApart 49 = .ok (.getfield 51, 3) := by decide +kernel
theorem dX12_areApart_52 : decode cX12_areApart 52 = .ok (.iload_n 2, 1) := by decide +kernel
theorem dX12_areApart_53 : decode cX12_areApart 53 = .ok (.baload, 1) := by decide +kernel
theorem dX12_areApart_54 : decode cX12_areApart 54 = .ok (.ifCond .eq 27, 3) := by decide +kernel
theorem dX12_areApart_57 : decode cX12_areApart 57 = .ok (.aload_n 0, 1) := by decide +kernel
theorem dX12_areApart_58 : decode cX12_areApart 58 = .ok (.getfield 51, 3) := by decide +kernel
theorem dX12_areApart_61 : decode cX12_areApart 61 = .ok (.iload_n 3, 1) := by decide +kernel
theorem dX12_areApart_62 : decode cX12_areApart 62 = .ok (.baload, 1) := by decide +kernel
theorem dX12_areApart_63 : decode cX12_areApart 63 = .ok (.ifCond .eq 18, 3) := by decide +kernel
theorem dX12_areApart_66 : decode cX12_areApart 66 = .ok (.aload_n 0, 1) := by decide +kernel
theorem dX12_areApart_67 : decode cX12_areApart 67 = .ok (.getfield 72, 3) := by decide +kernel
theorem dX12_areApart_70 : decode cX12_areApart 70 = .ok (.iload_n 2, 1) := by decide +kernel
theorem dX12_areApart_71 : decode cX12_areApart 71 = .ok (.iaload, 1) := by decide +kernel
theorem dX12_areApart_72 : decode cX12_areApart 72 = .ok (.aload_n 0, 1) := by decide +kernel
theorem dX12_areApart_73 : decode cX12_areApart 73 = .ok (.getfield 72, 3) := by decide +kernel
theorem dX12_areApart_76 : decode cX12_areApart 76 = .ok (.iload_n 3, 1) := by decide +kernel
theorem dX12_areApart_77 : decode cX12_areApart 77 = .ok (.iaload, 1) := by decide +kernel
theorem dX12_areApart_78 : decode cX12_areApart 78 = .ok (.if_icmp .eq 7, 3) := by decide +kernel
theorem dX12_areApart_81 : decode cX12_areApart 81 = .ok (.iconst 1, 1) := by decide +kernel
theorem dX12_areApart_82 : decode cX12_areApart 82 = .ok (.goto 4, 3) := by decide +kernel
theorem dX12_areApart_85 : decode cX12_areApart 85 = .ok (.iconst 0, 1) := by decide +kernel
theorem dX12_areApart_86 : decode cX12_areApart 86 = .ok (.istore_n 1, 1) := by decide +kernel
theorem dX12_areApart_87 : decode cX12_areApart 87 = .ok (.iinc 3 1, 3) := by decide +kernel
theorem dX12_areApart_90 : decode cX12_areApart 90 = .ok (.goto (-51), 3) := by decide +kernel
theorem dX12_areApart_93 : decode cX12_areApart 93 = .ok (.iinc 2 1, 3) := by decide +kernel
theorem dX12_areApart_96 : decode cX12_areApart 96 = .ok (.goto (-92), 3) := by decide +kernel
theorem dX12_areApart_99 : decode cX12_areApart 99 = .ok (.iload_n 1, 1) := by decide +kernel
theorem dX12_areApart_100 : decode cX12_areApart 100 = .ok (.ireturn, 1) := by decide +kernel
theorem dX12_odds_0 : decode cX12_odds 0 = .ok (.iload_n 1, 1) := by decide +kernel
theorem dX12_odds_1 : decode cX12_odds 1 = .ok (.invokestatic 154, 3) := by decide +kernel
theorem dX12_odds_4 : decode cX12_odds 4 = .ok (.ifCond .eq 10, 3) := by decide +kernel
theorem dX12_odds_7 : decode cX12_odds 7 = .ok (.iload_n 2, 1) := by decide +kernel
theorem dX12_odds_8 : decode cX12_odds 8 = .ok (.invokestatic 151, 3) := by decide +kernel
theorem dX12_odds_11 : decode cX12_odds 11 = .ok (.ifCond .ne 5, 3) := by decide +kernel
theorem dX12_odds_14 : decode cX12_odds 14 = .ok (.iconst (-1), 1) := by decide +kernel
theorem dX12_odds_15 : decode cX12_odds 15 = .ok (.ireturn, 1) := by decide +kernel
theorem dX12_odds_16 : decode cX12_odds 16 = .ok (.aload_n 0, 1) := by decide +kernel
theorem dX12_odds_17 : decode cX12_odds 17 = .ok (.getfield 51, 3) := by decide +kernel
theorem dX12_odds_20 : decode cX12_odds 20 = .ok (.iload_n 1, 1) := by decide +kernel
theorem dX12_odds_21 : decode cX12_odds 21 = .ok (.baload, 1) := by decide +kernel
theorem dX12_odds_22 : decode cX12_odds 22 = .ok (.ifCond .ne 6, 3) := by decide +kernel
theorem dX12_odds_25 : decode cX12_odds 25 = .ok (.bipush (-4), 2) := by decide +kernel
theorem dX12_odds_27 : decode cX12_odds 27 = .ok (.ireturn, 1) := by decide +kernel
theorem dX12_odds_28 : decode cX12_odds 28 = .ok (.aload_n 0, 1) := by decide +kernel
theorem dX12_odds_29 : decode cX12_odds 29 = .ok (.getfield 29, 3) := by decide +kernel
theorem dX12_odds_32 : decode cX12_odds 32 = .ok (.iload_n 2, 1) := by decide +kernel
theorem dX12_odds_33 : decode cX12_odds 33 = .ok (.baload, 1) := by decide +kernel
theorem dX12_odds_34 : decode cX12_odds 34 = .ok (.ifCond .eq 10, 3) := by decide +kernel
theorem dX12_odds_37 : decode cX12_odds 37 = .ok (.aload_n 0, 1) := by decide +kernel
theorem dX12_odds_38 : decode cX12_odds 38 = .ok (.invokevirtual 314, 3) := by decide +kernel
theorem dX12_odds_41 : decode cX12_odds 41 = .ok (.ifCond .ne 9, 3) := by decide +kernel
theorem dX12_odds_44 : decode cX12_odds 44 = .ok (.aload_n 0, 1) := by decide +kernel
theorem dX12_odds_45 : decode cX12_odds 45 = .ok (.iconst 1, 1) := by decide +kernel
theorem dX12_odds_46 : decode cX12_odds 46 = .ok (.invokevirtual 100, 3) := by decide +kernel
theorem dX12_odds_49 : decode cX12_odds 49 = .ok (.ireturn, 1) := by decide +kernel
theorem dX12_odds_50 : decode cX12_odds 50 = .ok (.aload_n 0, 1) := by decide +kernel
theorem dX12_odds_51 : decode cX12_odds 51 = .ok (.getfield 54, 3) := by decide +kernel
theorem dX12_odds_54 : decode cX12_odds 54 = .ok (.iconst 5, 1) := by decide +kernel
theorem dX12_odds_55 : decode cX12_odds 55 = .ok (.iload_n 1, 1) := by decide +kernel
theorem dX12_odds_56 : decode cX12_odds 56 = .ok (.imul, 1) := by decide +kernel
theorem dX12_odds_57 : decode cX12_odds 57 = .ok (.iaload, 1) := by decide +kernel
theorem dX12_odds_58 : decode cX12_odds 58 = .ok (.aload_n 0, 1) := by decide +kernel
theorem dX12_odds_59 : decode cX12_odds 59 = .ok (.getfield 33, 3) := by decide +kernel
theorem dX12_odds_62 : decode cX12_odds 62 = .ok (.bipush 21, 2) := by decide +kernel
theorem dX12_odds_64 : decode cX12_odds 64 = .ok (.iload_n 2, 1) := by decide +kernel
theorem dX12_odds_65 : decode cX12_odds 65 = .ok (.imul, 1) := by decide +kernel
theorem dX12_odds_66 : decode cX12_odds 66 = .ok (.iaload, 1) := by decide +kernel
theorem dX12_odds_67 : decode cX12_odds 67 = .ok (.if_icmp .lt 9, 3) := by decide +kernel
theorem dX12_odds_70 : decode cX12_odds 70 = .ok (.aload_n 0, 1) := by decide +kernel
theorem dX12_odds_71 : decode cX12_odds 71 = .ok (.iconst 2, 1) := by decide +kernel
theorem dX12_odds_72 : decode cX12_odds 72 = .ok (.invokevirtual 100, 3) := by decide +kernel
theorem dX12_odds_75 : decode cX12_odds 75 = .ok (.ireturn, 1) := by decide +kernel
theorem dX12_odds_76 : decode cX12_odds 76 = .ok (.iconst 0, 1) := by decide +kernel
theorem dX12_odds_77 : decode cX12_odds 77 = .ok (.istore_n 3, 1) := by decide +kernel
theorem dX12_odds_78 : decode cX12_odds 78 = .ok (.iconst 0, 1) := by decide +kernel
theorem dX12_odds_79 : decode cX12_odds 79 = .ok (.istore 4, 2) := by decide +kernel
theorem dX12_odds_81 : decode cX12_odds 81 = .ok (.iconst 0, 1) := by decide +kernel
theorem dX12_odds_82 : decode cX12_odds 82 = .ok (.istore 5, 2) := by decide +kernel
theorem dX12_odds_84 : decode cX12_odds 84 = .ok (.iload 5, 2) := by decide +kernel
theorem dX12_odds_86 : decode cX12_odds 86 = .ok (.iconst 4, 1) := by decide +kernel
theorem dX12_odds_87 : decode cX12_odds 87 = .ok (.if_icmp .ge 67, 3) := by decide +kernel
theorem dX12_odds_90 : decode cX12_odds 90 = .ok (.aload_n 0, 1) := by decide +kernel
theorem dX12_odds_91 : decode cX12_odds 91 = .ok (.getfield 36, 3) := by decide +kernel
theorem dX12_odds_94 : decode cX12_odds 94 = .ok (.iload 5, 2) := by decide +kernel
theorem dX12_odds_96 : decode cX12_odds 96 = .ok (.baload, 1) := by decide +kernel
theorem dX12_odds_97 : decode cX12_odds 97 = .ok (.ifCond .eq 51, 3) := by decide +kernel
theorem dX12_odds_100 : decode cX12_odds 100 = .ok (.aload_n 0, 1) := by decide +kernel
theorem dX12_odds_101 : decode cX12_odds 101 = .ok (.iload_n 1, 1) := by decide +kernel
theorem dX12_odds_102 : decode cX12_odds 102 = .ok (.iload_n 2, 1) := by decide +kernel
theorem dX12_odds_103 : decode cX12_odds 103 = .ok (.iload 5, 2) := by decide +kernel
theorem dX12_odds_105 : decode cX12_odds 105 = .ok (.aload_n 0, 1) := by decide +kernel
theorem dX12_odds_106 : decode cX12_odds 106 = .ok (.getfield 54, 3) := by decide +kernel
theorem dX12_odds_109 : decode cX12_odds 109 = .ok (.iconst 5, 1) := by decide +kernel
theorem dX12_odds_110 : decode cX12_odds 110 = .ok (.iload_n 1, 1) := by decide +kernel
theorem dX12_odds_111 : decode cX12_odds 111 = .ok (.imul, 1) := by decide +kernel
theorem dX12_odds_112 : decode cX12_odds 112 = .ok (.iaload, 1) := by decide +kernel
theorem dX12_odds_113 : decode cX12_odds 113 = .ok (.aload_n 0, 1) := by decide +kernel
theorem dX12_odds_114 : decode cX12_odds 114 = .ok (.getfield 54, 3) := by decide +kernel
theorem dX12_odds_117 : decode cX12_odds 117 = .ok (.iconst 5, 1) := by decide +kernel
theorem dX12_odds_118 : decode cX12_odds 118 = .ok (.iload_n 1, 1) := by decide +kernel
theorem dX12_odds_119 : decode cX12_odds 119 = .ok (.imul, 1) := by decide +kernel
theorem dX12_odds_120 : decode cX12_odds 120 = .ok (.iconst 2, 1) := by decide +kernel
theorem dX12_odds_121 : decode cX12_odds 121 = .ok (.iadd, 1) := by decide +kernel
theorem dX12_odds_122 : decode cX12_odds 122 = .ok (.iaload, 1) := by decide +kernel
theorem dX12_odds_123 : decode cX12_odds 123 = .ok (.invokevirtual 327, 3) := by decide +kernel
theorem dX12_odds_126 : decode cX12_odds 126 = .ok (.iinc 3 1, 3) := by decide +kernel
theorem dX12_odds_129 : decode cX12_odds 129 = .ok (.iload 4, 2) := by decide +kernel
theorem dX12_odds_131 : decode cX12_odds 131 = .ok (.aload_n 0, 1) := by decide +kernel
theorem dX12_odds_132 : decode cX12_odds 132 = .ok (.getfield 320, 3) := by decide +kernel
theorem dX12_odds_135 : decode cX12_odds 135 = .ok (.bipush (-9), 2) := by decide +kernel
theorem dX12_odds_137 : decode cX12_odds 137 = .ok (.if_icmp .eq 7, 3) := by decide +kernel
theorem dX12_odds_140 : decode cX12_odds 140 = .ok (.iconst 1, 1) := by decide +kernel
theorem dX12_odds_141 : decode cX12_odds 141 = .ok (.goto 4, 3) := by decide +kernel
theorem dX12_odds_144 : decode cX12_odds 144 = .ok (.iconst 0, 1) := by decide +kernel
theorem dX12_odds_145 : decode cX12_odds 145 = .ok (.iadd, 1) := by decide +kernel
theorem dX12_odds_146 : decode cX12_odds 146 = .ok (.istore 4, 2) := by decide +kernel
theorem dX12_odds_148 : decode cX12_odds 148 = .ok (.iinc 5 1, 3) := by decide +kernel
theorem dX12_odds_151 : decode cX12_odds 151 = .ok (.goto (-67), 3) := by decide +kernel
theorem dX12_odds_154 : decode cX12_odds 154 = .ok (.aload_n 0, 1) := by decide +kernel
theorem dX12_odds_155 : decode cX12_odds 155 = .ok (.iload 4, 2) := by decide +kernel
theorem dX12_odds_157 : decode cX12_odds 157 = .ok (.i2l, 1) := by decide +kernel
theorem dX12_odds_158 : decode cX12_odds 158 = .ok (.iload_n 3, 1) := by decide +kernel
theorem dX12_odds_159 : decode cX12_odds 159 = .ok (.i2l, 1) := by decide +kernel
theorem dX12_odds_160 : decode cX12_odds 160 = .ok (.iload 4, 2) := by decide +kernel
theorem dX12_odds_162 : decode cX12_odds 162 = .ok (.invokevirtual 254, 3) := by decide +kernel
theorem dX12_odds_165 : decode cX12_odds 165 = .ok (.ireturn, 1) := by decide +kernel
theorem dX12_work_0 : decode cX12_work 0 = .ok (.iload_n 1, 1) := by decide +kernel
theorem dX12_work_1 : decode cX12_work 1 = .ok (.iconst 0, 1) := by decide +kernel
theorem dX12_work_2 : decode cX12_work 2 = .ok (.iconst 5, 1) := by decide +kernel
theorem dX12_work_3 : decode cX12_work 3 = .ok (.invokestatic 86, 3) := by decide +kernel
theorem dX12_work_6 : decode cX12_work 6 = .ok (.ifCond .eq 34, 3) := by decide +kernel
theorem dX12_work_9 : decode cX12_work 9 = .ok (.iload_n 2, 1) := by decide +kernel
theorem dX12_work_10 : decode cX12_work 10 = .ok (.iconst 0, 1) := by decide +kernel
theorem dX12_work_11 : decode cX12_work 11 = .ok (.bipush 15, 2) := by decide +kernel
theorem dX12_work_13 : decode cX12_work 13 = .ok (.invokestatic 86, 3) := by decide +kernel
theorem dX12_work_16 : decode cX12_work 16 = .ok (.ifCond .eq 24, 3) := by decide +kernel
theorem dX12_work_19 : decode cX12_work 19 = .ok (.iload_n 3, 1) := by decide +kernel
theorem dX12_work_20 : decode cX12_work 20 = .ok (.iconst 0, 1) := by decide +kernel
theorem dX12_work_21 : decode cX12_work 21 = .ok (.bipush 9, 2) := by decide +kernel
theorem dX12_work_23 : decode cX12_work 23 = .ok (.invokestatic 86, 3) := by decide +kernel
theorem dX12_work_26 : decode cX12_work 26 = .ok (.ifCond .eq 14, 3) := by decide +kernel
theorem dX12_work_29 : decode cX12_work 29 = .ok (.iload 4, 2) := by decide +kernel
theorem dX12_work_31 : decode cX12_work 31 = .ok (.iconst 0, 1) := by decide +kernel
theorem dX12_work_32 : decode cX12_work 32 = .ok (.bipush 99, 2) := by decide +kernel
theorem dX12_work_34 : decode cX12_work 34 = .ok (.invokestatic 86, 3) := by decide +kernel
theorem dX12_work_37 : decode cX12_work 37 = .ok (.ifCond .ne 5, 3) := by decide +kernel
theorem dX12_work_40 : decode cX12_work 40 = .ok (.iconst (-1), 1) := by decide +kernel
theorem dX12_work_41 : decode cX12_work 41 = .ok (.ireturn, 1) := by decide +kernel
theorem dX12_work_42 : decode cX12_work 42 = .ok (.aload_n 0, 1) := by decide +kernel
theorem dX12_work_43 : decode cX12_work 43 = .ok (.getfield 337, 3) := by decide +kernel
theorem dX12_work_46 : decode cX12_work 46 = .ok (.iconst 5, 1) := by decide +kernel
theorem dX12_work_47 : decode cX12_work 47 = .ok (.if_icmp .ne 6, 3) := by decide +kernel
theorem dX12_work_50 : decode cX12_work 50 = .ok (.bipush (-2), 2) := by decide +kernel
theorem dX12_work_52 : decode cX12_work 52 = .ok (.ireturn, 1) := by decide +kernel
theorem dX12_work_53 : decode cX12_work 53 = .ok (.aload_n 0, 1) := by decide +kernel
theorem dX12_work_54 : decode cX12_work 54 = .ok (.getfield 75, 3) := by decide +kernel
theorem dX12_work_57 : decode cX12_work 57 = .ok (.iconst 4, 1) := by decide +kernel
theorem dX12_work_58 : decode cX12_work 58 = .ok (.aload_n 0, 1) := by decide +kernel
theorem dX12_work_59 : decode cX12_work 59 = .ok (.getfield 337, 3) := by decide +kernel
theorem dX12_work_62 : decode cX12_work 62 = .ok (.imul, 1) := by decide +kernel
theorem dX12_work_63 : decode cX12_work 63 = .ok (.iload_n 1, 1) := by decide +kernel
theorem dX12_work_64 : decode cX12_work 64 = .ok (.iastore, 1) := by decide +kernel
theorem dX12_work_65 : decode cX12_work 65 = .ok (.aload_n 0, 1) := by decide +kernel
theorem dX12_work_66 : decode cX12_work 66 = .ok (.getfield 75, 3) := by decide +kernel
theorem dX12_work_69 : decode cX12_work 69 = .ok (.iconst 4, 1) := by decide +kernel
theorem dX12_work_70 : decode cX12_work 70 = .ok (.aload_n 0, 1) := by decide +kernel
theorem dX12_work_71 : decode cX12_work 71 = .ok (.getfield 337, 3) := by decide +kernel
theorem dX12_work_74 : decode cX12_work 74 = .ok (.imul, 1) := by decide +kernel
theorem dX12_work_75 : decode cX12_work 75 = .ok (.iconst 1, 1) := by decide +kernel
theorem dX12_work_76 : decode cX12_work 76 = .ok (.iadd, 1) := by decide +kernel
theorem dX12_work_77 : decode cX12_work 77 = .ok (.iload_n 2, 1) := by decide +kernel
theorem dX12_work_78 : decode cX12_work 78 = .ok (.iastore, 1) := by decide +kernel
theorem dX12_work_79 : decode cX12_work 79 = .ok (.aload_n 0, 1) := by decide +kernel
theorem dX12_work_80 : decode cX12_work 80 = .ok (.getfield 75, 3) := by decide +kernel
theorem dX12_work_83 : decode cX12_work 83 = .ok (.iconst 4, 1) := by decide +kernel
theorem dX12_work_84 : decode cX12_work 84 = .ok (.aload_n 0, 1) := by decide +kernel
theorem dX12_work_85 : decode cX12_work 85 = .ok (.getfield 337, 3) := by decide +kernel
theorem dX12_work_88 : decode cX12_work 88 = .ok (.imul, 1) := by decide +kernel
theorem dX12_work_89 : decode cX12_work 89 = .ok (.iconst 2, 1) := by decide +kernel
theorem dX12_work_90 : decode cX12_work 90 = .ok (.iadd, 1) := by decide +kernel
theorem dX12_work_91 : decode cX12_work 91 = .ok (.iload_n 3, 1) := by decide +kernel
theorem dX12_work_92 : decode cX12_work 92 = .ok (.iastore, 1) := by decide +kernel
theorem dX12_work_93 : decode cX12_work 93 = .ok (.aload_n 0, 1) := by decide +kernel
theorem dX12_work_94 : decode cX12_work 94 = .ok (.getfield 75, 3) := by decide +kernel
theorem dX12_work_97 : decode cX12_work 97 = .ok (.iconst 4, 1) := by decide +kernel
theorem dX12_work_98 : decode cX12_work 98 = .ok (.aload_n 0, 1) := by decide +kernel
theorem dX12_work_99 : decode cX12_work 99 = .ok (.getfield 337, 3) := by decide +kernel
theorem dX12_work_102 : decode cX12_work 102 = .ok (.imul, 1) := by decide +kernel
theorem dX12_work_103 : decode cX12_work 103 = .ok (.iconst 3, 1) := by decide +kernel
theorem dX12_work_104 : decode cX12_work 104 = .ok (.iadd, 1) := by decide +kernel
theorem dX12_work_105 : decode cX12_work 105 = .ok (.iload 4, 2) := by decide +kernel
theorem dX12_work_107 : decode cX12_work 107 = .ok (.iastore, 1) := by decide +kernel
theorem dX12_work_108 : decode cX12_work 108 = .ok (.aload_n 0, 1) := by decide +kernel
theorem dX12_work_109 : decode cX12_work 109 = .ok (.dup, 1) := by decide +kernel
theorem dX12_work_110 : decode cX12_work 110 = .ok (.getfield 337, 3) := by decide +kernel
theorem dX12_work_113 : decode cX12_work 113 = .ok (.iconst 1, 1) := by decide +kernel
theorem dX12_work_114 : decode cX12_work 114 = .ok (.iadd, 1) := by decide +kernel
theorem dX12_work_115 : decode cX12_work 115 = .ok (.putfield 337, 3) := by decide +kernel
theorem dX12_work_118 : decode cX12_work 118 = .ok (.aload_n 0, 1) := by decide +kernel
theorem dX12_work_119 : decode cX12_work 119 = .ok (.getfield 337, 3) := by decide +kernel
theorem dX12_work_122 : decode cX12_work 122 = .ok (.iconst 1, 1) := by decide +kernel
theorem dX12_work_123 : decode cX12_work 123 = .ok (.isub, 1) := by decide +kernel
theorem dX12_work_124 : decode cX12_work 124 = .ok (.ireturn, 1) := by decide +kernel
theorem dX12_back_0 : decode cX12_back 0 = .ok (.iload_n 1, 1) := by decide +kernel
theorem dX12_back_1 : decode cX12_back 1 = .ok (.iconst 0, 1) := by decide +kernel
theorem dX12_back_2 : decode cX12_back 2 = .ok (.aload_n 0, 1) := by decide +kernel
theorem dX12_back_3 : decode cX12_back 3 = .ok (.getfield 337, 3) := by decide +kernel
theorem dX12_back_6 : decode cX12_back 6 = .ok (.invokestatic 86, 3) := by decide +kernel
theorem dX12_back_9 : decode cX12_back 9 = .ok (.ifCond .ne 5, 3) := by decide +kernel
theorem dX12_back_12 : decode cX12_back 12 = .ok (.iconst (-1), 1) := by decide +kernel
theorem dX12_back_13 : decode cX12_back 13 = .ok (.ireturn, 1) := by decide +kernel
theorem dX12_back_14 : decode cX12_back 14 = .ok (.aload_n 0, 1) := by decide +kernel
theorem dX12_back_15 : decode cX12_back 15 = .ok (.getfield 337, 3) := by decide +kernel
theorem dX12_back_18 : decode cX12_back 18 = .ok (.iload_n 1, 1) := by decide +kernel
theorem dX12_back_19 : decode cX12_back 19 = .ok (.isub, 1) := by decide +kernel
theorem dX12_back_20 : decode cX12_back 20 = .ok (.istore_n 2, 1) := by decide +kernel
theorem dX12_back_21 : decode cX12_back 21 = .ok (.aload_n 0, 1) := by decide +kernel
theorem dX12_back_22 : decode cX12_back 22 = .ok (.iload_n 1, 1) := by decide +kernel
theorem dX12_back_23 : decode cX12_back 23 = .ok (.putfield 337, 3) := by decide +kernel
theorem dX12_back_26 : decode cX12_back 26 = .ok (.iload_n 2, 1) := by decide +kernel
theorem dX12_back_27 : decode cX12_back 27 = .ok (.ireturn, 1) := by decide +kernel
theorem dX12_builds_0 : decode cX12_builds 0 = .ok (.aload_n 0, 1) := by decide +kernel
theorem dX12_builds_1 : decode cX12_builds 1 = .ok (.getfield 75, 3) := by decide +kernel
theorem dX12_builds_4 : decode cX12_builds 4 = .ok (.iconst 4, 1) := by decide +kernel
theorem dX12_builds_5 : decode cX12_builds 5 = .ok (.iload_n 1, 1) := by decide +kernel
theorem dX12_builds_6 : decode cX12_builds 6 = .ok (.imul, 1) := by decide +kernel
theorem dX12_builds_7 : decode cX12_builds 7 = .ok (.iaload, 1) := by decide +kernel
theorem dX12_builds_8 : decode cX12_builds 8 = .ok (.istore_n 2, 1) := by decide +kernel
theorem dX12_builds_9 : decode cX12_builds 9 = .ok (.aload_n 0, 1) := by decide +kernel
theorem dX12_builds_10 : decode cX12_builds 10 = .ok (.getfield 75, 3) := by decide +kernel
theorem dX12_builds_13 : decode cX12_builds 13 = .ok (.iconst 4, 1) := by decide +kernel
theorem dX12_builds_14 : decode cX12_builds 14 = .ok (.iload_n 1, 1) := by decide +kernel
theorem dX12_builds_15 : decode cX12_builds 15 = .ok (.imul, 1) := by decide +kernel
theorem dX12_builds_16 : decode cX12_builds 16 = .ok (.iconst 1, 1) := by decide +kernel
theorem dX12_builds_17 : decode cX12_builds 17 = .ok (.iadd, 1) := by decide +kernel
theorem dX12_builds_18 : decode cX12_builds 18 = .ok (.iaload, 1) := by decide +kernel
theorem dX12_builds_19 : decode cX12_builds 19 = .ok (.istore_n 3, 1) := by decide +kernel
theorem dX12_builds_20 : decode cX12_builds 20 = .ok (.aload_n 0, 1) := by decide +kernel
theorem dX12_builds_21 : decode cX12_builds 21 = .ok (.getfield 75, 3) := by decide +kernel
theorem dX12_builds_24 : decode cX12_builds 24 = .ok (.iconst 4, 1) := by decide +kernel
theorem dX12_builds_25 : decode cX12_builds 25 = .ok (.iload_n 1, 1) := by decide +kernel
theorem dX12_builds_26 : decode cX12_builds 26 = .ok (.imul, 1) := by decide +kernel
theorem dX12_builds_27 : decode cX12_builds 27 = .ok (.iconst 2, 1) := by decide +kernel
theorem dX12_builds_28 : decode cX12_builds 28 = .ok (.iadd, 1) := by decide +kernel
theorem dX12_builds_29 : decode cX12_builds 29 = .ok (.iaload, 1) := by decide +kernel
theorem dX12_builds_30 : decode cX12_builds 30 = .ok (.istore 4, 2) := by decide +kernel
theorem dX12_builds_32 : decode cX12_builds 32 = .ok (.iload_n 3, 1) := by decide +kernel
theorem dX12_builds_33 : decode cX12_builds 33 = .ok (.iconst 1, 1) := by decide +kernel
theorem dX12_builds_34 : decode cX12_builds 34 = .ok (.iadd, 1) := by decide +kernel
theorem dX12_builds_35 : decode cX12_builds 35 = .ok (.aload_n 0, 1) := by decide +kernel
theorem dX12_builds_36 : decode cX12_builds 36 = .ok (.iconst 0, 1) := by decide +kernel
theorem dX12_builds_37 : decode cX12_builds 37 = .ok (.invokevirtual 183, 3) := by decide +kernel
theorem dX12_builds_40 : decode cX12_builds 40 = .ok (.if_icmp .ge 7, 3) := by decide +kernel
theorem dX12_builds_43 : decode cX12_builds 43 = .ok (.iconst 1, 1) := by decide +kernel
theorem dX12_builds_44 : decode cX12_builds 44 = .ok (.goto 4, 3) := by decide +kernel
theorem dX12_builds_47 : decode cX12_builds 47 = .ok (.iconst 0, 1) := by decide +kernel
theorem dX12_builds_48 : decode cX12_builds 48 = .ok (.istore 5, 2) := by decide +kernel
theorem dX12_builds_50 : decode cX12_builds 50 = .ok (.iload_n 3, 1) := by decide +kernel
theorem dX12_builds_51 : decode cX12_builds 51 = .ok (.aload_n 0, 1) := by decide +kernel
theorem dX12_builds_52 : decode cX12_builds 52 = .ok (.iconst 0, 1) := by decide +kernel
theorem dX12_builds_53 : decode cX12_builds 53 = .ok (.invokevirtual 183, 3) := by decide +kernel
theorem dX12_builds_56 : decode cX12_builds 56 = .ok (.if_icmp .ge 7, 3) := by decide +kernel
theorem dX12_builds_59 : decode cX12_builds 59 = .ok (.iconst 1, 1) := by decide +kernel
theorem dX12_builds_60 : decode cX12_builds 60 = .ok (.goto 4, 3) := by decide +kernel
theorem dX12_builds_63 : decode cX12_builds 63 = .ok (.iconst 0, 1) := by decide +kernel
theorem dX12_builds_64 : decode cX12_builds 64 = .ok (.istore 6, 2) := by decide +kernel
theorem dX12_builds_66 : decode cX12_builds 66 = .ok (.iload_n 2, 1) := by decide +kernel
theorem dX12_builds_67 : decode cX12_builds 67 = .ok (.ifCond .ne 25, 3) := by decide +kernel
theorem dX12_builds_70 : decode cX12_builds 70 = .ok (.iload 5, 2) := by decide +kernel
theorem dX12_builds_72 : decode cX12_builds 72 = .ok (.ifCond .eq 20, 3) := by decide +kernel
theorem dX12_builds_75 : decode cX12_builds 75 = .ok (.aload_n 0, 1) := by decide +kernel
theorem dX12_builds_76 : decode cX12_builds 76 = .ok (.iconst 4, 1) := by decide +kernel
theorem dX12_builds_77 : decode cX12_builds 77 = .ok (.aload_n 0, 1) := by decide +kernel
theorem dX12_builds_78 : decode cX12_builds 78 = .ok (.iconst 4, 1) := by decide +kernel
theorem dX12_builds_79 : decode cX12_builds 79 = .ok (.invokevirtual 183, 3) := by decide +kernel
theorem dX12_builds_82 : decode cX12_builds 82 = .ok (.iconst 1, 1) := by decide +kernel
theorem dX12_builds_83 : decode cX12_builds 83 = .ok (.iload_n 3, 1) := by decide +kernel
theorem dX12_builds_84 : decode cX12_builds 84 = .ok (.ishl, 1) := by decide +kernel
theorem dX12_builds_85 : decode cX12_builds 85 = .ok (.ior, 1) := by decide +kernel
theorem dX12_builds_86 : decode cX12_builds 86 = .ok (.invokevirtual 160, 3) := by decide +kernel
theorem dX12_builds_89 : decode cX12_builds 89 = .ok (.goto 149, 3) := by decide +kernel
theorem dX12_builds_92 : decode cX12_builds 92 = .ok (.iload_n 2, 1) := by decide +kernel
theorem dX12_builds_93 : decode cX12_builds 93 = .ok (.iconst 1, 1) := by decide +kernel
theorem dX12_builds_94 : decode cX12_builds 94 = .ok (.if_icmp .ne 27, 3) := by decide +kernel
theorem dX12_builds_97 : decode cX12_builds 97 = .ok (.iload 5, 2) := by decide +kernel
theorem dX12_builds_99 : decode cX12_builds 99 = .ok (.ifCond .eq 22, 3) := by decide +kernel
theorem dX12_builds_102 : decode cX12_builds 102 = .ok (.aload_n 0, 1) := by decide +kernel
theorem dX12_builds_103 : decode cX12_builds 103 = .ok (.iconst 4, 1) := by decide +kernel
theorem dX12_builds_104 : decode cX12_builds 104 = .ok (.aload_n 0, 1) := by decide +kernel
theorem dX12_builds_105 : decode cX12_builds 105 = .ok (.iconst 4, 1) := by decide +kernel
theorem dX12_builds_106 : decode cX12_builds 106 = .ok (.invokevirtual 183, 3) := by decide +kernel
theorem dX12_builds_109 : decode cX12_builds 109 = .ok (.iconst 1, 1) := by decide +kernel
theorem dX12_builds_110 : decode cX12_builds 110 = .ok (.iload_n 3, 1) := by decide +kernel
theorem dX12_builds_111 : decode cX12_builds 111 = .ok (.ishl, 1) := by decide +kernel
theorem dX12_builds_112 : decode cX12_builds 112 = .ok (.iconst (-1), 1) := by decide +kernel
theorem dX12_builds_113 : decode cX12_builds 113 = .ok (.ixor, 1) := by decide +kernel
theorem dX12_builds_114 : decode cX12_builds 114 = .ok (.iand, 1) := by decide +kernel
theorem dX12_builds_115 : decode cX12_builds 115 = .ok (.invokevirtual 160, 3) := by decide +kernel
theorem dX12_builds_118 : decode cX12_builds 118 = .ok (.goto 120, 3) := by decide +kernel
theorem dX12_builds_121 : decode cX12_builds 121 = .ok (.iload_n 2, 1) := by decide +kernel
theorem dX12_builds_122 : decode cX12_builds 122 = .ok (.iconst 2, 1) := by decide +kernel
theorem dX12_builds_123 : decode cX12_builds 123 = .ok (.if_icmp .ne 24, 3) := by decide +kernel
theorem dX12_builds_126 : decode cX12_builds 126 = .ok (.aload_n 0, 1) := by decide +kernel
theorem dX12_builds_127 : decode cX12_builds 127 = .ok (.iconst 2, 1) := by decide +kernel
theorem dX12_builds_128 : decode cX12_builds 128 = .ok (.bipush 9, 2) := by decide +kernel
theorem dX12_builds_130 : decode cX12_builds 130 = .ok (.aload_n 0, 1) := by decide +kernel
theorem dX12_builds_131 : decode cX12_builds 131 = .ok (.iconst 2, 1) := by decide +kernel
theorem dX12_builds_132 : decode cX12_builds 132 = .ok (.invokevirtual 183, 3) := by decide +kernel
theorem dX12_builds_135 : decode cX12_builds 135 = .ok (.iload 4, 2) := by decide +kernel
theorem dX12_builds_137 : decode cX12_builds 137 = .ok (.iadd, 1) := by decide +kernel
theorem dX12_builds_138 : decode cX12_builds 138 = .ok (.invokestatic 189, 3) := by decide +kernel
theorem dX12_builds_141 : decode cX12_builds 141 = .ok (.invokevirtual 160, 3) := by decide +kernel
theorem dX12_builds_144 : decode cX12_builds 144 = .ok (.goto 94, 3) := by decide +kernel
theorem dX12_builds_147 : decode cX12_builds 147 = .ok (.iload_n 2, 1) := by decide +kernel
theorem dX12_builds_148 : decode cX12_builds 148 = .ok (.iconst 3, 1) := by decide +kernel
theorem dX12_builds_149 : decode cX12_builds 149 = .ok (.if_icmp .ne 23, 3) := by decide +kernel
theorem dX12_builds_152 : decode cX12_builds 152 = .ok (.aload_n 0, 1) := by decide +kernel
theorem dX12_builds_153 : decode cX12_builds 153 = .ok (.iconst 2, 1) := by decide +kernel
theorem dX12_builds_154 : decode cX12_builds 154 = .ok (.iconst 0, 1) := by decide +kernel
theorem dX12_builds_155 : decode cX12_builds 155 = .ok (.aload_n 0, 1) := by decide +kernel
theorem dX12_builds_156 : decode cX12_builds 156 = .ok (.iconst 2, 1) := by decide +kernel
theorem dX12_builds_157 : decode cX12_builds 157 = .ok (.invokevirtual 183, 3) := by decide +kernel
theorem dX12_builds_160 : decode cX12_builds 160 = .ok (.iload 4, 2) := by decide +kernel
theorem dX12_builds_162 : decode cX12_builds 162 = .ok (.isub, 1) := by decide +kernel
theorem dX12_builds_163 : decode cX12_builds 163 = .ok (.invokestatic 202, 3) := by decide +kernel
theorem dX12_builds_166 : decode cX12_builds 166 = .ok (.invokevirtual 160, 3) := by decide +kernel
theorem dX12_builds_169 : decode cX12_builds 169 = .ok (.goto 69, 3) := by decide +kernel
theorem dX12_builds_172 : decode cX12_builds 172 = .ok (.iload_n 2, 1) := by decide +kernel
theorem dX12_builds_173 : decode cX12_builds 173 = .ok (.iconst 4, 1) := by decide +kernel
theorem dX12_builds_174 : decode cX12_builds 174 = .ok (.if_icmp .ne 33, 3) := by decide +kernel
theorem dX12_builds_177 : decode cX12_builds 177 = .ok (.iload 6, 2) := by decide +kernel
theorem dX12_builds_179 : decode cX12_builds 179 = .ok (.ifCond .eq 28, 3) := by decide +kernel
theorem dX12_builds_182 : decode cX12_builds 182 = .ok (.aload_n 0, 1) := by decide +kernel
theorem dX12_builds_183 : decode cX12_builds 183 = .ok (.iconst 5, 1) := by decide +kernel
theorem dX12_builds_184 : decode cX12_builds 184 = .ok (.iload_n 3, 1) := by decide +kernel
theorem dX12_builds_185 : decode cX12_builds 185 = .ok (.iadd, 1) := by decide +kernel
theorem dX12_builds_186 : decode cX12_builds 186 = .ok (.bipush 9, 2) := by decide +kernel
theorem dX12_builds_188 : decode cX12_builds 188 = .ok (.aload_n 0, 1) := by decide +kernel
theorem dX12_builds_189 : decode cX12_builds 189 = .ok (.iconst 5, 1) := by decide +kernel
theorem dX12_builds_190 : decode cX12_builds 190 = .ok (.iload_n 3, 1) := by decide +kernel
theorem dX12_builds_191 : decode cX12_builds 191 = .ok (.iadd, 1) := by decide +kernel
theorem dX12_builds_192 : decode cX12_builds 192 = .ok (.invokevirtual 183, 3) := by decide +kernel
theorem dX12_builds_195 : decode cX12_builds 195 = .ok (.iload 4, 2) := by decide +kernel
theorem dX12_builds_197 : decode cX12_builds 197 = .ok (.iadd, 1) := by decide +kernel
theorem dX12_builds_198 : decode cX12_builds 198 = .ok (.invokestatic 189, 3) := by decide +kernel
theorem dX12_builds_201 : decode cX12_builds 201 = .ok (.invokevirtual 160, 3) := by decide +kernel
theorem dX12_builds_204 : decode cX12_builds 204 = .ok (.goto 34, 3) := by decide +kernel
theorem dX12_builds_207 : decode cX12_builds 207 = .ok (.iload_n 2, 1) := by decide +kernel
theorem dX12_builds_208 : decode cX12_builds 208 = .ok (.iconst 5, 1) := by decide +kernel
theorem dX12_builds_209 : decode cX12_builds 209 = .ok (.if_icmp .ne 29, 3) := by decide +kernel
theorem dX12_builds_212 : decode cX12_builds 212 = .ok (.iload 6, 2) := by decide +kernel
theorem dX12_builds_214 : decode cX12_builds 214 = .ok (.ifCond .eq 24, 3) := by decide +kernel
theorem dX12_builds_217 : decode cX12_builds 217 = .ok (.aload_n 0, 1) := by decide +kernel
theorem dX12_builds_218 : decode cX12_builds 218 = .ok (.iconst 5, 1) := by decide +kernel
theorem dX12_builds_219 : decode cX12_builds 219 = .ok (.iload_n 3, 1) := by decide +kernel
theorem dX12_builds_220 : decode cX12_builds 220 = .ok (.iadd, 1) := by decide +kernel
theorem dX12_builds_221 : decode cX12_builds 221 = .ok (.iconst 1, 1) := by decide +kernel
theorem dX12_builds_222 : decode cX12_builds 222 = .ok (.aload_n 0, 1) := by decide +kernel
theorem dX12_builds_223 : decode cX12_builds 223 = .ok (.iconst 5, 1) := by decide +kernel
theorem dX12_builds_224 : decode cX12_builds 224 = .ok (.iload_n 3, 1) := by decide +kernel
theorem dX12_builds_225 : decode cX12_builds 225 = .ok (.iadd, 1) := by decide +kernel
theorem dX12_builds_226 : decode cX12_builds 226 = .ok (.invokevirtual 183, 3) := by decide +kernel
theorem dX12_builds_229 : decode cX12_builds 229 = .ok (.iload 4, 2) := by decide +kernel
theorem dX12_builds_231 : decode cX12_builds 231 = .ok (.isub, 1) := by decide +kernel
theorem dX12_builds_232 : decode cX12_builds 232 = .ok (.invokestatic 202, 3) := by decide +kernel
theorem dX12_builds_235 : decode cX12_builds 235 = .ok (.invokevirtual 160, 3) := by decide +kernel
theorem dX12_builds_238 : decode cX12_builds 238 = .ok (.return_, 1) := by decide +kernel
theorem dX12_quietWith_0 : decode cX12_quietWith 0 = .ok (.aload_n 0, 1) := by decide +kernel
theorem dX12_quietWith_1 : decode cX12_quietWith 1 = .ok (.iconst 4, 1) := by decide +kernel
theorem dX12_quietWith_2 : decode cX12_quietWith 2 = .ok (.invokevirtual 167, 3) := by decide +kernel
theorem dX12_quietWith_5 : decode cX12_quietWith 5 = .ok (.aload_n 0, 1) := by decide +kernel
theorem dX12_quietWith_6 : decode cX12_quietWith 6 = .ok (.iload_n 1, 1) := by decide +kernel
theorem dX12_quietWith_7 : decode cX12_quietWith 7 = .ok (.invokevirtual 171, 3) := by decide +kernel
theorem dX12_quietWith_10 : decode cX12_quietWith 10 = .ok (.iconst 0, 1) := by decide +kernel
theorem dX12_quietWith_11 : decode cX12_quietWith 11 = .ok (.istore 4, 2) := by decide +kernel
theorem dX12_quietWith_13 : decode cX12_quietWith 13 = .ok (.iload 4, 2) := by decide +kernel
theorem dX12_quietWith_15 : decode cX12_quietWith 15 = .ok (.aload_n 0, 1) := by decide +kernel
theorem dX12_quietWith_16 : decode cX12_quietWith 16 = .ok (.getfield 337, 3) := by decide +kernel
theorem dX12_quietWith_19 : decode cX12_quietWith 19 = .ok (.if_icmp .ge 24, 3) := by decide +kernel
theorem dX12_quietWith_22 : decode cX12_quietWith 22 = .ok (.iload_n 3, 1) := by decide +kernel
theorem dX12_quietWith_23 : decode cX12_quietWith 23 = .ok (.iload 4, 2) := by decide +kernel
theorem dX12_quietWith_25 : decode cX12_quietWith 25 = .ok (.invokestatic 186, 3) := by decide +kernel
theorem dX12_quietWith_28 : decode cX12_quietWith 28 = .ok (.ifCond .eq 9, 3) := by decide +kernel
theorem dX12_quietWith_31 : decode cX12_quietWith 31 = .ok (.aload_n 0, 1) := by decide +kernel
theorem dX12_quietWith_32 : decode cX12_quietWith 32 = .ok (.iload 4, 2) := by decide +kernel
theorem dX12_quietWith_34 : decode cX12_quietWith 34 = .ok (.invokevirtual 340, 3) := by decide +kernel
theorem dX12_quietWith_37 : decode cX12_quietWith 37 = .ok (.iinc 4 1, 3) := by decide +kernel
theorem dX12_quietWith_40 : decode cX12_quietWith 40 = .ok (.goto (-27), 3) := by decide +kernel
theorem dX12_quietWith_43 : decode cX12_quietWith 43 = .ok (.aload_n 0, 1) := by decide +kernel
theorem dX12_quietWith_44 : decode cX12_quietWith 44 = .ok (.iload_n 2, 1) := by decide +kernel
theorem dX12_quietWith_45 : decode cX12_quietWith 45 = .ok (.invokevirtual 299, 3) := by decide +kernel
theorem dX12_quietWith_48 : decode cX12_quietWith 48 = .ok (.aload_n 0, 1) := by decide +kernel
theorem dX12_quietWith_49 : decode cX12_quietWith 49 = .ok (.aload_n 0, 1) := by decide +kernel
theorem dX12_quietWith_50 : decode cX12_quietWith 50 = .ok (.invokevirtual 308, 3) := by decide +kernel
theorem dX12_quietWith_53 : decode cX12_quietWith 53 = .ok (.invokevirtual 223, 3) := by decide +kernel
theorem dX12_quietWith_56 : decode cX12_quietWith 56 = .ok (.ireturn, 1) := by decide +kernel
theorem dX12_costOf_0 : decode cX12_costOf 0 = .ok (.iconst 0, 1) := by decide +kernel
theorem dX12_costOf_1 : decode cX12_costOf 1 = .ok (.istore_n 2, 1) := by decide +kernel
theorem dX12_costOf_2 : decode cX12_costOf 2 = .ok (.iconst 0, 1) := by decide +kernel
theorem dX12_costOf_3 : decode cX12_costOf 3 = .ok (.istore_n 3, 1) := by decide +kernel
theorem dX12_costOf_4 : decode cX12_costOf 4 = .ok (.iload_n 3, 1) := by decide +kernel
theorem dX12_costOf_5 : decode cX12_costOf 5 = .ok (.aload_n 0, 1) := by decide +kernel
theorem dX12_costOf_6 : decode cX12_costOf 6 = .ok (.getfield 337, 3) := by decide +kernel
theorem dX12_costOf_9 : decode cX12_costOf 9 = .ok (.if_icmp .ge 34, 3) := by decide +kernel
theorem dX12_costOf_12 : decode cX12_costOf 12 = .ok (.iload_n 2, 1) := by decide +kernel
theorem dX12_costOf_13 : decode cX12_costOf 13 = .ok (.iload_n 1, 1) := by decide +kernel
theorem dX12_costOf_14 : decode cX12_costOf 14 = .ok (.iload_n 3, 1) := by decide +kernel
theorem dX12_costOf_15 : decode cX12_costOf 15 = .ok (.invokestatic 186, 3) := by decide +kernel
theorem dX12_costOf_18 : decode cX12_costOf 18 = .ok (.ifCond .eq 16, 3) := by decide +kernel
theorem dX12_costOf_21 : decode cX12_costOf 21 = .ok (.aload_n 0, 1) := by decide +kernel
theorem dX12_costOf_22 : decode cX12_costOf 22 = .ok (.getfield 75, 3) := by decide +kernel
theorem dX12_costOf_25 : decode cX12_costOf 25 = .ok (.iconst 4, 1) := by decide +kernel
theorem dX12_costOf_26 : decode cX12_costOf 26 = .ok (.iload_n 3, 1) := by decide +kernel
theorem dX12_costOf_27 : decode cX12_costOf 27 = .ok (.imul, 1) := by decide +kernel
theorem dX12_costOf_28 : decode cX12_costOf 28 = .ok (.iconst 3, 1) := by decide +kernel
theorem dX12_costOf_29 : decode cX12_costOf 29 = .ok (.iadd, 1) := by decide +kernel
theorem dX12_costOf_30 : decode cX12_costOf 30 = .ok (.iaload, 1) := by decide +kernel
theorem dX12_costOf_31 : decode cX12_costOf 31 = .ok (.goto 4, 3) := by decide +kernel
theorem dX12_costOf_34 : decode cX12_costOf 34 = .ok (.iconst 0, 1) := by decide +kernel
theorem dX12_costOf_35 : decode cX12_costOf 35 = .ok (.iadd, 1) := by decide +kernel
theorem dX12_costOf_36 : decode cX12_costOf 36 = .ok (.istore_n 2, 1) := by decide +kernel
theorem dX12_costOf_37 : decode cX12_costOf 37 = .ok (.iinc 3 1, 3) := by decide +kernel
theorem dX12_costOf_40 : decode cX12_costOf 40 = .ok (.goto (-36), 3) := by decide +kernel
theorem dX12_costOf_43 : decode cX12_costOf 43 = .ok (.iload_n 2, 1) := by decide +kernel
theorem dX12_costOf_44 : decode cX12_costOf 44 = .ok (.ireturn, 1) := by decide +kernel
theorem dX12_does_0 : decode cX12_does 0 = .ok (.iload_n 3, 1) := by decide +kernel
theorem dX12_does_1 : decode cX12_does 1 = .ok (.iconst 0, 1) := by decide +kernel
theorem dX12_does_2 : decode cX12_does 2 = .ok (.iconst 1, 1) := by decide +kernel
theorem dX12_does_3 : decode cX12_does 3 = .ok (.aload_n 0, 1) := by decide +kernel
theorem dX12_does_4 : decode cX12_does 4 = .ok (.getfield 337, 3) := by decide +kernel
theorem dX12_does_7 : decode cX12_does 7 = .ok (.ishl, 1) := by decide +kernel
theorem dX12_does_8 : decode cX12_does 8 = .ok (.iconst 1, 1) := by decide +kernel
theorem dX12_does_9 : decode cX12_does 9 = .ok (.isub, 1) := by decide +kernel
theorem dX12_does_10 : decode cX12_does 10 = .ok (.invokestatic 86, 3) := by decide +kernel
theorem dX12_does_13 : decode cX12_does 13 = .ok (.ifCond .ne 5, 3) := by decide +kernel
theorem dX12_does_16 : decode cX12_does 16 = .ok (.iconst (-1), 1) := by decide +kernel
theorem dX12_does_17 : decode cX12_does 17 = .ok (.ireturn, 1) := by decide +kernel
theorem dX12_does_18 : decode cX12_does 18 = .ok (.aload_n 0, 1) := by decide +kernel
theorem dX12_does_19 : decode cX12_does 19 = .ok (.iload_n 1, 1) := by decide +kernel
theorem dX12_does_20 : decode cX12_does 20 = .ok (.iload_n 2, 1) := by decide +kernel
theorem dX12_does_21 : decode cX12_does 21 = .ok (.invokevirtual 302, 3) := by decide +kernel
theorem dX12_does_24 : decode cX12_does 24 = .ok (.istore 4, 2) := by decide +kernel
theorem dX12_does_26 : decode cX12_does 26 = .ok (.iload 4, 2) := by decide +kernel
theorem dX12_does_28 : decode cX12_does 28 = .ok (.ifCond .ge 8, 3) := by decide +kernel
theorem dX12_does_31 : decode cX12_does 31 = .ok (.iload 4, 2) := by decide +kernel
theorem dX12_does_33 : decode cX12_does 33 = .ok (.goto 19, 3) := by decide +kernel
theorem dX12_does_36 : decode cX12_does 36 = .ok (.aload_n 0, 1) := by decide +kernel
theorem dX12_does_37 : decode cX12_does 37 = .ok (.aload_n 0, 1) := by decide +kernel
theorem dX12_does_38 : decode cX12_does 38 = .ok (.iload_n 3, 1) := by decide +kernel
theorem dX12_does_39 : decode cX12_does 39 = .ok (.invokevirtual 343, 3) := by decide +kernel
theorem dX12_does_42 : decode cX12_does 42 = .ok (.aload_n 0, 1) := by decide +kernel
theorem dX12_does_43 : decode cX12_does 43 = .ok (.iload_n 1, 1) := by decide +kernel
theorem dX12_does_44 : decode cX12_does 44 = .ok (.iload_n 2, 1) := by decide +kernel
theorem dX12_does_45 : decode cX12_does 45 = .ok (.iload_n 3, 1) := by decide +kernel
theorem dX12_does_46 : decode cX12_does 46 = .ok (.invokevirtual 346, 3) := by decide +kernel
theorem dX12_does_49 : decode cX12_does 49 = .ok (.invokevirtual 108, 3) := by decide +kernel
theorem dX12_does_52 : decode cX12_does 52 = .ok (.ireturn, 1) := by decide +kernel
theorem dX12_worse_0 : decode cX12_worse 0 = .ok (.aload_n 0, 1) := by decide +kernel
theorem dX12_worse_1 : decode cX12_worse 1 = .ok (.iload_n 1, 1) := by decide +kernel
theorem dX12_worse_2 : decode cX12_worse 2 = .ok (.iload_n 2, 1) := by decide +kernel
theorem dX12_worse_3 : decode cX12_worse 3 = .ok (.invokevirtual 302, 3) := by decide +kernel
theorem dX12_worse_6 : decode cX12_worse 6 = .ok (.istore_n 3, 1) := by decide +kernel
theorem dX12_worse_7 : decode cX12_worse 7 = .ok (.iload_n 3, 1) := by decide +kernel
theorem dX12_worse_8 : decode cX12_worse 8 = .ok (.ifCond .ge 5, 3) := by decide +kernel
theorem dX12_worse_11 : decode cX12_worse 11 = .ok (.iload_n 3, 1) := by decide +kernel
theorem dX12_worse_12 : decode cX12_worse 12 = .ok (.ireturn, 1) := by decide +kernel
theorem dX12_worse_13 : decode cX12_worse 13 = .ok (.aload_n 0, 1) := by decide +kernel
theorem dX12_worse_14 : decode cX12_worse 14 = .ok (.iload_n 1, 1) := by decide +kernel
theorem dX12_worse_15 : decode cX12_worse 15 = .ok (.iload_n 2, 1) := by decide +kernel
theorem dX12_worse_16 : decode cX12_worse 16 = .ok (.iconst 0, 1) := by decide +kernel
theorem dX12_worse_17 : decode cX12_worse 17 = .ok (.invokevirtual 346, 3) := by decide +kernel
theorem dX12_worse_20 : decode cX12_worse 20 = .ok (.istore 4, 2) := by decide +kernel
theorem dX12_worse_22 : decode cX12_worse 22 = .ok (.iconst 0, 1) := by decide +kernel
theorem dX12_worse_23 : decode cX12_worse 23 = .ok (.istore 5, 2) := by decide +kernel
theorem dX12_worse_25 : decode cX12_worse 25 = .ok (.iconst 0, 1) := by decide +kernel
theorem dX12_worse_26 : decode cX12_worse 26 = .ok (.istore 6, 2) := by decide +kernel
theorem dX12_worse_28 : decode cX12_worse 28 = .ok (.iconst 0, 1) := by decide +kernel
theorem dX12_worse_29 : decode cX12_worse 29 = .ok (.istore 7, 2) := by decide +kernel
theorem dX12_worse_31 : decode cX12_worse 31 = .ok (.iload 7, 2) := by decide +kernel
theorem dX12_worse_33 : decode cX12_worse 33 = .ok (.aload_n 0, 1) := by decide +kernel
theorem dX12_worse_34 : decode cX12_worse 34 = .ok (.getfield 337, 3) := by decide +kernel
theorem dX12_worse_37 : decode cX12_worse 37 = .ok (.if_icmp .ge 61, 3) := by decide +kernel
theorem dX12_worse_40 : decode cX12_worse 40 = .ok (.aload_n 0, 1) := by decide +kernel
theorem dX12_worse_41 : decode cX12_worse 41 = .ok (.iload_n 1, 1) := by decide +kernel
theorem dX12_worse_42 : decode cX12_worse 42 = .ok (.iload_n 2, 1) := by decide +kernel
theorem dX12_worse_43 : decode cX12_worse 43 = .ok (.iconst 1, 1) := by decide +kernel
theorem dX12_worse_44 : decode cX12_worse 44 = .ok (.iload 7, 2) := by decide +kernel
theorem dX12_worse_46 : decode cX12_worse 46 = .ok (.ishl, 1) := by decide +kernel
theorem dX12_worse_47 : decode cX12_worse 47 = .ok (.invokevirtual 346, 3) := by decide +kernel
theorem dX12_worse_50 : decode cX12_worse 50 = .ok (.istore 8, 2) := by decide +kernel
theorem dX12_worse_52 : decode cX12_worse 52 = .ok (.iload 5, 2) := by decide +kernel
theorem dX12_worse_54 : decode cX12_worse 54 = .ok (.iload 8, 2) := by decide +kernel
theorem dX12_worse_56 : decode cX12_worse 56 = .ok (.iload 4, 2) := by decide +kernel
theorem dX12_worse_58 : decode cX12_worse 58 = .ok (.if_icmp .le 10, 3) := by decide +kernel
theorem dX12_worse_61 : decode cX12_worse 61 = .ok (.iconst 1, 1) := by decide +kernel
theorem dX12_worse_62 : decode cX12_worse 62 = .ok (.iload 7, 2) := by decide +kernel
theorem dX12_worse_64 : decode cX12_worse 64 = .ok (.ishl, 1) := by decide +kernel
theorem dX12_worse_65 : decode cX12_worse 65 = .ok (.goto 4, 3) := by decide +kernel
theorem dX12_worse_68 : decode cX12_worse 68 = .ok (.iconst 0, 1) := by decide +kernel
theorem dX12_worse_69 : decode cX12_worse 69 = .ok (.ior, 1) := by decide +kernel
theorem dX12_worse_70 : decode cX12_worse 70 = .ok (.istore 5, 2) := by decide +kernel
theorem dX12_worse_72 : decode cX12_worse 72 = .ok (.iload 6, 2) := by decide +kernel
theorem dX12_worse_74 : decode cX12_worse 74 = .ok (.iload 8, 2) := by decide +kernel
theorem dX12_worse_76 : decode cX12_worse 76 = .ok (.iload 4, 2) := by decide +kernel
theorem dX12_worse_78 : decode cX12_worse 78 = .ok (.if_icmp .ge 10, 3) := by decide +kernel
theorem dX12_worse_81 : decode cX12_worse 81 = .ok (.iconst 1, 1) := by decide +kernel
theorem dX12_worse_82 : decode cX12_worse 82 = .ok (.iload 7, 2) := by decide +kernel
theorem dX12_worse_84 : decode cX12_worse 84 = .ok (.ishl, 1) := by decide +kernel
theorem dX12_worse_85 : decode cX12_worse 85 = .ok (.goto 4, 3) := by decide +kernel
theorem dX12_worse_88 : decode cX12_worse 88 = .ok (.iconst 0, 1) := by decide +kernel
theorem dX12_worse_89 : decode cX12_worse 89 = .ok (.ior, 1) := by decide +kernel
theorem dX12_worse_90 : decode cX12_worse 90 = .ok (.istore 6, 2) := by decide +kernel
theorem dX12_worse_92 : decode cX12_worse 92 = .ok (.iinc 7 1, 3) := by decide +kernel
theorem dX12_worse_95 : decode cX12_worse 95 = .ok (.goto (-64), 3) := by decide +kernel
theorem dX12_worse_98 : decode cX12_worse 98 = .ok (.aload_n 0, 1) := by decide +kernel
theorem dX12_worse_99 : decode cX12_worse 99 = .ok (.iload 6, 2) := by decide +kernel
theorem dX12_worse_101 : decode cX12_worse 101 = .ok (.iload 5, 2) := by decide +kernel
theorem dX12_worse_103 : decode cX12_worse 103 = .ok (.invokevirtual 108, 3) := by decide +kernel
theorem dX12_worse_106 : decode cX12_worse 106 = .ok (.ireturn, 1) := by decide +kernel
theorem dX12_least_0 : decode cX12_least 0 = .ok (.iload_n 3, 1) := by decide +kernel
theorem dX12_least_1 : decode cX12_least 1 = .ok (.iconst 0, 1) := by decide +kernel
theorem dX12_least_2 : decode cX12_least 2 = .ok (.sipush 500, 3) := by decide +kernel
theorem dX12_least_5 : decode cX12_least 5 = .ok (.invokestatic 86, 3) := by decide +kernel
theorem dX12_least_8 : decode cX12_least 8 = .ok (.ifCond .ne 5, 3) := by decide +kernel
theorem dX12_least_11 : decode cX12_least 11 = .ok (.iconst (-1), 1) := by decide +kernel
theorem dX12_least_12 : decode cX12_least 12 = .ok (.ireturn, 1) := by decide +kernel
theorem dX12_least_13 : decode cX12_least 13 = .ok (.aload_n 0, 1) := by decide +kernel
theorem dX12_least_14 : decode cX12_least 14 = .ok (.iload_n 1, 1) := by decide +kernel
theorem dX12_least_15 : decode cX12_least 15 = .ok (.iload_n 2, 1) := by decide +kernel
theorem dX12_least_16 : decode cX12_least 16 = .ok (.invokevirtual 302, 3) := by decide +kernel
theorem dX12_least_19 : decode cX12_least 19 = .ok (.istore 4, 2) := by decide +kernel
theorem dX12_least_21 : decode cX12_least 21 = .ok (.iload 4, 2) := by decide +kernel
theorem dX12_least_23 : decode cX12_least 23 = .ok (.ifCond .ge 6, 3) := by decide +kernel
theorem dX12_least_26 : decode cX12_least 26 = .ok (.iload 4, 2) := by decide +kernel
theorem dX12_least_28 : decode cX12_least 28 = .ok (.ireturn, 1) := by decide +kernel
theorem dX12_least_29 : decode cX12_least 29 = .ok (.bipush (-9), 2) := by decide +kernel
theorem dX12_least_31 : decode cX12_least 31 = .ok (.istore 5, 2) := by decide +kernel
theorem dX12_least_33 : decode cX12_least 33 = .ok (.iconst 0, 1) := by decide +kernel
theorem dX12_least_34 : decode cX12_least 34 = .ok (.istore 6, 2) := by decide +kernel
theorem dX12_least_36 : decode cX12_least 36 = .ok (.iconst 0, 1) := by decide +kernel
theorem dX12_least_37 : decode cX12_least 37 = .ok (.istore 7, 2) := by decide +kernel
theorem dX12_least_39 : decode cX12_least 39 = .ok (.iload 7, 2) := by decide +kernel
theorem dX12_least_41 : decode cX12_least 41 = .ok (.iconst 1, 1) := by decide +kernel
theorem dX12_least_42 : decode cX12_least 42 = .ok (.aload_n 0, 1) := by decide +kernel
theorem dX12_least_43 : decode cX12_least 43 = .ok (.getfield 337, 3) := by decide +kernel
theorem dX12_least_46 : decode cX12_least 46 = .ok (.ishl, 1) := by decide +kernel
theorem dX12_least_47 : decode cX12_least 47 = .ok (.if_icmp .ge 73, 3) := by decide +kernel
theorem dX12_least_50 : decode cX12_least 50 = .ok (.aload_n 0, 1) := by decide +kernel
theorem dX12_least_51 : decode cX12_least 51 = .ok (.iload 7, 2) := by decide +kernel
theorem dX12_least_53 : decode cX12_least 53 = .ok (.invokevirtual 343, 3) := by decide +kernel
theorem dX12_least_56 : decode cX12_least 56 = .ok (.iload_n 3, 1) := by decide +kernel
theorem dX12_least_57 : decode cX12_least 57 = .ok (.if_icmp .gt 57, 3) := by decide +kernel
theorem dX12_least_60 : decode cX12_least 60 = .ok (.aload_n 0, 1) := by decide +kernel
theorem dX12_least_61 : decode cX12_least 61 = .ok (.iload_n 1, 1) := by decide +kernel
theorem dX12_least_62 : decode cX12_least 62 = .ok (.iload_n 2, 1) := by decide +kernel
theorem dX12_least_63 : decode cX12_least 63 = .ok (.iload 7, 2) := by decide +kernel
theorem dX12_least_65 : decode cX12_least 65 = .ok (.invokevirtual 346, 3) := by decide +kernel
theorem dX12_least_68 : decode cX12_least 68 = .ok (.istore 8, 2) := by decide +kernel
theorem dX12_least_70 : decode cX12_least 70 = .ok (.iload 5, 2) := by decide +kernel
theorem dX12_least_72 : decode cX12_least 72 = .ok (.bipush (-9), 2) := by decide +kernel
theorem dX12_least_74 : decode cX12_least 74 = .ok (.if_icmp .eq 32, 3) := by decide +kernel
theorem dX12_least_77 : decode cX12_least 77 = .ok (.iload 8, 2) := by decide +kernel
theorem dX12_least_79 : decode cX12_least 79 = .ok (.iload 6, 2) := by decide +kernel
theorem dX12_least_81 : decode cX12_least 81 = .ok (.if_icmp .lt 25, 3) := by decide +kernel
theorem dX12_least_84 : decode cX12_least 84 = .ok (.iload 8, 2) := by decide +kernel
theorem dX12_least_86 : decode cX12_least 86 = .ok (.iload 6, 2) := by decide +kernel
theorem dX12_least_88 : decode cX12_least 88 = .ok (.if_icmp .ne 26, 3) := by decide +kernel
theorem dX12_least_91 : decode cX12_least 91 = .ok (.aload_n 0, 1) := by decide +kernel
theorem dX12_least_92 : decode cX12_least 92 = .ok (.iload 7, 2) := by decide +kernel
theorem dX12_least_94 : decode cX12_least 94 = .ok (.invokevirtual 343, 3) := by decide +kernel
theorem dX12_least_97 : decode cX12_least 97 = .ok (.aload_n 0, 1) := by decide +kernel
theorem dX12_least_98 : decode cX12_least 98 = .ok (.iload 5, 2) := by decide +kernel
theorem dX12_least_100 : decode cX12_least 100 = .ok (.invokevirtual 343, 3) := by decide +kernel
theorem dX12_least_103 : decode cX12_least 103 = .ok (.if_icmp .ge 11, 3) := by decide +kernel
theorem dX12_least_106 : decode cX12_least 106 = .ok (.iload 7, 2) := by decide +kernel
theorem dX12_least_108 : decode cX12_least 108 = .ok (.istore 5, 2) := by decide +kernel
theorem dX12_least_110 : decode cX12_least 110 = .ok (.iload 8, 2) := by decide +kernel
theorem dX12_least_112 : decode cX12_least 112 = .ok (.istore 6, 2) := by decide +kernel
theorem dX12_least_114 : decode cX12_least 114 = .ok (.iinc 7 1, 3) := by decide +kernel
theorem dX12_least_117 : decode cX12_least 117 = .ok (.goto (-78), 3) := by decide +kernel
theorem dX12_least_120 : decode cX12_least 120 = .ok (.aload_n 0, 1) := by decide +kernel
theorem dX12_least_121 : decode cX12_least 121 = .ok (.iload 6, 2) := by decide +kernel
theorem dX12_least_123 : decode cX12_least 123 = .ok (.iload 5, 2) := by decide +kernel
theorem dX12_least_125 : decode cX12_least 125 = .ok (.invokevirtual 108, 3) := by decide +kernel
theorem dX12_least_128 : decode cX12_least 128 = .ok (.ireturn, 1) := by decide +kernel
theorem dX12_needFloat_0 : decode cX12_needFloat 0 = .ok (.aload_n 0, 1) := by decide +kernel
theorem dX12_needFloat_1 : decode cX12_needFloat 1 = .ok (.getfield 29, 3) := by decide +kernel
theorem dX12_needFloat_4 : decode cX12_needFloat 4 = .ok (.iload_n 1, 1) := by decide +kernel
theorem dX12_needFloat_5 : decode cX12_needFloat 5 = .ok (.baload, 1) := by decide +kernel
theorem dX12_needFloat_6 : decode cX12_needFloat 6 = .ok (.ifCond .eq 17, 3) := by decide +kernel
theorem dX12_needFloat_9 : decode cX12_needFloat 9 = .ok (.iload_n 2, 1) := by decide +kernel
theorem dX12_needFloat_10 : decode cX12_needFloat 10 = .ok (.ifCond .eq 13, 3) := by decide +kernel
theorem dX12_needFloat_13 : decode cX12_needFloat 13 = .ok (.aload_n 0, 1) := by decide +kernel
theorem dX12_needFloat_14 : decode cX12_needFloat 14 = .ok (.getfield 13, 3) := by decide +kernel
theorem dX12_needFloat_17 : decode cX12_needFloat 17 = .ok (.iload 5, 2) := by decide +kernel
theorem dX12_needFloat_19 : decode cX12_needFloat 19 = .ok (.iaload, 1) := by decide +kernel
theorem dX12_needFloat_20 : decode cX12_needFloat 20 = .ok (.ifCond .ge 9, 3) := by decide +kernel
theorem dX12_needFloat_23 : decode cX12_needFloat 23 = .ok (.aload_n 0, 1) := by decide +kernel
theorem dX12_needFloat_24 : decode cX12_needFloat 24 = .ok (.iconst 1, 1) := by decide +kernel
theorem dX12_needFloat_25 : decode cX12_needFloat 25 = .ok (.invokevirtual 100, 3) := by decide +kernel
theorem dX12_needFloat_28 : decode cX12_needFloat 28 = .ok (.ireturn, 1) := by decide +kernel
theorem dX12_needFloat_29 : decode cX12_needFloat 29 = .ok (.aload_n 0, 1) := by decide +kernel
theorem dX12_needFloat_30 : decode cX12_needFloat 30 = .ok (.getfield 13, 3) := by decide +kernel
theorem dX12_needFloat_33 : decode cX12_needFloat 33 = .ok (.iload 5, 2) := by decide +kernel
theorem dX12_needFloat_35 : decode cX12_needFloat 35 = .ok (.iaload, 1) := by decide +kernel
theorem dX12_needFloat_36 : decode cX12_needFloat 36 = .ok (.iconst 1, 1) := by decide +kernel
theorem dX12_needFloat_37 : decode cX12_needFloat 37 = .ok (.bipush 60, 2) := by decide +kernel
theorem dX12_needFloat_39 : decode cX12_needFloat 39 = .ok (.invokestatic 86, 3) := by decide +kernel
theorem dX12_needFloat_42 : decode cX12_needFloat 42 = .ok (.ifCond .ne 9, 3) := by decide +kernel
theorem dX12_needFloat_45 : decode cX12_needFloat 45 = .ok (.aload_n 0, 1) := by decide +kernel
theorem dX12_needFloat_46 : decode cX12_needFloat 46 = .ok (.iconst 5, 1) := by decide +kernel
theorem dX12_needFloat_47 : decode cX12_needFloat 47 = .ok (.invokevirtual 100, 3) := by decide +kernel
theorem dX12_needFloat_50 : decode cX12_needFloat 50 = .ok (.ireturn, 1) := by decide +kernel
theorem dX12_needFloat_51 : decode cX12_needFloat 51 = .ok (.aload_n 0, 1) := by decide +kernel
theorem dX12_needFloat_52 : decode cX12_needFloat 52 = .ok (.getfield 33, 3) := by decide +kernel
theorem dX12_needFloat_55 : decode cX12_needFloat 55 = .ok (.bipush 21, 2) := by decide +kernel
theorem dX12_needFloat_57 : decode cX12_needFloat 57 = .ok (.iload_n 1, 1) := by decide +kernel
theorem dX12_needFloat_58 : decode cX12_needFloat 58 = .ok (.imul, 1) := by decide +kernel
theorem dX12_needFloat_59 : decode cX12_needFloat 59 = .ok (.iaload, 1) := by decide +kernel
theorem dX12_needFloat_60 : decode cX12_needFloat 60 = .ok (.istore 6, 2) := by decide +kernel
theorem dX12_needFloat_62 : decode cX12_needFloat 62 = .ok (.iload_n 3, 1) := by decide +kernel
theorem dX12_needFloat_63 : decode cX12_needFloat 63 = .ok (.iload 6, 2) := by decide +kernel
theorem dX12_needFloat_65 : decode cX12_needFloat 65 = .ok (.if_icmp .ge 12, 3) := by decide +kernel
theorem dX12_needFloat_68 : decode cX12_needFloat 68 = .ok (.iload 4, 2) := by decide +kernel
theorem dX12_needFloat_70 : decode cX12_needFloat 70 = .ok (.iconst 1, 1) := by decide +kernel
theorem dX12_needFloat_71 : decode cX12_needFloat 71 = .ok (.iadd, 1) := by decide +kernel
theorem dX12_needFloat_72 : decode cX12_needFloat 72 = .ok (.iload 6, 2) := by decide +kernel
theorem dX12_needFloat_74 : decode cX12_needFloat 74 = .ok (.if_icmp .lt 9, 3) := by decide +kernel
theorem dX12_needFloat_77 : decode cX12_needFloat 77 = .ok (.aload_n 0, 1) := by decide +kernel
theorem dX12_needFloat_78 : decode cX12_needFloat 78 = .ok (.iconst 2, 1) := by decide +kernel
theorem dX12_needFloat_79 : decode cX12_needFloat 79 = .ok (.invokevirtual 100, 3) := by decide +kernel
theorem dX12_needFloat_82 : decode cX12_needFloat 82 = .ok (.ireturn, 1) := by decide +kernel
theorem dX12_needFloat_83 : decode cX12_needFloat 83 = .ok (.iconst 1, 1) := by decide +kernel
theorem dX12_needFloat_84 : decode cX12_needFloat 84 = .ok (.istore 7, 2) := by decide +kernel
theorem dX12_needFloat_86 : decode cX12_needFloat 86 = .ok (.iconst 0, 1) := by decide +kernel
theorem dX12_needFloat_87 : decode cX12_needFloat 87 = .ok (.istore 8, 2) := by decide +kernel
theorem dX12_needFloat_89 : decode cX12_needFloat 89 = .ok (.iload 8, 2) := by decide +kernel
theorem dX12_needFloat_91 : decode cX12_needFloat 91 = .ok (.aload_n 0, 1) := by decide +kernel
theorem dX12_needFloat_92 : decode cX12_needFloat 92 = .ok (.getfield 13, 3) := by decide +kernel
theorem dX12_needFloat_95 : decode cX12_needFloat 95 = .ok (.iload 5, 2) := by decide +kernel
theorem dX12_needFloat_97 : decode cX12_needFloat 97 = .ok (.iaload, 1) := by decide +kernel
theorem dX12_needFloat_98 : decode cX12_needFloat 98 = .ok (.if_icmp .ge 41, 3) := by decide +kernel
theorem dX12_needFloat_101 : decode cX12_needFloat 101 = .ok (.iload 7, 2) := by decide +kernel
theorem dX12_needFloat_103 : decode cX12_needFloat 103 = .ok (.ifCond .eq 27, 3) := by decide +kernel
theorem dX12_needFloat_106 : decode cX12_needFloat 106 = .ok (.aload_n 0, 1) := by decide +kernel
theorem dX12_needFloat_107 : decode cX12_needFloat 107 = .ok (.iload 5, 2) := by decide +kernel
theorem dX12_needFloat_109 : decode cX12_needFloat 109 = .ok (.iload 8, 2) := by decide +kernel
theorem dX12_needFloat_111 : decode cX12_needFloat 111 = .ok (.invokevirtual 104, 3) := by decide +kernel
theorem dX12_needFloat_114 : decode cX12_needFloat 114 = .ok (.sipush (-10000), 3) := by decide +kernel
theorem dX12_needFloat_117 : decode cX12_needFloat 117 = .ok (.sipush 10000, 3) := by decide +kernel
theorem dX12_needFloat_120 : decode cX12_needFloat 120 = .ok (.invokestatic 86, 3) := by decide +kernel
theorem dX12_needFloat_123 : decode cX12_needFloat 123 = .ok (.ifCond .eq 7, 3) := by decide +kernel
theorem dX12_needFloat_126 : decode cX12_needFloat 126 = .ok (.iconst 1, 1) := by decide +kernel
theorem dX12_needFloat_127 : decode cX12_needFloat 127 = .ok (.goto 4, 3) := by decide +kernel
theorem dX12_needFloat_130 : decode cX12_needFloat 130 = .ok (.iconst 0, 1) := by decide +kernel
theorem dX12_needFloat_131 : decode cX12_needFloat 131 = .ok (.istore 7, 2) := by decide +kernel
theorem dX12_needFloat_133 : decode cX12_needFloat 133 = .ok (.iinc 8 1, 3) := by decide +kernel
theorem dX12_needFloat_136 : decode cX12_needFloat 136 = .ok (.goto (-47), 3) := by decide +kernel
theorem dX12_needFloat_139 : decode cX12_needFloat 139 = .ok (.iload 7, 2) := by decide +kernel
theorem dX12_needFloat_141 : decode cX12_needFloat 141 = .ok (.ifCond .eq 7, 3) := by decide +kernel
theorem dX12_needFloat_144 : decode cX12_needFloat 144 = .ok (.iconst 0, 1) := by decide +kernel
theorem dX12_needFloat_145 : decode cX12_needFloat 145 = .ok (.goto 8, 3) := by decide +kernel
theorem dX12_needFloat_148 : decode cX12_needFloat 148 = .ok (.aload_n 0, 1) := by decide +kernel
theorem dX12_needFloat_149 : decode cX12_needFloat 149 = .ok (.iconst 3, 1) := by decide +kernel
theorem dX12_needFloat_150 : decode cX12_needFloat 150 = .ok (.invokevirtual 100, 3) := by decide +kernel
theorem dX12_needFloat_153 : decode cX12_needFloat 153 = .ok (.ireturn, 1) := by decide +kernel
theorem dX12_offFloat_0 : decode cX12_offFloat 0 = .ok (.aload_n 0, 1) := by decide +kernel
theorem dX12_offFloat_1 : decode cX12_offFloat 1 = .ok (.iload_n 1, 1) := by decide +kernel
theorem dX12_offFloat_2 : decode cX12_offFloat 2 = .ok (.invokevirtual 174, 3) := by decide +kernel
theorem dX12_offFloat_5 : decode cX12_offFloat 5 = .ok (.aload_n 0, 1) := by decide +kernel
theorem dX12_offFloat_6 : decode cX12_offFloat 6 = .ok (.invokevirtual 177, 3) := by decide +kernel
theorem dX12_offFloat_9 : decode cX12_offFloat 9 = .ok (.iconst 0, 1) := by decide +kernel
theorem dX12_offFloat_10 : decode cX12_offFloat 10 = .ok (.istore 4, 2) := by decide +kernel
theorem dX12_offFloat_12 : decode cX12_offFloat 12 = .ok (.iconst 0, 1) := by decide +kernel
theorem dX12_offFloat_13 : decode cX12_offFloat 13 = .ok (.istore 5, 2) := by decide +kernel
theorem dX12_offFloat_15 : decode cX12_offFloat 15 = .ok (.iload 5, 2) := by decide +kernel
theorem dX12_offFloat_17 : decode cX12_offFloat 17 = .ok (.aload_n 0, 1) := by decide +kernel
theorem dX12_offFloat_18 : decode cX12_offFloat 18 = .ok (.getfield 13, 3) := by decide +kernel
theorem dX12_offFloat_21 : decode cX12_offFloat 21 = .ok (.iload_n 3, 1) := by decide +kernel
theorem dX12_offFloat_22 : decode cX12_offFloat 22 = .ok (.iaload, 1) := by decide +kernel
theorem dX12_offFloat_23 : decode cX12_offFloat 23 = .ok (.if_icmp .ge 36, 3) := by decide +kernel
theorem dX12_offFloat_26 : decode cX12_offFloat 26 = .ok (.aload_n 0, 1) := by decide +kernel
theorem dX12_offFloat_27 : decode cX12_offFloat 27 = .ok (.invokevirtual 220, 3) := by decide +kernel
theorem dX12_offFloat_30 : decode cX12_offFloat 30 = .ok (.iload 4, 2) := by decide +kernel
theorem dX12_offFloat_32 : decode cX12_offFloat 32 = .ok (.aload_n 0, 1) := by decide +kernel
theorem dX12_offFloat_33 : decode cX12_offFloat 33 = .ok (.bipush 31, 2) := by decide +kernel
theorem dX12_offFloat_35 : decode cX12_offFloat 35 = .ok (.iload_n 2, 1) := by decide +kernel
theorem dX12_offFloat_36 : decode cX12_offFloat 36 = .ok (.iadd, 1) := by decide +kernel
theorem dX12_offFloat_37 : decode cX12_offFloat 37 = .ok (.invokevirtual 183, 3) := by decide +kernel
theorem dX12_offFloat_40 : decode cX12_offFloat 40 = .ok (.aload_n 0, 1) := by decide +kernel
theorem dX12_offFloat_41 : decode cX12_offFloat 41 = .ok (.iload_n 3, 1) := by decide +kernel
theorem dX12_offFloat_42 : decode cX12_offFloat 42 = .ok (.iload 5, 2) := by decide +kernel
theorem dX12_offFloat_44 : decode cX12_offFloat 44 = .ok (.invokevirtual 104, 3) := by decide +kernel
theorem dX12_offFloat_47 : decode cX12_offFloat 47 = .ok (.invokestatic 283, 3) := by decide +kernel
theorem dX12_offFloat_50 : decode cX12_offFloat 50 = .ok (.iadd, 1) := by decide +kernel
theorem dX12_offFloat_51 : decode cX12_offFloat 51 = .ok (.istore 4, 2) := by decide +kernel
theorem dX12_offFloat_53 : decode cX12_offFloat 53 = .ok (.iinc 5 1, 3) := by decide +kernel
theorem dX12_offFloat_56 : decode cX12_offFloat 56 = .ok (.goto (-41), 3) := by decide +kernel
theorem dX12_offFloat_59 : decode cX12_offFloat 59 = .ok (.iload 4, 2) := by decide +kernel
theorem dX12_offFloat_61 : decode cX12_offFloat 61 = .ok (.ireturn, 1) := by decide +kernel
theorem dX12_since_0 : decode cX12_since 0 = .ok (.iload_n 1, 1) := by decide +kernel
theorem dX12_since_1 : decode cX12_since 1 = .ok (.invokestatic 151, 3) := by decide +kernel
theorem dX12_since_4 : decode cX12_since 4 = .ok (.ifCond .eq 39, 3) := by decide +kernel
theorem dX12_since_7 : decode cX12_since 7 = .ok (.iload_n 2, 1) := by decide +kernel
theorem dX12_since_8 : decode cX12_since 8 = .ok (.invokestatic 151, 3) := by decide +kernel
theorem dX12_since_11 : decode cX12_since 11 = .ok (.ifCond .eq 32, 3) := by decide +kernel
theorem dX12_since_14 : decode cX12_since 14 = .ok (.iload_n 3, 1) := by decide +kernel
theorem dX12_since_15 : decode cX12_since 15 = .ok (.iconst 0, 1) := by decide +kernel
theorem dX12_since_16 : decode cX12_since 16 = .ok (.bipush 15, 2) := by decide +kernel
theorem dX12_since_18 : decode cX12_since 18 = .ok (.invokestatic 86, 3) := by decide +kernel
theorem dX12_since_21 : decode cX12_since 21 = .ok (.ifCond .eq 22, 3) := by decide +kernel
theorem dX12_since_24 : decode cX12_since 24 = .ok (.iload 4, 2) := by decide +kernel
theorem dX12_since_26 : decode cX12_since 26 = .ok (.iconst 0, 1) := by decide +kernel
theorem dX12_since_27 : decode cX12_since 27 = .ok (.bipush 15, 2) := by decide +kernel
theorem dX12_since_29 : decode cX12_since 29 = .ok (.invokestatic 86, 3) := by decide +kernel
theorem dX12_since_32 : decode cX12_since 32 = .ok (.ifCond .eq 11, 3) := by decide +kernel
theorem dX12_since_35 : decode cX12_since 35 = .ok (.iload 5, 2) := by decide +kernel
theorem dX12_since_37 : decode cX12_since 37 = .ok (.invokestatic 96, 3) := by decide +kernel
theorem dX12_since_40 : decode cX12_since 40 = .ok (.ifCond .ne 5, 3) := by decide +kernel
theorem dX12_since_43 : decode cX12_since 43 = .ok (.iconst (-1), 1) := by decide +kernel
theorem dX12_since_44 : decode cX12_since 44 = .ok (.ireturn, 1) := by decide +kernel
theorem dX12_since_45 : decode cX12_since 45 = .ok (.aload_n 0, 1) := by decide +kernel
theorem dX12_since_46 : decode cX12_since 46 = .ok (.iload_n 1, 1) := by decide +kernel
theorem dX12_since_47 : decode cX12_since 47 = .ok (.aload_n 0, 1) := by decide +kernel
theorem dX12_since_48 : decode cX12_since 48 = .ok (.getfield 36, 3) := by decide +kernel
theorem dX12_since_51 : decode cX12_since 51 = .ok (.iload_n 2, 1) := by decide +kernel
theorem dX12_since_52 : decode cX12_since 52 = .ok (.baload, 1) := by decide +kernel
theorem dX12_since_53 : decode cX12_since 53 = .ok (.iload_n 3, 1) := by decide +kernel
theorem dX12_since_54 : decode cX12_since 54 = .ok (.iload 4, 2) := by decide +kernel
theorem dX12_since_56 : decode cX12_since 56 = .ok (.iload 5, 2) := by decide +kernel
theorem dX12_since_58 : decode cX12_since 58 = .ok (.invokevirtual 349, 3) := by decide +kernel
theorem dX12_since_61 : decode cX12_since 61 = .ok (.istore 6, 2) := by decide +kernel
