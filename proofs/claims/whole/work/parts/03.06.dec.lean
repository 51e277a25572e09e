theorem dX12_watches_81 : decode cX12_watches 81 = .ok (.invokevirtual 160, 3) := by decide +kernel
theorem dX12_watches_84 : decode cX12_watches 84 = .ok (.return_, 1) := by decide +kernel
theorem dX12_second_0 : decode cX12_second 0 = .ok (.aload_n 0, 1) := by decide +kernel
theorem dX12_second_1 : decode cX12_second 1 = .ok (.bipush 30, 2) := by decide +kernel
theorem dX12_second_3 : decode cX12_second 3 = .ok (.invokevirtual 183, 3) := by decide +kernel
theorem dX12_second_6 : decode cX12_second 6 = .ok (.istore_n 1, 1) := by decide +kernel
theorem dX12_second_7 : decode cX12_second 7 = .ok (.aload_n 0, 1) := by decide +kernel
theorem dX12_second_8 : decode cX12_second 8 = .ok (.invokevirtual 205, 3) := by decide +kernel
theorem dX12_second_11 : decode cX12_second 11 = .ok (.aload_n 0, 1) := by decide +kernel
theorem dX12_second_12 : decode cX12_second 12 = .ok (.aload_n 0, 1) := by decide +kernel
theorem dX12_second_13 : decode cX12_second 13 = .ok (.iload_n 1, 1) := by decide +kernel
theorem dX12_second_14 : decode cX12_second 14 = .ok (.invokevirtual 208, 3) := by decide +kernel
theorem dX12_second_17 : decode cX12_second 17 = .ok (.invokevirtual 211, 3) := by decide +kernel
theorem dX12_second_20 : decode cX12_second 20 = .ok (.iconst 0, 1) := by decide +kernel
theorem dX12_second_21 : decode cX12_second 21 = .ok (.istore_n 2, 1) := by decide +kernel
theorem dX12_second_22 : decode cX12_second 22 = .ok (.iload_n 2, 1) := by decide +kernel
theorem dX12_second_23 : decode cX12_second 23 = .ok (.iconst 3, 1) := by decide +kernel
theorem dX12_second_24 : decode cX12_second 24 = .ok (.if_icmp .ge 56, 3) := by decide +kernel
theorem dX12_second_27 : decode cX12_second 27 = .ok (.iload_n 2, 1) := by decide +kernel
theorem dX12_second_28 : decode cX12_second 28 = .ok (.invokestatic 164, 3) := by decide +kernel
theorem dX12_second_31 : decode cX12_second 31 = .ok (.istore_n 3, 1) := by decide +kernel
theorem dX12_second_32 : decode cX12_second 32 = .ok (.aload_n 0, 1) := by decide +kernel
theorem dX12_second_33 : decode cX12_second 33 = .ok (.iload_n 3, 1) := by decide +kernel
theorem dX12_second_34 : decode cX12_second 34 = .ok (.invokevirtual 183, 3) := by decide +kernel
theorem dX12_second_37 : decode cX12_second 37 = .ok (.iconst 1, 1) := by decide +kernel
theorem dX12_second_38 : decode cX12_second 38 = .ok (.if_icmp .ne 36, 3) := by decide +kernel
theorem dX12_second_41 : decode cX12_second 41 = .ok (.aload_n 0, 1) := by decide +kernel
theorem dX12_second_42 : decode cX12_second 42 = .ok (.iload_n 3, 1) := by decide +kernel
theorem dX12_second_43 : decode cX12_second 43 = .ok (.aload_n 0, 1) := by decide +kernel
theorem dX12_second_44 : decode cX12_second 44 = .ok (.aload_n 0, 1) := by decide +kernel
theorem dX12_second_45 : decode cX12_second 45 = .ok (.iload_n 3, 1) := by decide +kernel
theorem dX12_second_46 : decode cX12_second 46 = .ok (.iconst 1, 1) := by decide +kernel
theorem dX12_second_47 : decode cX12_second 47 = .ok (.iadd, 1) := by decide +kernel
theorem dX12_second_48 : decode cX12_second 48 = .ok (.invokevirtual 183, 3) := by decide +kernel
theorem dX12_second_51 : decode cX12_second 51 = .ok (.invokevirtual 192, 3) := by decide +kernel
theorem dX12_second_54 : decode cX12_second 54 = .ok (.aload_n 0, 1) := by decide +kernel
theorem dX12_second_55 : decode cX12_second 55 = .ok (.aload_n 0, 1) := by decide +kernel
theorem dX12_second_56 : decode cX12_second 56 = .ok (.iload_n 3, 1) := by decide +kernel
theorem dX12_second_57 : decode cX12_second 57 = .ok (.iconst 1, 1) := by decide +kernel
theorem dX12_second_58 : decode cX12_second 58 = .ok (.iadd, 1) := by decide +kernel
theorem dX12_second_59 : decode cX12_second 59 = .ok (.invokevirtual 183, 3) := by decide +kernel
theorem dX12_second_62 : decode cX12_second 62 = .ok (.invokevirtual 195, 3) := by decide +kernel
theorem dX12_second_65 : decode cX12_second 65 = .ok (.iadd, 1) := by decide +kernel
theorem dX12_second_66 : decode cX12_second 66 = .ok (.invokevirtual 214, 3) := by decide +kernel
theorem dX12_second_69 : decode cX12_second 69 = .ok (.aload_n 0, 1) := by decide +kernel
theorem dX12_second_70 : decode cX12_second 70 = .ok (.iload_n 3, 1) := by decide +kernel
theorem dX12_second_71 : decode cX12_second 71 = .ok (.invokevirtual 217, 3) := by decide +kernel
theorem dX12_second_74 : decode cX12_second 74 = .ok (.iinc 2 1, 3) := by decide +kernel
theorem dX12_second_77 : decode cX12_second 77 = .ok (.goto (-55), 3) := by decide +kernel
theorem dX12_second_80 : decode cX12_second 80 = .ok (.iconst 0, 1) := by decide +kernel
theorem dX12_second_81 : decode cX12_second 81 = .ok (.istore_n 2, 1) := by decide +kernel
theorem dX12_second_82 : decode cX12_second 82 = .ok (.iload_n 2, 1) := by decide +kernel
theorem dX12_second_83 : decode cX12_second 83 = .ok (.aload_n 0, 1) := by decide +kernel
theorem dX12_second_84 : decode cX12_second 84 = .ok (.iconst 0, 1) := by decide +kernel
theorem dX12_second_85 : decode cX12_second 85 = .ok (.invokevirtual 183, 3) := by decide +kernel
theorem dX12_second_88 : decode cX12_second 88 = .ok (.if_icmp .ge 74, 3) := by decide +kernel
theorem dX12_second_91 : decode cX12_second 91 = .ok (.aload_n 0, 1) := by decide +kernel
theorem dX12_second_92 : decode cX12_second 92 = .ok (.bipush 31, 2) := by decide +kernel
theorem dX12_second_94 : decode cX12_second 94 = .ok (.iload_n 2, 1) := by decide +kernel
theorem dX12_second_95 : decode cX12_second 95 = .ok (.iadd, 1) := by decide +kernel
theorem dX12_second_96 : decode cX12_second 96 = .ok (.invokevirtual 183, 3) := by decide +kernel
theorem dX12_second_99 : decode cX12_second 99 = .ok (.istore_n 3, 1) := by decide +kernel
theorem dX12_second_100 : decode cX12_second 100 = .ok (.aload_n 0, 1) := by decide +kernel
theorem dX12_second_101 : decode cX12_second 101 = .ok (.bipush 63, 2) := by decide +kernel
theorem dX12_second_103 : decode cX12_second 103 = .ok (.iload_n 2, 1) := by decide +kernel
theorem dX12_second_104 : decode cX12_second 104 = .ok (.iadd, 1) := by decide +kernel
theorem dX12_second_105 : decode cX12_second 105 = .ok (.iload_n 1, 1) := by decide +kernel
theorem dX12_second_106 : decode cX12_second 106 = .ok (.ifCond .ne 7, 3) := by decide +kernel
theorem dX12_second_109 : decode cX12_second 109 = .ok (.iload_n 3, 1) := by decide +kernel
theorem dX12_second_110 : decode cX12_second 110 = .ok (.goto 15, 3) := by decide +kernel
theorem dX12_second_113 : decode cX12_second 113 = .ok (.aload_n 0, 1) := by decide +kernel
theorem dX12_second_114 : decode cX12_second 114 = .ok (.bipush 63, 2) := by decide +kernel
theorem dX12_second_116 : decode cX12_second 116 = .ok (.iload_n 2, 1) := by decide +kernel
theorem dX12_second_117 : decode cX12_second 117 = .ok (.iadd, 1) := by decide +kernel
theorem dX12_second_118 : decode cX12_second 118 = .ok (.invokevirtual 183, 3) := by decide +kernel
theorem dX12_second_121 : decode cX12_second 121 = .ok (.iload_n 3, 1) := by decide +kernel
theorem dX12_second_122 : decode cX12_second 122 = .ok (.invokestatic 189, 3) := by decide +kernel
theorem dX12_second_125 : decode cX12_second 125 = .ok (.invokevirtual 160, 3) := by decide +kernel
theorem dX12_second_128 : decode cX12_second 128 = .ok (.aload_n 0, 1) := by decide +kernel
theorem dX12_second_129 : decode cX12_second 129 = .ok (.bipush 79, 2) := by decide +kernel
theorem dX12_second_131 : decode cX12_second 131 = .ok (.iload_n 2, 1) := by decide +kernel
theorem dX12_second_132 : decode cX12_second 132 = .ok (.iadd, 1) := by decide +kernel
theorem dX12_second_133 : decode cX12_second 133 = .ok (.iload_n 1, 1) := by decide +kernel
theorem dX12_second_134 : decode cX12_second 134 = .ok (.ifCond .ne 7, 3) := by decide +kernel
theorem dX12_second_137 : decode cX12_second 137 = .ok (.iload_n 3, 1) := by decide +kernel
theorem dX12_second_138 : decode cX12_second 138 = .ok (.goto 15, 3) := by decide +kernel
theorem dX12_second_141 : decode cX12_second 141 = .ok (.aload_n 0, 1) := by decide +kernel
theorem dX12_second_142 : decode cX12_second 142 = .ok (.bipush 79, 2) := by decide +kernel
theorem dX12_second_144 : decode cX12_second 144 = .ok (.iload_n 2, 1) := by decide +kernel
theorem dX12_second_145 : decode cX12_second 145 = .ok (.iadd, 1) := by decide +kernel
theorem dX12_second_146 : decode cX12_second 146 = .ok (.invokevirtual 183, 3) := by decide +kernel
theorem dX12_second_149 : decode cX12_second 149 = .ok (.iload_n 3, 1) := by decide +kernel
theorem dX12_second_150 : decode cX12_second 150 = .ok (.invokestatic 202, 3) := by decide +kernel
theorem dX12_second_153 : decode cX12_second 153 = .ok (.invokevirtual 160, 3) := by decide +kernel
theorem dX12_second_156 : decode cX12_second 156 = .ok (.iinc 2 1, 3) := by decide +kernel
theorem dX12_second_159 : decode cX12_second 159 = .ok (.goto (-77), 3) := by decide +kernel
theorem dX12_second_162 : decode cX12_second 162 = .ok (.aload_n 0, 1) := by decide +kernel
theorem dX12_second_163 : decode cX12_second 163 = .ok (.bipush 30, 2) := by decide +kernel
theorem dX12_second_165 : decode cX12_second 165 = .ok (.iload_n 1, 1) := by decide +kernel
theorem dX12_second_166 : decode cX12_second 166 = .ok (.iconst 1, 1) := by decide +kernel
theorem dX12_second_167 : decode cX12_second 167 = .ok (.iadd, 1) := by decide +kernel
theorem dX12_second_168 : decode cX12_second 168 = .ok (.invokevirtual 160, 3) := by decide +kernel
theorem dX12_second_171 : decode cX12_second 171 = .ok (.return_, 1) := by decide +kernel
theorem dX12_range_0 : decode cX12_range 0 = .ok (.aload_n 0, 1) := by decide +kernel
theorem dX12_range_1 : decode cX12_range 1 = .ok (.bipush 79, 2) := by decide +kernel
theorem dX12_range_3 : decode cX12_range 3 = .ok (.iload_n 1, 1) := by decide +kernel
theorem dX12_range_4 : decode cX12_range 4 = .ok (.iadd, 1) := by decide +kernel
theorem dX12_range_5 : decode cX12_range 5 = .ok (.invokevirtual 183, 3) := by decide +kernel
theorem dX12_range_8 : decode cX12_range 8 = .ok (.aload_n 0, 1) := by decide +kernel
theorem dX12_range_9 : decode cX12_range 9 = .ok (.bipush 63, 2) := by decide +kernel
theorem dX12_range_11 : decode cX12_range 11 = .ok (.iload_n 1, 1) := by decide +kernel
theorem dX12_range_12 : decode cX12_range 12 = .ok (.iadd, 1) := by decide +kernel
theorem dX12_range_13 : decode cX12_range 13 = .ok (.invokevirtual 183, 3) := by decide +kernel
theorem dX12_range_16 : decode cX12_range 16 = .ok (.isub, 1) := by decide +kernel
theorem dX12_range_17 : decode cX12_range 17 = .ok (.ireturn, 1) := by decide +kernel
theorem dX12_go_0 : decode cX12_go 0 = .ok (.iload_n 1, 1) := by decide +kernel
theorem dX12_go_1 : decode cX12_go 1 = .ok (.iconst 0, 1) := by decide +kernel
theorem dX12_go_2 : decode cX12_go 2 = .ok (.sipush 400, 3) := by decide +kernel
theorem dX12_go_5 : decode cX12_go 5 = .ok (.invokestatic 86, 3) := by decide +kernel
theorem dX12_go_8 : decode cX12_go 8 = .ok (.ifCond .ne 5, 3) := by decide +kernel
theorem dX12_go_11 : decode cX12_go 11 = .ok (.iconst (-1), 1) := by decide +kernel
theorem dX12_go_12 : decode cX12_go 12 = .ok (.ireturn, 1) := by decide +kernel
theorem dX12_go_13 : decode cX12_go 13 = .ok (.aload_n 0, 1) := by decide +kernel
theorem dX12_go_14 : decode cX12_go 14 = .ok (.getfield 57, 3) := by decide +kernel
theorem dX12_go_17 : decode cX12_go 17 = .ok (.iconst 0, 1) := by decide +kernel
theorem dX12_go_18 : decode cX12_go 18 = .ok (.baload, 1) := by decide +kernel
theorem dX12_go_19 : decode cX12_go 19 = .ok (.ifCond .ne 6, 3) := by decide +kernel
theorem dX12_go_22 : decode cX12_go 22 = .ok (.bipush (-4), 2) := by decide +kernel
theorem dX12_go_24 : decode cX12_go 24 = .ok (.ireturn, 1) := by decide +kernel
theorem dX12_go_25 : decode cX12_go 25 = .ok (.aload_n 0, 1) := by decide +kernel
theorem dX12_go_26 : decode cX12_go 26 = .ok (.iconst 0, 1) := by decide +kernel
theorem dX12_go_27 : decode cX12_go 27 = .ok (.invokevirtual 167, 3) := by decide +kernel
theorem dX12_go_30 : decode cX12_go 30 = .ok (.aload_n 0, 1) := by decide +kernel
theorem dX12_go_31 : decode cX12_go 31 = .ok (.bipush 30, 2) := by decide +kernel
theorem dX12_go_33 : decode cX12_go 33 = .ok (.invokevirtual 183, 3) := by decide +kernel
theorem dX12_go_36 : decode cX12_go 36 = .ok (.iload_n 1, 1) := by decide +kernel
theorem dX12_go_37 : decode cX12_go 37 = .ok (.iadd, 1) := by decide +kernel
theorem dX12_go_38 : decode cX12_go 38 = .ok (.sipush 10000, 3) := by decide +kernel
theorem dX12_go_41 : decode cX12_go 41 = .ok (.if_icmp .le 6, 3) := by decide +kernel
theorem dX12_go_44 : decode cX12_go 44 = .ok (.bipush (-6), 2) := by decide +kernel
theorem dX12_go_46 : decode cX12_go 46 = .ok (.ireturn, 1) := by decide +kernel
theorem dX12_go_47 : decode cX12_go 47 = .ok (.iconst 0, 1) := by decide +kernel
theorem dX12_go_48 : decode cX12_go 48 = .ok (.istore_n 2, 1) := by decide +kernel
theorem dX12_go_49 : decode cX12_go 49 = .ok (.iload_n 2, 1) := by decide +kernel
theorem dX12_go_50 : decode cX12_go 50 = .ok (.iload_n 1, 1) := by decide +kernel
theorem dX12_go_51 : decode cX12_go 51 = .ok (.if_icmp .ge 13, 3) := by decide +kernel
theorem dX12_go_54 : decode cX12_go 54 = .ok (.aload_n 0, 1) := by decide +kernel
theorem dX12_go_55 : decode cX12_go 55 = .ok (.invokevirtual 220, 3) := by decide +kernel
theorem dX12_go_58 : decode cX12_go 58 = .ok (.iinc 2 1, 3) := by decide +kernel
theorem dX12_go_61 : decode cX12_go 61 = .ok (.goto (-12), 3) := by decide +kernel
theorem dX12_go_64 : decode cX12_go 64 = .ok (.aload_n 0, 1) := by decide +kernel
theorem dX12_go_65 : decode cX12_go 65 = .ok (.bipush 30, 2) := by decide +kernel
theorem dX12_go_67 : decode cX12_go 67 = .ok (.invokevirtual 183, 3) := by decide +kernel
theorem dX12_go_70 : decode cX12_go 70 = .ok (.ireturn, 1) := by decide +kernel
theorem dX12_cell_0 : decode cX12_cell 0 = .ok (.iload_n 1, 1) := by decide +kernel
theorem dX12_cell_1 : decode cX12_cell 1 = .ok (.iconst 0, 1) := by decide +kernel
theorem dX12_cell_2 : decode cX12_cell 2 = .ok (.bipush 15, 2) := by decide +kernel
theorem dX12_cell_4 : decode cX12_cell 4 = .ok (.invokestatic 86, 3) := by decide +kernel
theorem dX12_cell_7 : decode cX12_cell 7 = .ok (.ifCond .eq 12, 3) := by decide +kernel
theorem dX12_cell_10 : decode cX12_cell 10 = .ok (.iload_n 2, 1) := by decide +kernel
theorem dX12_cell_11 : decode cX12_cell 11 = .ok (.iconst 0, 1) := by decide +kernel
theorem dX12_cell_12 : decode cX12_cell 12 = .ok (.iconst 2, 1) := by decide +kernel
theorem dX12_cell_13 : decode cX12_cell 13 = .ok (.invokestatic 86, 3) := by decide +kernel
theorem dX12_cell_16 : decode cX12_cell 16 = .ok (.ifCond .ne 5, 3) := by decide +kernel
theorem dX12_cell_19 : decode cX12_cell 19 = .ok (.iconst (-1), 1) := by decide +kernel
theorem dX12_cell_20 : decode cX12_cell 20 = .ok (.ireturn, 1) := by decide +kernel
theorem dX12_cell_21 : decode cX12_cell 21 = .ok (.aload_n 0, 1) := by decide +kernel
theorem dX12_cell_22 : decode cX12_cell 22 = .ok (.getfield 57, 3) := by decide +kernel
theorem dX12_cell_25 : decode cX12_cell 25 = .ok (.iconst 0, 1) := by decide +kernel
theorem dX12_cell_26 : decode cX12_cell 26 = .ok (.baload, 1) := by decide +kernel
theorem dX12_cell_27 : decode cX12_cell 27 = .ok (.ifCond .ne 6, 3) := by decide +kernel
theorem dX12_cell_30 : decode cX12_cell 30 = .ok (.bipush (-4), 2) := by decide +kernel
theorem dX12_cell_32 : decode cX12_cell 32 = .ok (.ireturn, 1) := by decide +kernel
theorem dX12_cell_33 : decode cX12_cell 33 = .ok (.aload_n 0, 1) := by decide +kernel
theorem dX12_cell_34 : decode cX12_cell 34 = .ok (.iconst 0, 1) := by decide +kernel
theorem dX12_cell_35 : decode cX12_cell 35 = .ok (.invokevirtual 167, 3) := by decide +kernel
theorem dX12_cell_38 : decode cX12_cell 38 = .ok (.iload_n 1, 1) := by decide +kernel
theorem dX12_cell_39 : decode cX12_cell 39 = .ok (.aload_n 0, 1) := by decide +kernel
theorem dX12_cell_40 : decode cX12_cell 40 = .ok (.iconst 0, 1) := by decide +kernel
theorem dX12_cell_41 : decode cX12_cell 41 = .ok (.invokevirtual 183, 3) := by decide +kernel
theorem dX12_cell_44 : decode cX12_cell 44 = .ok (.if_icmp .lt 9, 3) := by decide +kernel
theorem dX12_cell_47 : decode cX12_cell 47 = .ok (.aload_n 0, 1) := by decide +kernel
theorem dX12_cell_48 : decode cX12_cell 48 = .ok (.iconst 2, 1) := by decide +kernel
theorem dX12_cell_49 : decode cX12_cell 49 = .ok (.invokevirtual 100, 3) := by decide +kernel
theorem dX12_cell_52 : decode cX12_cell 52 = .ok (.ireturn, 1) := by decide +kernel
theorem dX12_cell_53 : decode cX12_cell 53 = .ok (.aload_n 0, 1) := by decide +kernel
theorem dX12_cell_54 : decode cX12_cell 54 = .ok (.iload_n 2, 1) := by decide +kernel
theorem dX12_cell_55 : decode cX12_cell 55 = .ok (.ifCond .ne 14, 3) := by decide +kernel
theorem dX12_cell_58 : decode cX12_cell 58 = .ok (.aload_n 0, 1) := by decide +kernel
theorem dX12_cell_59 : decode cX12_cell 59 = .ok (.bipush 31, 2) := by decide +kernel
theorem dX12_cell_61 : decode cX12_cell 61 = .ok (.iload_n 1, 1) := by decide +kernel
theorem dX12_cell_62 : decode cX12_cell 62 = .ok (.iadd, 1) := by decide +kernel
theorem dX12_cell_63 : decode cX12_cell 63 = .ok (.invokevirtual 183, 3) := by decide +kernel
theorem dX12_cell_66 : decode cX12_cell 66 = .ok (.goto 21, 3) := by decide +kernel
theorem dX12_cell_69 : decode cX12_cell 69 = .ok (.iload_n 2, 1) := by decide +kernel
theorem dX12_cell_70 : decode cX12_cell 70 = .ok (.iconst 1, 1) := by decide +kernel
theorem dX12_cell_71 : decode cX12_cell 71 = .ok (.if_icmp .ne 11, 3) := by decide +kernel
theorem dX12_cell_74 : decode cX12_cell 74 = .ok (.aload_n 0, 1) := by decide +kernel
theorem dX12_cell_75 : decode cX12_cell 75 = .ok (.iload_n 1, 1) := by decide +kernel
theorem dX12_cell_76 : decode cX12_cell 76 = .ok (.invokevirtual 195, 3) := by decide +kernel
theorem dX12_cell_79 : decode cX12_cell 79 = .ok (.goto 8, 3) := by decide +kernel
theorem dX12_cell_82 : decode cX12_cell 82 = .ok (.aload_n 0, 1) := by decide +kernel
theorem dX12_cell_83 : decode cX12_cell 83 = .ok (.iload_n 1, 1) := by decide +kernel
theorem dX12_cell_84 : decode cX12_cell 84 = .ok (.invokevirtual 223, 3) := by decide +kernel
theorem dX12_cell_87 : decode cX12_cell 87 = .ok (.iconst 1, 1) := by decide +kernel
theorem dX12_cell_88 : decode cX12_cell 88 = .ok (.invokevirtual 108, 3) := by decide +kernel
theorem dX12_cell_91 : decode cX12_cell 91 = .ok (.ireturn, 1) := by decide +kernel
theorem dX12_ridesTells_0 : decode cX12_ridesTells 0 = .ok (.aload_n 0, 1) := by decide +kernel
theorem dX12_ridesTells_1 : decode cX12_ridesTells 1 = .ok (.iload_n 1, 1) := by decide +kernel
theorem dX12_ridesTells_2 : decode cX12_ridesTells 2 = .ok (.invokestatic 164, 3) := by decide +kernel
theorem dX12_ridesTells_5 : decode cX12_ridesTells 5 = .ok (.bipush 6, 2) := by decide +kernel
theorem dX12_ridesTells_7 : decode cX12_ridesTells 7 = .ok (.iadd, 1) := by decide +kernel
theorem dX12_ridesTells_8 : decode cX12_ridesTells 8 = .ok (.iload_n 2, 1) := by decide +kernel
theorem dX12_ridesTells_9 : decode cX12_ridesTells 9 = .ok (.iadd, 1) := by decide +kernel
theorem dX12_ridesTells_10 : decode cX12_ridesTells 10 = .ok (.invokevirtual 183, 3) := by decide +kernel
theorem dX12_ridesTells_13 : decode cX12_ridesTells 13 = .ok (.ireturn, 1) := by decide +kernel
theorem dX12_rides_0 : decode cX12_rides 0 = .ok (.iload_n 1, 1) := by decide +kernel
theorem dX12_rides_1 : decode cX12_rides 1 = .ok (.invokestatic 154, 3) := by decide +kernel
theorem dX12_rides_4 : decode cX12_rides 4 = .ok (.ifCond .eq 12, 3) := by decide +kernel
theorem dX12_rides_7 : decode cX12_rides 7 = .ok (.iload_n 2, 1) := by decide +kernel
theorem dX12_rides_8 : decode cX12_rides 8 = .ok (.iconst 0, 1) := by decide +kernel
theorem dX12_rides_9 : decode cX12_rides 9 = .ok (.iconst 3, 1) := by decide +kernel
theorem dX12_rides_10 : decode cX12_rides 10 = .ok (.invokestatic 86, 3) := by decide +kernel
theorem dX12_rides_13 : decode cX12_rides 13 = .ok (.ifCond .ne 5, 3) := by decide +kernel
theorem dX12_rides_16 : decode cX12_rides 16 = .ok (.iconst (-1), 1) := by decide +kernel
theorem dX12_rides_17 : decode cX12_rides 17 = .ok (.ireturn, 1) := by decide +kernel
theorem dX12_rides_18 : decode cX12_rides 18 = .ok (.aload_n 0, 1) := by decide +kernel
theorem dX12_rides_19 : decode cX12_rides 19 = .ok (.iconst 0, 1) := by decide +kernel
theorem dX12_rides_20 : decode cX12_rides 20 = .ok (.invokevirtual 167, 3) := by decide +kernel
theorem dX12_rides_23 : decode cX12_rides 23 = .ok (.aload_n 0, 1) := by decide +kernel
theorem dX12_rides_24 : decode cX12_rides 24 = .ok (.getfield 57, 3) := by decide +kernel
theorem dX12_rides_27 : decode cX12_rides 27 = .ok (.iconst 0, 1) := by decide +kernel
theorem dX12_rides_28 : decode cX12_rides 28 = .ok (.baload, 1) := by decide +kernel
theorem dX12_rides_29 : decode cX12_rides 29 = .ok (.ifCond .eq 29, 3) := by decide +kernel
theorem dX12_rides_32 : decode cX12_rides 32 = .ok (.aload_n 0, 1) := by decide +kernel
theorem dX12_rides_33 : decode cX12_rides 33 = .ok (.iload_n 1, 1) := by decide +kernel
theorem dX12_rides_34 : decode cX12_rides 34 = .ok (.invokestatic 164, 3) := by decide +kernel
theorem dX12_rides_37 : decode cX12_rides 37 = .ok (.invokevirtual 183, 3) := by decide +kernel
theorem dX12_rides_40 : decode cX12_rides 40 = .ok (.iconst 1, 1) := by decide +kernel
theorem dX12_rides_41 : decode cX12_rides 41 = .ok (.if_icmp .ne 17, 3) := by decide +kernel
theorem dX12_rides_44 : decode cX12_rides 44 = .ok (.aload_n 0, 1) := by decide +kernel
theorem dX12_rides_45 : decode cX12_rides 45 = .ok (.aload_n 0, 1) := by decide +kernel
theorem dX12_rides_46 : decode cX12_rides 46 = .ok (.iload_n 1, 1) := by decide +kernel
theorem dX12_rides_47 : decode cX12_rides 47 = .ok (.iload_n 2, 1) := by decide +kernel
theorem dX12_rides_48 : decode cX12_rides 48 = .ok (.invokevirtual 226, 3) := by decide +kernel
theorem dX12_rides_51 : decode cX12_rides 51 = .ok (.iconst 1, 1) := by decide +kernel
theorem dX12_rides_52 : decode cX12_rides 52 = .ok (.invokevirtual 108, 3) := by decide +kernel
theorem dX12_rides_55 : decode cX12_rides 55 = .ok (.goto 5, 3) := by decide +kernel
theorem dX12_rides_58 : decode cX12_rides 58 = .ok (.bipush (-4), 2) := by decide +kernel
theorem dX12_rides_60 : decode cX12_rides 60 = .ok (.ireturn, 1) := by decide +kernel
theorem dX12_gauge_0 : decode cX12_gauge 0 = .ok (.iload_n 1, 1) := by decide +kernel
theorem dX12_gauge_1 : decode cX12_gauge 1 = .ok (.iconst 0, 1) := by decide +kernel
theorem dX12_gauge_2 : decode cX12_gauge 2 = .ok (.bipush 15, 2) := by decide +kernel
theorem dX12_gauge_4 : decode cX12_gauge 4 = .ok (.invokestatic 86, 3) := by decide +kernel
theorem dX12_gauge_7 : decode cX12_gauge 7 = .ok (.ifCond .eq 20, 3) := by decide +kernel
theorem dX12_gauge_10 : decode cX12_gauge 10 = .ok (.iload_n 2, 1) := by decide +kernel
theorem dX12_gauge_11 : decode cX12_gauge 11 = .ok (.iconst 0, 1) := by decide +kernel
theorem dX12_gauge_12 : decode cX12_gauge 12 = .ok (.bipush 60, 2) := by decide +kernel
theorem dX12_gauge_14 : decode cX12_gauge 14 = .ok (.invokestatic 86, 3) := by decide +kernel
theorem dX12_gauge_17 : decode cX12_gauge 17 = .ok (.ifCond .eq 10, 3) := by decide +kernel
theorem dX12_gauge_20 : decode cX12_gauge 20 = .ok (.iload_n 3, 1) := by decide +kernel
theorem dX12_gauge_21 : decode cX12_gauge 21 = .ok (.invokestatic 96, 3) := by decide +kernel
theorem dX12_gauge_24 : decode cX12_gauge 24 = .ok (.ifCond .ne 5, 3) := by decide +kernel
theorem dX12_gauge_27 : decode cX12_gauge 27 = .ok (.iconst (-1), 1) := by decide +kernel
theorem dX12_gauge_28 : decode cX12_gauge 28 = .ok (.ireturn, 1) := by decide +kernel
theorem dX12_gauge_29 : decode cX12_gauge 29 = .ok (.aload_n 0, 1) := by decide +kernel
theorem dX12_gauge_30 : decode cX12_gauge 30 = .ok (.getfield 57, 3) := by decide +kernel
theorem dX12_gauge_33 : decode cX12_gauge 33 = .ok (.iconst 0, 1) := by decide +kernel
theorem dX12_gauge_34 : decode cX12_gauge 34 = .ok (.baload, 1) := by decide +kernel
theorem dX12_gauge_35 : decode cX12_gauge 35 = .ok (.ifCond .ne 6, 3) := by decide +kernel
theorem dX12_gauge_38 : decode cX12_gauge 38 = .ok (.bipush (-4), 2) := by decide +kernel
theorem dX12_gauge_40 : decode cX12_gauge 40 = .ok (.ireturn, 1) := by decide +kernel
theorem dX12_gauge_41 : decode cX12_gauge 41 = .ok (.aload_n 0, 1) := by decide +kernel
theorem dX12_gauge_42 : decode cX12_gauge 42 = .ok (.iconst 0, 1) := by decide +kernel
theorem dX12_gauge_43 : decode cX12_gauge 43 = .ok (.invokevirtual 167, 3) := by decide +kernel
theorem dX12_gauge_46 : decode cX12_gauge 46 = .ok (.iload_n 1, 1) := by decide +kernel
theorem dX12_gauge_47 : decode cX12_gauge 47 = .ok (.aload_n 0, 1) := by decide +kernel
theorem dX12_gauge_48 : decode cX12_gauge 48 = .ok (.iconst 0, 1) := by decide +kernel
theorem dX12_gauge_49 : decode cX12_gauge 49 = .ok (.invokevirtual 183, 3) := by decide +kernel
theorem dX12_gauge_52 : decode cX12_gauge 52 = .ok (.if_icmp .lt 9, 3) := by decide +kernel
theorem dX12_gauge_55 : decode cX12_gauge 55 = .ok (.aload_n 0, 1) := by decide +kernel
theorem dX12_gauge_56 : decode cX12_gauge 56 = .ok (.iconst 2, 1) := by decide +kernel
theorem dX12_gauge_57 : decode cX12_gauge 57 = .ok (.invokevirtual 100, 3) := by decide +kernel
theorem dX12_gauge_60 : decode cX12_gauge 60 = .ok (.ireturn, 1) := by decide +kernel
theorem dX12_gauge_61 : decode cX12_gauge 61 = .ok (.aload_n 0, 1) := by decide +kernel
theorem dX12_gauge_62 : decode cX12_gauge 62 = .ok (.bipush 30, 2) := by decide +kernel
theorem dX12_gauge_64 : decode cX12_gauge 64 = .ok (.invokevirtual 183, 3) := by decide +kernel
theorem dX12_gauge_67 : decode cX12_gauge 67 = .ok (.iload_n 2, 1) := by decide +kernel
theorem dX12_gauge_68 : decode cX12_gauge 68 = .ok (.iadd, 1) := by decide +kernel
theorem dX12_gauge_69 : decode cX12_gauge 69 = .ok (.sipush 10000, 3) := by decide +kernel
theorem dX12_gauge_72 : decode cX12_gauge 72 = .ok (.if_icmp .le 6, 3) := by decide +kernel
theorem dX12_gauge_75 : decode cX12_gauge 75 = .ok (.bipush (-6), 2) := by decide +kernel
theorem dX12_gauge_77 : decode cX12_gauge 77 = .ok (.ireturn, 1) := by decide +kernel
theorem dX12_gauge_78 : decode cX12_gauge 78 = .ok (.aload_n 0, 1) := by decide +kernel
theorem dX12_gauge_79 : decode cX12_gauge 79 = .ok (.getfield 13, 3) := by decide +kernel
theorem dX12_gauge_82 : decode cX12_gauge 82 = .ok (.iload_n 3, 1) := by decide +kernel
theorem dX12_gauge_83 : decode cX12_gauge 83 = .ok (.iload_n 2, 1) := by decide +kernel
theorem dX12_gauge_84 : decode cX12_gauge 84 = .ok (.iastore, 1) := by decide +kernel
theorem dX12_gauge_85 : decode cX12_gauge 85 = .ok (.iconst 0, 1) := by decide +kernel
theorem dX12_gauge_86 : decode cX12_gauge 86 = .ok (.istore 4, 2) := by decide +kernel
theorem dX12_gauge_88 : decode cX12_gauge 88 = .ok (.iload 4, 2) := by decide +kernel
theorem dX12_gauge_90 : decode cX12_gauge 90 = .ok (.bipush 60, 2) := by decide +kernel
theorem dX12_gauge_92 : decode cX12_gauge 92 = .ok (.if_icmp .ge 52, 3) := by decide +kernel
theorem dX12_gauge_95 : decode cX12_gauge 95 = .ok (.aload_n 0, 1) := by decide +kernel
theorem dX12_gauge_96 : decode cX12_gauge 96 = .ok (.getfield 16, 3) := by decide +kernel
theorem dX12_gauge_99 : decode cX12_gauge 99 = .ok (.bipush 60, 2) := by decide +kernel
theorem dX12_gauge_101 : decode cX12_gauge 101 = .ok (.iload_n 3, 1) := by decide +kernel
theorem dX12_gauge_102 : decode cX12_gauge 102 = .ok (.imul, 1) := by decide +kernel
theorem dX12_gauge_103 : decode cX12_gauge 103 = .ok (.iload 4, 2) := by decide +kernel
theorem dX12_gauge_105 : decode cX12_gauge 105 = .ok (.iadd, 1) := by decide +kernel
theorem dX12_gauge_106 : decode cX12_gauge 106 = .ok (.iconst 0, 1) := by decide +kernel
theorem dX12_gauge_107 : decode cX12_gauge 107 = .ok (.iastore, 1) := by decide +kernel
theorem dX12_gauge_108 : decode cX12_gauge 108 = .ok (.iload 4, 2) := by decide +kernel
theorem dX12_gauge_110 : decode cX12_gauge 110 = .ok (.iload_n 2, 1) := by decide +kernel
theorem dX12_gauge_111 : decode cX12_gauge 111 = .ok (.if_icmp .ge 27, 3) := by decide +kernel
theorem dX12_gauge_114 : decode cX12_gauge 114 = .ok (.aload_n 0, 1) := by decide +kernel
theorem dX12_gauge_115 : decode cX12_gauge 115 = .ok (.invokevirtual 220, 3) := by decide +kernel
theorem dX12_gauge_118 : decode cX12_gauge 118 = .ok (.aload_n 0, 1) := by decide +kernel
theorem dX12_gauge_119 : decode cX12_gauge 119 = .ok (.getfield 16, 3) := by decide +kernel
theorem dX12_gauge_122 : decode cX12_gauge 122 = .ok (.bipush 60, 2) := by decide +kernel
theorem dX12_gauge_124 : decode cX12_gauge 124 = .ok (.iload_n 3, 1) := by decide +kernel
theorem dX12_gauge_125 : decode cX12_gauge 125 = .ok (.imul, 1) := by decide +kernel
theorem dX12_gauge_126 : decode cX12_gauge 126 = .ok (.iload 4, 2) := by decide +kernel
theorem dX12_gauge_128 : decode cX12_gauge 128 = .ok (.iadd, 1) := by decide +kernel
theorem dX12_gauge_129 : decode cX12_gauge 129 = .ok (.aload_n 0, 1) := by decide +kernel
theorem dX12_gauge_130 : decode cX12_gauge 130 = .ok (.bipush 31, 2) := by decide +kernel
theorem dX12_gauge_132 : decode cX12_gauge 132 = .ok (.iload_n 1, 1) := by decide +kernel
theorem dX12_gauge_133 : decode cX12_gauge 133 = .ok (.iadd, 1) := by decide +kernel
theorem dX12_gauge_134 : decode cX12_gauge 134 = .ok (.invokevirtual 183, 3) := by decide +kernel
theorem dX12_gauge_137 : decode cX12_gauge 137 = .ok (.iastore, 1) := by decide +kernel
theorem dX12_gauge_138 : decode cX12_gauge 138 = .ok (.iinc 4 1, 3) := by decide +kernel
theorem dX12_gauge_141 : decode cX12_gauge 141 = .ok (.goto (-53), 3) := by decide +kernel
theorem dX12_gauge_144 : decode cX12_gauge 144 = .ok (.aload_n 0, 1) := by decide +kernel
theorem dX12_gauge_145 : decode cX12_gauge 145 = .ok (.bipush 30, 2) := by decide +kernel
theorem dX12_gauge_147 : decode cX12_gauge 147 = .ok (.invokevirtual 183, 3) := by decide +kernel
theorem dX12_gauge_150 : decode cX12_gauge 150 = .ok (.ireturn, 1) := by decide +kernel
theorem dX12_keep_0 : decode cX12_keep 0 = .ok (.iload_n 1, 1) := by decide +kernel
theorem dX12_keep_1 : decode cX12_keep 1 = .ok (.iconst 0, 1) := by decide +kernel
theorem dX12_keep_2 : decode cX12_keep 2 = .ok (.iconst 2, 1) := by decide +kernel
theorem dX12_keep_3 : decode cX12_keep 3 = .ok (.invokestatic 86, 3) := by decide +kernel
theorem dX12_keep_6 : decode cX12_keep 6 = .ok (.ifCond .ne 5, 3) := by decide +kernel
theorem dX12_keep_9 : decode cX12_keep 9 = .ok (.iconst (-1), 1) := by decide +kernel
theorem dX12_keep_10 : decode cX12_keep 10 = .ok (.ireturn, 1) := by decide +kernel
theorem dX12_keep_11 : decode cX12_keep 11 = .ok (.aload_n 0, 1) := by decide +kernel
theorem dX12_keep_12 : decode cX12_keep 12 = .ok (.getfield 57, 3) := by decide +kernel
theorem dX12_keep_15 : decode cX12_keep 15 = .ok (.iconst 0, 1) := by decide +kernel
theorem dX12_keep_16 : decode cX12_keep 16 = .ok (.baload, 1) := by decide +kernel
theorem dX12_keep_17 : decode cX12_keep 17 = .ok (.ifCond .ne 6, 3) := by decide +kernel
theorem dX12_keep_20 : decode cX12_keep 20 = .ok (.bipush (-4), 2) := by decide +kernel
theorem dX12_keep_22 : decode cX12_keep 22 = .ok (.ireturn, 1) := by decide +kernel
theorem dX12_keep_23 : decode cX12_keep 23 = .ok (.aload_n 0, 1) := by decide +kernel
theorem dX12_keep_24 : decode cX12_keep 24 = .ok (.iconst 0, 1) := by decide +kernel
theorem dX12_keep_25 : decode cX12_keep 25 = .ok (.iconst 1, 1) := by decide +kernel
theorem dX12_keep_26 : decode cX12_keep 26 = .ok (.iload_n 1, 1) := by decide +kernel
theorem dX12_keep_27 : decode cX12_keep 27 = .ok (.iadd, 1) := by decide +kernel
theorem dX12_keep_28 : decode cX12_keep 28 = .ok (.invokevirtual 229, 3) := by decide +kernel
theorem dX12_keep_31 : decode cX12_keep 31 = .ok (.aload_n 0, 1) := by decide +kernel
theorem dX12_keep_32 : decode cX12_keep 32 = .ok (.getfield 57, 3) := by decide +kernel
theorem dX12_keep_35 : decode cX12_keep 35 = .ok (.iconst 1, 1) := by decide +kernel
theorem dX12_keep_36 : decode cX12_keep 36 = .ok (.iload_n 1, 1) := by decide +kernel
theorem dX12_keep_37 : decode cX12_keep 37 = .ok (.iadd, 1) := by decide +kernel
theorem dX12_keep_38 : decode cX12_keep 38 = .ok (.iconst 1, 1) := by decide +kernel
theorem dX12_keep_39 : decode cX12_keep 39 = .ok (.bastore, 1) := by decide +kernel
theorem dX12_keep_40 : decode cX12_keep 40 = .ok (.aload_n 0, 1) := by decide +kernel
theorem dX12_keep_41 : decode cX12_keep 41 = .ok (.iconst 0, 1) := by decide +kernel
theorem dX12_keep_42 : decode cX12_keep 42 = .ok (.invokevirtual 167, 3) := by decide +kernel
theorem dX12_keep_45 : decode cX12_keep 45 = .ok (.aload_n 0, 1) := by decide +kernel
theorem dX12_keep_46 : decode cX12_keep 46 = .ok (.bipush 30, 2) := by decide +kernel
theorem dX12_keep_48 : decode cX12_keep 48 = .ok (.invokevirtual 183, 3) := by decide +kernel
theorem dX12_keep_51 : decode cX12_keep 51 = .ok (.ireturn, 1) := by decide +kernel
theorem dX12_on_0 : decode cX12_on 0 = .ok (.iload_n 1, 1) := by decide +kernel
theorem dX12_on_1 : decode cX12_on 1 = .ok (.iconst 0, 1) := by decide +kernel
theorem dX12_on_2 : decode cX12_on 2 = .ok (.iconst 2, 1) := by decide +kernel
theorem dX12_on_3 : decode cX12_on 3 = .ok (.invokestatic 86, 3) := by decide +kernel
theorem dX12_on_6 : decode cX12_on 6 = .ok (.ifCond .ne 5, 3) := by decide +kernel
theorem dX12_on_9 : decode cX12_on 9 = .ok (.iconst (-1), 1) := by decide +kernel
theorem dX12_on_10 : decode cX12_on 10 = .ok (.ireturn, 1) := by decide +kernel
theorem dX12_on_11 : decode cX12_on 11 = .ok (.aload_n 0, 1) := by decide +kernel
theorem dX12_on_12 : decode cX12_on 12 = .ok (.getfield 57, 3) := by decide +kernel
theorem dX12_on_15 : decode cX12_on 15 = .ok (.iconst 1, 1) := by decide +kernel
theorem dX12_on_16 : decode cX12_on 16 = .ok (.iload_n 1, 1) := by decide +kernel
theorem dX12_on_17 : decode cX12_on 17 = .ok (.iadd, 1) := by decide +kernel
theorem dX12_on_18 : decode cX12_on 18 = .ok (.baload, 1) := by decide +kernel
theorem dX12_on_19 : decode cX12_on 19 = .ok (.ifCond .ne 9, 3) := by decide +kernel
theorem dX12_on_22 : decode cX12_on 22 = .ok (.aload_n 0, 1) := by decide +kernel
theorem dX12_on_23 : decode cX12_on 23 = .ok (.iconst 1, 1) := by decide +kernel
theorem dX12_on_24 : decode cX12_on 24 = .ok (.invokevirtual 100, 3) := by decide +kernel
theorem dX12_on_27 : decode cX12_on 27 = .ok (.ireturn, 1) := by decide +kernel
theorem dX12_on_28 : decode cX12_on 28 = .ok (.aload_n 0, 1) := by decide +kernel
theorem dX12_on_29 : decode cX12_on 29 = .ok (.iconst 1, 1) := by decide +kernel
theorem dX12_on_30 : decode cX12_on 30 = .ok (.iload_n 1, 1) := by decide +kernel
theorem dX12_on_31 : decode cX12_on 31 = .ok (.iadd, 1) := by decide +kernel
theorem dX12_on_32 : decode cX12_on 32 = .ok (.iconst 0, 1) := by decide +kernel
theorem dX12_on_33 : decode cX12_on 33 = .ok (.invokevirtual 229, 3) := by decide +kernel
theorem dX12_on_36 : decode cX12_on 36 = .ok (.aload_n 0, 1) := by decide +kernel
theorem dX12_on_37 : decode cX12_on 37 = .ok (.getfield 57, 3) := by decide +kernel
theorem dX12_on_40 : decode cX12_on 40 = .ok (.iconst 0, 1) := by decide +kernel
theorem dX12_on_41 : decode cX12_on 41 = .ok (.iconst 1, 1) := by decide +kernel
theorem dX12_on_42 : decode cX12_on 42 = .ok (.bastore, 1) := by decide +kernel
theorem dX12_on_43 : decode cX12_on 43 = .ok (.aload_n 0, 1) := by decide +kernel
theorem dX12_on_44 : decode cX12_on 44 = .ok (.iconst 0, 1) := by decide +kernel
theorem dX12_on_45 : decode cX12_on 45 = .ok (.invokevirtual 167, 3) := by decide +kernel
theorem dX12_on_48 : decode cX12_on 48 = .ok (.aload_n 0, 1) := by decide +kernel
theorem dX12_on_49 : decode cX12_on 49 = .ok (.bipush 30, 2) := by decide +kernel
theorem dX12_on_51 : decode cX12_on 51 = .ok (.invokevirtual 183, 3) := by decide +kernel
theorem dX12_on_54 : decode cX12_on 54 = .ok (.ireturn, 1) := by decide +kernel
theorem dX12_water_0 : decode cX12_water 0 = .ok (.aload_n 0, 1) := by decide +kernel
theorem dX12_water_1 : decode cX12_water 1 = .ok (.getfield 57, 3) := by decide +kernel
theorem dX12_water_4 : decode cX12_water 4 = .ok (.iconst 0, 1) := by decide +kernel
theorem dX12_water_5 : decode cX12_water 5 = .ok (.baload, 1) := by decide +kernel
theorem dX12_water_6 : decode cX12_water 6 = .ok (.ifCond .ne 6, 3) := by decide +kernel
theorem dX12_water_9 : decode cX12_water 9 = .ok (.bipush (-4), 2) := by decide +kernel
theorem dX12_water_11 : decode cX12_water 11 = .ok (.ireturn, 1) := by decide +kernel
theorem dX12_water_12 : decode cX12_water 12 = .ok (.aload_n 0, 1) := by decide +kernel
theorem dX12_water_13 : decode cX12_water 13 = .ok (.iconst 0, 1) := by decide +kernel
theorem dX12_water_14 : decode cX12_water 14 = .ok (.invokevirtual 167, 3) := by decide +kernel
theorem dX12_water_17 : decode cX12_water 17 = .ok (.iconst 0, 1) := by decide +kernel
theorem dX12_water_18 : decode cX12_water 18 = .ok (.istore_n 1, 1) := by decide +kernel
theorem dX12_water_19 : decode cX12_water 19 = .ok (.iconst 0, 1) := by decide +kernel
theorem dX12_water_20 : decode cX12_water 20 = .ok (.istore_n 2, 1) := by decide +kernel
theorem dX12_water_21 : decode cX12_water 21 = .ok (.iload_n 2, 1) := by decide +kernel
theorem dX12_water_22 : decode cX12_water 22 = .ok (.aload_n 0, 1) := by decide +kernel
theorem dX12_water_23 : decode cX12_water 23 = .ok (.iconst 0, 1) := by decide +kernel
theorem dX12_water_24 : decode cX12_water 24 = .ok (.invokevirtual 183, 3) := by decide +kernel
theorem dX12_water_27 : decode cX12_water 27 = .ok (.if_icmp .ge 20, 3) := by decide +kernel
theorem dX12_water_30 : decode cX12_water 30 = .ok (.iload_n 1, 1) := by decide +kernel
theorem dX12_water_31 : decode cX12_water 31 = .ok (.aload_n 0, 1) := by decide +kernel
theorem dX12_water_32 : decode cX12_water 32 = .ok (.bipush 31, 2) := by decide +kernel
theorem dX12_water_34 : decode cX12_water 34 = .ok (.iload_n 2, 1) := by decide +kernel
theorem dX12_water_35 : decode cX12_water 35 = .ok (.iadd, 1) := by decide +kernel
theorem dX12_water_36 : decode cX12_water 36 = .ok (.invokevirtual 183, 3) := by decide +kernel
theorem dX12_water_39 : decode cX12_water 39 = .ok (.iadd, 1) := by decide +kernel
theorem dX12_water_40 : decode cX12_water 40 = .ok (.istore_n 1, 1) := by decide +kernel
theorem dX12_water_41 : decode cX12_water 41 = .ok (.iinc 2 1, 3) := by decide +kernel
theorem dX12_water_44 : decode cX12_water 44 = .ok (.goto (-23), 3) := by decide +kernel
theorem dX12_water_47 : decode cX12_water 47 = .ok (.aload_n 0, 1) := by decide +kernel
theorem dX12_water_48 : decode cX12_water 48 = .ok (.iload_n 1, 1) := by decide +kernel
theorem dX12_water_49 : decode cX12_water 49 = .ok (.iconst 1, 1) := by decide +kernel
theorem dX12_water_50 : decode cX12_water 50 = .ok (.invokevirtual 108, 3) := by decide +kernel
theorem dX12_water_53 : decode cX12_water 53 = .ok (.ireturn, 1) := by decide +kernel
theorem dX12_crosses_0 : decode cX12_crosses 0 = .ok (.aload_n 0, 1) := by decide +kernel
theorem dX12_crosses_1 : decode cX12_crosses 1 = .ok (.iconst 0, 1) := by decide +kernel
theorem dX12_crosses_2 : decode cX12_crosses 2 = .ok (.putfield 232, 3) := by decide +kernel
theorem dX12_crosses_5 : decode cX12_crosses 5 = .ok (.aload_n 0, 1) := by decide +kernel
theorem dX12_crosses_6 : decode cX12_crosses 6 = .ok (.iconst 0, 1) := by decide +kernel
theorem dX12_crosses_7 : decode cX12_crosses 7 = .ok (.putfield 235, 3) := by decide +kernel
theorem dX12_crosses_10 : decode cX12_crosses 10 = .ok (.aload_n 0, 1) := by decide +kernel
theorem dX12_crosses_11 : decode cX12_crosses 11 = .ok (.iconst 0, 1) := by decide +kernel
theorem dX12_crosses_12 : decode cX12_crosses 12 = .ok (.putfield 238, 3) := by decide +kernel
theorem dX12_crosses_15 : decode cX12_crosses 15 = .ok (.iconst 1, 1) := by decide +kernel
theorem dX12_crosses_16 : decode cX12_crosses 16 = .ok (.istore_n 1, 1) := by decide +kernel
theorem dX12_crosses_17 : decode cX12_crosses 17 = .ok (.iload_n 1, 1) := by decide +kernel
theorem dX12_crosses_18 : decode cX12_crosses 18 = .ok (.aload_n 0, 1) := by decide +kernel
theorem dX12_crosses_19 : decode cX12_crosses 19 = .ok (.getfield 241, 3) := by decide +kernel
theorem dX12_crosses_22 : decode cX12_crosses 22 = .ok (.if_icmp .ge 102, 3) := by decide +kernel
theorem dX12_crosses_25 : decode cX12_crosses 25 = .ok (.aload_n 0, 1) := by decide +kernel
theorem dX12_crosses_26 : decode cX12_crosses 26 = .ok (.getfield 63, 3) := by decide +kernel
theorem dX12_crosses_29 : decode cX12_crosses 29 = .ok (.iload_n 1, 1) := by decide +kernel
theorem dX12_crosses_30 : decode cX12_crosses 30 = .ok (.iconst 1, 1) := by decide +kernel
theorem dX12_crosses_31 : decode cX12_crosses 31 = .ok (.isub, 1) := by decide +kernel
theorem dX12_crosses_32 : decode cX12_crosses 32 = .ok (.iaload, 1) := by decide +kernel
theorem dX12_crosses_33 : decode cX12_crosses 33 = .ok (.ifCond .ge 85, 3) := by decide +kernel
theorem dX12_crosses_36 : decode cX12_crosses 36 = .ok (.aload_n 0, 1) := by decide +kernel
theorem dX12_crosses_37 : decode cX12_crosses 37 = .ok (.getfield 63, 3) := by decide +kernel
theorem dX12_crosses_40 : decode cX12_crosses 40 = .ok (.iload_n 1, 1) := by decide +kernel
theorem dX12_crosses_41 : decode cX12_crosses 41 = .ok (.iaload, 1) := by decide +kernel
theorem dX12_crosses_42 : decode cX12_crosses 42 = .ok (.ifCond .lt 76, 3) := by decide +kernel
theorem dX12_crosses_45 : decode cX12_crosses 45 = .ok (.iload_n 1, 1) := by decide +kernel
theorem dX12_crosses_46 : decode cX12_crosses 46 = .ok (.aload_n 0, 1) := by decide +kernel
theorem dX12_crosses_47 : decode cX12_crosses 47 = .ok (.getfield 244, 3) := by decide +kernel
theorem dX12_crosses_50 : decode cX12_crosses 50 = .ok (.isub, 1) := by decide +kernel
theorem dX12_crosses_51 : decode cX12_crosses 51 = .ok (.istore_n 2, 1) := by decide +kernel
theorem dX12_crosses_52 : decode cX12_crosses 52 = .ok (.aload_n 0, 1) := by decide +kernel
theorem dX12_crosses_53 : decode cX12_crosses 53 = .ok (.getfield 232, 3) := by decide +kernel
theorem dX12_crosses_56 : decode cX12_crosses 56 = .ok (.ifCond .ne 11, 3) := by decide +kernel
theorem dX12_crosses_59 : decode cX12_crosses 59 = .ok (.aload_n 0, 1) := by decide +kernel
theorem dX12_crosses_60 : decode cX12_crosses 60 = .ok (.iload_n 1, 1) := by decide +kernel
theorem dX12_crosses_61 : decode cX12_crosses 61 = .ok (.putfield 247, 3) := by decide +kernel
theorem dX12_crosses_64 : decode cX12_crosses 64 = .ok (.goto 39, 3) := by decide +kernel
theorem dX12_crosses_67 : decode cX12_crosses 67 = .ok (.aload_n 0, 1) := by decide +kernel
theorem dX12_crosses_68 : decode cX12_crosses 68 = .ok (.aload_n 0, 1) := by decide +kernel
theorem dX12_crosses_69 : decode cX12_crosses 69 = .ok (.getfield 232, 3) := by decide +kernel
theorem dX12_crosses_72 : decode cX12_crosses 72 = .ok (.iconst 1, 1) := by decide +kernel
theorem dX12_crosses_73 : decode cX12_crosses 73 = .ok (.if_icmp .ne 7, 3) := by decide +kernel
theorem dX12_crosses_76 : decode cX12_crosses 76 = .ok (.iload_n 2, 1) := by decide +kernel
theorem dX12_crosses_77 : decode cX12_crosses 77 = .ok (.goto 11, 3) := by decide +kernel
theorem dX12_crosses_80 : decode cX12_crosses 80 = .ok (.aload_n 0, 1) := by decide +kernel
theorem dX12_crosses_81 : decode cX12_crosses 81 = .ok (.getfield 235, 3) := by decide +kernel
theorem dX12_crosses_84 : decode cX12_crosses 84 = .ok (.iload_n 2, 1) := by decide +kernel
theorem dX12_crosses_85 : decode cX12_crosses 85 = .ok (.invokestatic 189, 3) := by decide +kernel
theorem dX12_crosses_88 : decode cX12_crosses 88 = .ok (.putfield 235, 3) := by decide +kernel
theorem dX12_crosses_91 : decode cX12_crosses 91 = .ok (.aload_n 0, 1) := by decide +kernel
theorem dX12_crosses_92 : decode cX12_crosses 92 = .ok (.aload_n 0, 1) := by decide +kernel
theorem dX12_crosses_93 : decode cX12_crosses 93 = .ok (.getfield 238, 3) := by decide +kernel
theorem dX12_crosses_96 : decode cX12_crosses 96 = .ok (.iload_n 2, 1) := by decide +kernel
theorem dX12_crosses_97 : decode cX12_crosses 97 = .ok (.invokestatic 202, 3) := by decide +kernel
theorem dX12_crosses_100 : decode cX12_crosses 100 = .ok (.putfield 238, 3) := by decide +kernel
theorem dX12_crosses_103 : decode cX12_crosses 103 = .ok (.aload_n 0, 1) := by decide +kernel
theorem dX12_crosses_104 : decode cX12_crosses 104 = .ok (.iload_n 1, 1) := by decide +kernel
theorem dX12_crosses_105 : decode cX12_crosses 105 = .ok (.putfield 244, 3) := by decide +kernel
theorem dX12_crosses_108 : decode cX12_crosses 108 = .ok (.aload_n 0, 1) := by decide +kernel
theorem dX12_crosses_109 : decode cX12_crosses 109 = .ok (.dup, 1) := by decide +kernel
theorem dX12_crosses_110 : decode cX12_crosses 110 = .ok (.getfield 232, 3) := by decide +kernel
theorem dX12_crosses_113 : decode cX12_crosses 113 = .ok (.iconst 1, 1) := by decide +kernel
theorem dX12_crosses_114 : decode cX12_crosses 114 = .ok (.iadd, 1) := by decide +kernel
theorem dX12_crosses_115 : decode cX12_crosses 115 = .ok (.putfield 232, 3) := by decide +kernel
theorem dX12_crosses_118 : decode cX12_crosses 118 = .ok (.iinc 1 1, 3) := by decide +kernel
theorem dX12_crosses_121 : decode cX12_crosses 121 = .ok (.goto (-104), 3) := by decide +kernel
theorem dX12_crosses_124 : decode cX12_crosses 124 = .ok (.return_, 1) := by decide +kernel
theorem dX12_isBeat_0 : decode cX12_isBeat 0 = .ok (.aload_n 0, 1) := by decide +kernel
theorem dX12_isBeat_1 : decode cX12_isBeat 1 = .ok (.getfield 232, 3) := by decide +kernel
theorem dX12_isBeat_4 : decode cX12_isBeat 4 = .ok (.iconst 2, 1) := by decide +kernel
theorem dX12_isBeat_5 : decode cX12_isBeat 5 = .ok (.if_icmp .lt 7, 3) := by decide +kernel
theorem dX12_isBeat_8 : decode cX12_isBeat 8 = .ok (.iconst 1, 1) := by decide +kernel
theorem dX12_isBeat_9 : decode cX12_isBeat 9 = .ok (.goto 4, 3) := by decide +kernel
theorem dX12_isBeat_12 : decode cX12_isBeat 12 = .ok (.iconst 0, 1) := by decide +kernel
theorem dX12_isBeat_13 : decode cX12_isBeat 13 = .ok (.ireturn, 1) := by decide +kernel
theorem dX12_beatCut_0 : decode cX12_beatCut 0 = .ok (.aload_n 0, 1) := by decide +kernel
theorem dX12_beatCut_1 : decode cX12_beatCut 1 = .ok (.getfield 244, 3) := by decide +kernel
theorem dX12_beatCut_4 : decode cX12_beatCut 4 = .ok (.aload_n 0, 1) := by decide +kernel
theorem dX12_beatCut_5 : decode cX12_beatCut 5 = .ok (.getfield 247, 3) := by decide +kernel
theorem dX12_beatCut_8 : decode cX12_beatCut 8 = .ok (.isub, 1) := by decide +kernel
theorem dX12_beatCut_9 : decode cX12_beatCut 9 = .ok (.aload_n 0, 1) := by decide +kernel
theorem dX12_beatCut_10 : decode cX12_beatCut 10 = .ok (.getfield 232, 3) := by decide +kernel
theorem dX12_beatCut_13 : decode cX12_beatCut 13 = .ok (.iconst 1, 1) := by decide +kernel
theorem dX12_beatCut_14 : decode cX12_beatCut 14 = .ok (.isub, 1) := by decide +kernel
theorem dX12_beatCut_15 : decode cX12_beatCut 15 = .ok (.idiv, 1) := by decide +kernel
theorem dX12_beatCut_16 : decode cX12_beatCut 16 = .ok (.ireturn, 1) := by decide +kernel
theorem dX12_tellsBeat_0 : decode cX12_tellsBeat 0 = .ok (.aload_n 0, 1) := by decide +kernel
theorem dX12_tellsBeat_1 : decode cX12_tellsBeat 1 = .ok (.invokevirtual 250, 3) := by decide +kernel
theorem dX12_tellsBeat_4 : decode cX12_tellsBeat 4 = .ok (.ifCond .eq 31, 3) := by decide +kernel
theorem dX12_tellsBeat_7 : decode cX12_tellsBeat 7 = .ok (.aload_n 0, 1) := by decide +kernel
theorem dX12_tellsBeat_8 : decode cX12_tellsBeat 8 = .ok (.aload_n 0, 1) := by decide +kernel
theorem dX12_tellsBeat_9 : decode cX12_tellsBeat 9 = .ok (.getfield 244, 3) := by decide +kernel
theorem dX12_tellsBeat_12 : decode cX12_tellsBeat 12 = .ok (.aload_n 0, 1) := by decide +kernel
theorem dX12_tellsBeat_13 : decode cX12_tellsBeat 13 = .ok (.getfield 247, 3) := by decide +kernel
theorem dX12_tellsBeat_16 : decode cX12_tellsBeat 16 = .ok (.isub, 1) := by decide +kernel
theorem dX12_tellsBeat_17 : decode cX12_tellsBeat 17 = .ok (.i2l, 1) := by decide +kernel
theorem dX12_tellsBeat_18 : decode cX12_tellsBeat 18 = .ok (.aload_n 0, 1) := by decide +kernel
theorem dX12_tellsBeat_19 : decode cX12_tellsBeat 19 = .ok (.getfield 232, 3) := by decide +kernel
theorem dX12_tellsBeat_22 : decode cX12_tellsBeat 22 = .ok (.iconst 1, 1) := by decide +kernel
theorem dX12_tellsBeat_23 : decode cX12_tellsBeat 23 = .ok (.isub, 1) := by decide +kernel
theorem dX12_tellsBeat_24 : decode cX12_tellsBeat 24 = .ok (.i2l, 1) := by decide +kernel
theorem dX12_tellsBeat_25 : decode cX12_tellsBeat 25 = .ok (.aload_n 0, 1) := by decide +kernel
theorem dX12_tellsBeat_26 : decode cX12_tellsBeat 26 = .ok (.getfield 232, 3) := by decide +kernel
theorem dX12_tellsBeat_29 : decode cX12_tellsBeat 29 = .ok (.invokevirtual 254, 3) := by decide +kernel
theorem dX12_tellsBeat_32 : decode cX12_tellsBeat 32 = .ok (.goto 8, 3) := by decide +kernel
theorem dX12_tellsBeat_35 : decode cX12_tellsBeat 35 = .ok (.aload_n 0, 1) := by decide +kernel
theorem dX12_tellsBeat_36 : decode cX12_tellsBeat 36 = .ok (.iconst 4, 1) := by decide +kernel
theorem dX12_tellsBeat_37 : decode cX12_tellsBeat 37 = .ok (.invokevirtual 100, 3) := by decide +kernel
theorem dX12_tellsBeat_40 : decode cX12_tellsBeat 40 = .ok (.ireturn, 1) := by decide +kernel
theorem dX12_needHeard_0 : decode cX12_needHeard 0 = .ok (.iload_n 1, 1) := by decide +kernel
theorem dX12_needHeard_1 : decode cX12_needHeard 1 = .ok (.invokestatic 96, 3) := by decide +kernel
theorem dX12_needHeard_4 : decode cX12_needHeard 4 = .ok (.ifCond .ne 5, 3) := by decide +kernel
theorem dX12_needHeard_7 : decode cX12_needHeard 7 = .ok (.iconst (-1), 1) := by decide +kernel
theorem dX12_needHeard_8 : decode cX12_needHeard 8 = .ok (.ireturn, 1) := by decide +kernel
theorem dX12_needHeard_9 : decode cX12_needHeard 9 = .ok (.aload_n 0, 1) := by decide +kernel
theorem dX12_needHeard_10 : decode cX12_needHeard 10 = .ok (.getfield 13, 3) := by decide +kernel
theorem dX12_needHeard_13 : decode cX12_needHeard 13 = .ok (.iload_n 1, 1) := by decide +kernel
theorem dX12_needHeard_14 : decode cX12_needHeard 14 = .ok (.iaload, 1) := by decide +kernel
theorem dX12_needHeard_15 : decode cX12_needHeard 15 = .ok (.ifCond .ge 9, 3) := by decide +kernel
theorem dX12_needHeard_18 : decode cX12_needHeard 18 = .ok (.aload_n 0, 1) := by decide +kernel
theorem dX12_needHeard_19 : decode cX12_needHeard 19 = .ok (.iconst 1, 1) := by decide +kernel
theorem dX12_needHeard_20 : decode cX12_needHeard 20 = .ok (.invokevirtual 100, 3) := by decide +kernel
theorem dX12_needHeard_23 : decode cX12_needHeard 23 = .ok (.ireturn, 1) := by decide +kernel
theorem dX12_needHeard_24 : decode cX12_needHeard 24 = .ok (.aload_n 0, 1) := by decide +kernel
theorem dX12_needHeard_25 : decode cX12_needHeard 25 = .ok (.aload_n 0, 1) := by decide +kernel
theorem dX12_needHeard_26 : decode cX12_needHeard 26 = .ok (.getfield 13, 3) := by decide +kernel
theorem dX12_needHeard_29 : decode cX12_needHeard 29 = .ok (.iload_n 1, 1) := by decide +kernel
theorem dX12_needHeard_30 : decode cX12_needHeard 30 = .ok (.iaload, 1) := by decide +kernel
theorem dX12_needHeard_31 : decode cX12_needHeard 31 = .ok (.putfield 241, 3) := by decide +kernel
theorem dX12_needHeard_34 : decode cX12_needHeard 34 = .ok (.iconst 0, 1) := by decide +kernel
theorem dX12_needHeard_35 : decode cX12_needHeard 35 = .ok (.istore_n 2, 1) := by decide +kernel
theorem dX12_needHeard_36 : decode cX12_needHeard 36 = .ok (.iload_n 2, 1) := by decide +kernel
theorem dX12_needHeard_37 : decode cX12_needHeard 37 = .ok (.aload_n 0, 1) := by decide +kernel
theorem dX12_needHeard_38 : decode cX12_needHeard 38 = .ok (.getfield 241, 3) := by decide +kernel
theorem dX12_needHeard_41 : decode cX12_needHeard 41 = .ok (.if_icmp .ge 21, 3) := by decide +kernel
theorem dX12_needHeard_44 : decode cX12_needHeard 44 = .ok (.aload_n 0, 1) := by decide +kernel
theorem dX12_needHeard_45 : decode cX12_needHeard 45 = .ok (.getfield 63, 3) := by decide +kernel
theorem dX12_needHeard_48 : decode cX12_needHeard 48 = .ok (.iload_n 2, 1) := by decide +kernel
theorem dX12_needHeard_49 : decode cX12_needHeard 49 = .ok (.aload_n 0, 1) := by decide +kernel
theorem dX12_needHeard_50 : decode cX12_needHeard 50 = .ok (.iload_n 1, 1) := by decide +kernel
theorem dX12_needHeard_51 : decode cX12_needHeard 51 = .ok (.iload_n 2, 1) := by decide +kernel
theorem dX12_needHeard_52 : decode cX12_needHeard 52 = .ok (.invokevirtual 104, 3) := by decide +kernel
theorem dX12_needHeard_55 : decode cX12_needHeard 55 = .ok (.iastore, 1) := by decide +kernel
theorem dX12_needHeard_56 : decode cX12_needHeard 56 = .ok (.iinc 2 1, 3) := by decide +kernel
theorem dX12_needHeard_59 : decode cX12_needHeard 59 = .ok (.goto (-23), 3) := by decide +kernel
theorem dX12_needHeard_62 : decode cX12_needHeard 62 = .ok (.aload_n 0, 1) := by decide +kernel
theorem dX12_needHeard_63 : decode cX12_needHeard 63 = .ok (.invokevirtual 258, 3) := by decide +kernel
theorem dX12_needHeard_66 : decode cX12_needHeard 66 = .ok (.iconst 0, 1) := by decide +kernel
theorem dX12_needHeard_67 : decode cX12_needHeard 67 = .ok (.ireturn, 1) := by decide +kernel
theorem dX12_beat_0 : decode cX12_beat 0 = .ok (.aload_n 0, 1) := by decide +kernel
theorem dX12_beat_1 : decode cX12_beat 1 = .ok (.iload_n 1, 1) := by decide +kernel
theorem dX12_beat_2 : decode cX12_beat 2 = .ok (.invokevirtual 261, 3) := by decide +kernel
theorem dX12_beat_5 : decode cX12_beat 5 = .ok (.istore_n 2, 1) := by decide +kernel
theorem dX12_beat_6 : decode cX12_beat 6 = .ok (.iload_n 2, 1) := by decide +kernel
theorem dX12_beat_7 : decode cX12_beat 7 = .ok (.ifCond .ge 7, 3) := by decide +kernel
theorem dX12_beat_10 : decode cX12_beat 10 = .ok (.iload_n 2, 1) := by decide +kernel
theorem dX12_beat_11 : decode cX12_beat 11 = .ok (.goto 7, 3) := by decide +kernel
theorem dX12_beat_14 : decode cX12_beat 14 = .ok (.aload_n 0, 1) := by decide +kernel
theorem dX12_beat_15 : decode cX12_beat 15 = .ok (.invokevirtual 264, 3) := by decide +kernel
theorem dX12_beat_18 : decode cX12_beat 18 = .ok (.ireturn, 1) := by decide +kernel
theorem dX12_span_0 : decode cX12_span 0 = .ok (.aload_n 0, 1) := by decide +kernel
theorem dX12_span_1 : decode cX12_span 1 = .ok (.iload_n 1, 1) := by decide +kernel
theorem dX12_span_2 : decode cX12_span 2 = .ok (.invokevirtual 261, 3) := by decide +kernel
theorem dX12_span_5 : decode cX12_span 5 = .ok (.istore_n 2, 1) := by decide +kernel
theorem dX12_span_6 : decode cX12_span 6 = .ok (.iload_n 2, 1) := by decide +kernel
theorem dX12_span_7 : decode cX12_span 7 = .ok (.ifCond .ge 5, 3) := by decide +kernel
theorem dX12_span_10 : decode cX12_span 10 = .ok (.iload_n 2, 1) := by decide +kernel
theorem dX12_span_11 : decode cX12_span 11 = .ok (.ireturn, 1) := by decide +kernel
theorem dX12_span_12 : decode cX12_span 12 = .ok (.aload_n 0, 1) := by decide +kernel
theorem dX12_span_13 : decode cX12_span 13 = .ok (.invokevirtual 250, 3) := by decide +kernel
theorem dX12_span_16 : decode cX12_span 16 = .ok (.ifCond .eq 18, 3) := by decide +kernel
theorem dX12_span_19 : decode cX12_span 19 = .ok (.aload_n 0, 1) := by decide +kernel
theorem dX12_span_20 : decode cX12_span 20 = .ok (.aload_n 0, 1) := by decide +kernel
theorem dX12_span_21 : decode cX12_span 21 = .ok (.getfield 238, 3) := by decide +kernel
theorem dX12_span_24 : decode cX12_span 24 = .ok (.aload_n 0, 1) := by decide +kernel
theorem dX12_span_25 : decode cX12_span 25 = .ok (.getfield 235, 3) := by decide +kernel
theorem dX12_span_28 : decode cX12_span 28 = .ok (.invokevirtual 108, 3) := by decide +kernel
theorem dX12_span_31 : decode cX12_span 31 = .ok (.goto 8, 3) := by decide +kernel
theorem dX12_span_34 : decode cX12_span 34 = .ok (.aload_n 0, 1) := by decide +kernel
theorem dX12_span_35 : decode cX12_span 35 = .ok (.iconst 4, 1) := by decide +kernel
theorem dX12_span_36 : decode cX12_span 36 = .ok (.invokevirtual 100, 3) := by decide +kernel
theorem dX12_span_39 : decode cX12_span 39 = .ok (.ireturn, 1) := by decide +kernel
theorem dX12_layRing_0 : decode cX12_layRing 0 = .ok (.aload_n 0, 1) := by decide +kernel
theorem dX12_layRing_1 : decode cX12_layRing 1 = .ok (.iconst 4, 1) := by decide +kernel
theorem dX12_layRing_2 : decode cX12_layRing 2 = .ok (.invokevirtual 167, 3) := by decide +kernel
theorem dX12_layRing_5 : decode cX12_layRing 5 = .ok (.aload_n 0, 1) := by decide +kernel
theorem dX12_layRing_6 : decode cX12_layRing 6 = .ok (.iload_n 1, 1) := by decide +kernel
theorem dX12_layRing_7 : decode cX12_layRing 7 = .ok (.invokevirtual 171, 3) := by decide +kernel
theorem dX12_layRing_10 : decode cX12_layRing 10 = .ok (.aload_n 0, 1) := by decide +kernel
theorem dX12_layRing_11 : decode cX12_layRing 11 = .ok (.bipush 21, 2) := by decide +kernel
theorem dX12_layRing_13 : decode cX12_layRing 13 = .ok (.iconst 0, 1) := by decide +kernel
theorem dX12_layRing_14 : decode cX12_layRing 14 = .ok (.invokevirtual 160, 3) := by decide +kernel
theorem dX12_layRing_17 : decode cX12_layRing 17 = .ok (.aload_n 0, 1) := by decide +kernel
theorem dX12_layRing_18 : decode cX12_layRing 18 = .ok (.invokevirtual 177, 3) := by decide +kernel
theorem dX12_layRing_21 : decode cX12_layRing 21 = .ok (.aload_n 0, 1) := by decide +kernel
theorem dX12_layRing_22 : decode cX12_layRing 22 = .ok (.bipush 31, 2) := by decide +kernel
theorem dX12_layRing_24 : decode cX12_layRing 24 = .ok (.iload_n 2, 1) := by decide +kernel
theorem dX12_layRing_25 : decode cX12_layRing 25 = .ok (.iadd, 1) := by decide +kernel
theorem dX12_layRing_26 : decode cX12_layRing 26 = .ok (.sipush 1000, 3) := by decide +kernel
theorem dX12_layRing_29 : decode cX12_layRing 29 = .ok (.invokevirtual 160, 3) := by decide +kernel
theorem dX12_layRing_32 : decode cX12_layRing 32 = .ok (.aload_n 0, 1) := by decide +kernel
theorem dX12_layRing_33 : decode cX12_layRing 33 = .ok (.sipush 400, 3) := by decide +kernel
theorem dX12_layRing_36 : decode cX12_layRing 36 = .ok (.putfield 241, 3) := by decide +kernel
theorem dX12_layRing_39 : decode cX12_layRing 39 = .ok (.iconst 0, 1) := by decide +kernel
theorem dX12_layRing_40 : decode cX12_layRing 40 = .ok (.istore_n 3, 1) := by decide +kernel
theorem dX12_layRing_41 : decode cX12_layRing 41 = .ok (.iload_n 3, 1) := by decide +kernel
theorem dX12_layRing_42 : decode cX12_layRing 42 = .ok (.sipush 400, 3) := by decide +kernel
theorem dX12_layRing_45 : decode cX12_layRing 45 = .ok (.if_icmp .ge 27, 3) := by decide +kernel
theorem dX12_layRing_48 : decode cX12_layRing 48 = .ok (.aload_n 0, 1) := by decide +kernel
theorem dX12_layRing_49 : decode cX12_layRing 49 = .ok (.invokevirtual 220, 3) := by decide +kernel
theorem dX12_layRing_52 : decode cX12_layRing 52 = .ok (.aload_n 0, 1) := by decide +kernel
theorem dX12_layRing_53 : decode cX12_layRing 53 = .ok (.getfield 63, 3) := by decide +kernel
theorem dX12_layRing_56 : decode cX12_layRing 56 = .ok (.iload_n 3, 1) := by decide +kernel
theorem dX12_layRing_57 : decode cX12_layRing 57 = .ok (.aload_n 0, 1) := by decide +kernel
theorem dX12_layRing_58 : decode cX12_layRing 58 = .ok (.bipush 31, 2) := by decide +kernel
theorem dX12_layRing_60 : decode cX12_layRing 60 = .ok (.iload_n 2, 1) := by decide +kernel
theorem dX12_layRing_61 : decode cX12_layRing 61 = .ok (.iadd, 1) := by decide +kernel
theorem dX12_layRing_62 : decode cX12_layRing 62 = .ok (.invokevirtual 183, 3) := by decide +kernel
theorem dX12_layRing_65 : decode cX12_layRing 65 = .ok (.iastore, 1) := by decide +kernel
theorem dX12_layRing_66 : decode cX12_layRing 66 = .ok (.iinc 3 1, 3) := by decide +kernel
theorem dX12_layRing_69 : decode cX12_layRing 69 = .ok (.goto (-28), 3) := by decide +kernel
theorem dX12_layRing_72 : decode cX12_layRing 72 = .ok (.aload_n 0, 1) := by decide +kernel
theorem dX12_layRing_73 : decode cX12_layRing 73 = .ok (.invokevirtual 258, 3) := by decide +kernel
theorem dX12_layRing_76 : decode cX12_layRing 76 = .ok (.return_, 1) := by decide +kernel
theorem dX12_layRoll_0 : decode cX12_layRoll 0 = .ok (.aload_n 0, 1) := by decide +kernel
theorem dX12_layRoll_1 : decode cX12_layRoll 1 = .ok (.iconst 4, 1) := by decide +kernel
theorem dX12_layRoll_2 : decode cX12_layRoll 2 = .ok (.invokevirtual 167, 3) := by decide +kernel
theorem dX12_layRoll_5 : decode cX12_layRoll 5 = .ok (.aload_n 0, 1) := by decide +kernel
theorem dX12_layRoll_6 : decode cX12_layRoll 6 = .ok (.invokevirtual 177, 3) := by decide +kernel
theorem dX12_layRoll_9 : decode cX12_layRoll 9 = .ok (.aload_n 0, 1) := by decide +kernel
theorem dX12_layRoll_10 : decode cX12_layRoll 10 = .ok (.iload_n 1, 1) := by decide +kernel
theorem dX12_layRoll_11 : decode cX12_layRoll 11 = .ok (.invokevirtual 180, 3) := by decide +kernel
theorem dX12_layRoll_14 : decode cX12_layRoll 14 = .ok (.iload_n 1, 1) := by decide +kernel
theorem dX12_layRoll_15 : decode cX12_layRoll 15 = .ok (.invokestatic 164, 3) := by decide +kernel
theorem dX12_layRoll_18 : decode cX12_layRoll 18 = .ok (.istore_n 2, 1) := by decide +kernel
theorem dX12_layRoll_19 : decode cX12_layRoll 19 = .ok (.aload_n 0, 1) := by decide +kernel
theorem dX12_layRoll_20 : decode cX12_layRoll 20 = .ok (.iload_n 2, 1) := by decide +kernel
theorem dX12_layRoll_21 : decode cX12_layRoll 21 = .ok (.bipush 6, 2) := by decide +kernel
theorem dX12_layRoll_23 : decode cX12_layRoll 23 = .ok (.iadd, 1) := by decide +kernel
theorem dX12_layRoll_24 : decode cX12_layRoll 24 = .ok (.aload_n 0, 1) := by decide +kernel
theorem dX12_layRoll_25 : decode cX12_layRoll 25 = .ok (.getfield 54, 3) := by decide +kernel
theorem dX12_layRoll_28 : decode cX12_layRoll 28 = .ok (.iconst 5, 1) := by decide +kernel
theorem dX12_layRoll_29 : decode cX12_layRoll 29 = .ok (.iload_n 1, 1) := by decide +kernel
theorem dX12_layRoll_30 : decode cX12_layRoll 30 = .ok (.imul, 1) := by decide +kernel
theorem dX12_layRoll_31 : decode cX12_layRoll 31 = .ok (.iconst 3, 1) := by decide +kernel
theorem dX12_layRoll_32 : decode cX12_layRoll 32 = .ok (.iadd, 1) := by decide +kernel
theorem dX12_layRoll_33 : decode cX12_layRoll 33 = .ok (.iaload, 1) := by decide +kernel
theorem dX12_layRoll_34 : decode cX12_layRoll 34 = .ok (.bipush 100, 2) := by decide +kernel
theorem dX12_layRoll_36 : decode cX12_layRoll 36 = .ok (.iadd, 1) := by decide +kernel
theorem dX12_layRoll_37 : decode cX12_layRoll 37 = .ok (.invokevirtual 160, 3) := by decide +kernel
theorem dX12_layRoll_40 : decode cX12_layRoll 40 = .ok (.aload_n 0, 1) := by decide +kernel
theorem dX12_layRoll_41 : decode cX12_layRoll 41 = .ok (.sipush 400, 3) := by decide +kernel
theorem dX12_layRoll_44 : decode cX12_layRoll 44 = .ok (.putfield 241, 3) := by decide +kernel
theorem dX12_layRoll_47 : decode cX12_layRoll 47 = .ok (.iconst 0, 1) := by decide +kernel
theorem dX12_layRoll_48 : decode cX12_layRoll 48 = .ok (.istore_n 3, 1) := by decide +kernel
theorem dX12_layRoll_49 : decode cX12_layRoll 49 = .ok (.iload_n 3, 1) := by decide +kernel
theorem dX12_layRoll_50 : decode cX12_layRoll 50 = .ok (.sipush 400, 3) := by decide +kernel
theorem dX12_layRoll_53 : decode cX12_layRoll 53 = .ok (.if_icmp .ge 29, 3) := by decide +kernel
theorem dX12_layRoll_56 : decode cX12_layRoll 56 = .ok (.aload_n 0, 1) := by decide +kernel
theorem dX12_layRoll_57 : decode cX12_layRoll 57 = .ok (.iload_n 2, 1) := by decide +kernel
theorem dX12_layRoll_58 : decode cX12_layRoll 58 = .ok (.iconst 0, 1) := by decide +kernel
theorem dX12_layRoll_59 : decode cX12_layRoll 59 = .ok (.invokevirtual 214, 3) := by decide +kernel
theorem dX12_layRoll_62 : decode cX12_layRoll 62 = .ok (.aload_n 0, 1) := by decide +kernel
theorem dX12_layRoll_63 : decode cX12_layRoll 63 = .ok (.getfield 63, 3) := by decide +kernel
theorem dX12_layRoll_66 : decode cX12_layRoll 66 = .ok (.iload_n 3, 1) := by decide +kernel
theorem dX12_layRoll_67 : decode cX12_layRoll 67 = .ok (.aload_n 0, 1) := by decide +kernel
theorem dX12_layRoll_68 : decode cX12_layRoll 68 = .ok (.iload_n 2, 1) := by decide +kernel
theorem dX12_layRoll_69 : decode cX12_layRoll 69 = .ok (.bipush 6, 2) := by decide +kernel
theorem dX12_layRoll_71 : decode cX12_layRoll 71 = .ok (.iadd, 1) := by decide +kernel
theorem dX12_layRoll_72 : decode cX12_layRoll 72 = .ok (.invokevirtual 183, 3) := by decide +kernel
theorem dX12_layRoll_75 : decode cX12_layRoll 75 = .ok (.iastore, 1) := by decide +kernel
theorem dX12_layRoll_76 : decode cX12_layRoll 76 = .ok (.iinc 3 1, 3) := by decide +kernel
theorem dX12_layRoll_79 : decode cX12_layRoll 79 = .ok (.goto (-30), 3) := by decide +kernel
theorem dX12_layRoll_82 : decode cX12_layRoll 82 = .ok (.aload_n 0, 1) := by decide +kernel
theorem dX12_layRoll_83 : decode cX12_layRoll 83 = .ok (.invokevirtual 258, 3) := by decide +kernel
theorem dX12_layRoll_86 : decode cX12_layRoll 86 = .ok (.return_, 1) := by decide +kernel
theorem dX12_ring_0 : decode cX12_ring 0 = .ok (.iload_n 1, 1) := by decide +kernel
theorem dX12_ring_1 : decode cX12_ring 1 = .ok (.invokestatic 151, 3) := by decide +kernel
theorem dX12_ring_4 : decode cX12_ring 4 = .ok (.ifCond .eq 13, 3) := by decide +kernel
theorem dX12_ring_7 : decode cX12_ring 7 = .ok (.iload_n 2, 1) := by decide +kernel
theorem dX12_ring_8 : decode cX12_ring 8 = .ok (.iconst 0, 1) := by decide +kernel
theorem dX12_ring_9 : decode cX12_ring 9 = .ok (.bipush 15, 2) := by decide +kernel
theorem dX12_ring_11 : decode cX12_ring 11 = .ok (.invokestatic 86, 3) := by decide +kernel
theorem dX12_ring_14 : decode cX12_ring 14 = .ok (.ifCond .ne 5, 3) := by decide +kernel
theorem dX12_ring_17 : decode cX12_ring 17 = .ok (.iconst (-1), 1) := by decide +kernel
theorem dX12_ring_18 : decode cX12_ring 18 = .ok (.ireturn, 1) := by decide +kernel
theorem dX12_ring_19 : decode cX12_ring 19 = .ok (.aload_n 0, 1) := by decide +kernel
theorem dX12_ring_20 : decode cX12_ring 20 = .ok (.getfield 29, 3) := by decide +kernel
theorem dX12_ring_23 : decode cX12_ring 23 = .ok (.iload_n 1, 1) := by decide +kernel
theorem dX12_ring_24 : decode cX12_ring 24 = .ok (.baload, 1) := by decide +kernel
theorem dX12_ring_25 : decode cX12_ring 25 = .ok (.ifCond .ne 9, 3) := by decide +kernel
theorem dX12_ring_28 : decode cX12_ring 28 = .ok (.aload_n 0, 1) := by decide +kernel
theorem dX12_ring_29 : decode cX12_ring 29 = .ok (.iconst 1, 1) := by decide +kernel
theorem dX12_ring_30 : decode cX12_ring 30 = .ok (.invokevirtual 100, 3) := by decide +kernel
theorem dX12_ring_33 : decode cX12_ring 33 = .ok (.ireturn, 1) := by decide +kernel
theorem dX12_ring_34 : decode cX12_ring 34 = .ok (.iload_n 2, 1) := by decide +kernel
theorem dX12_ring_35 : decode cX12_ring 35 = .ok (.aload_n 0, 1) := by decide +kernel
theorem dX12_ring_36 : decode cX12_ring 36 = .ok (.getfield 33, 3) := by decide +kernel
theorem dX12_ring_39 : decode cX12_ring 39 = .ok (.bipush 21, 2) := by decide +kernel
theorem dX12_ring_41 : decode cX12_ring 41 = .ok (.iload_n 1, 1) := by decide +kernel
theorem dX12_ring_42 : decode cX12_ring 42 = .ok (.imul, 1) := by decide +kernel
theorem dX12_ring_43 : decode cX12_ring 43 = .ok (.iaload, 1) := by decide +kernel
theorem dX12_ring_44 : decode cX12_ring 44 = .ok (.if_icmp .lt 9, 3) := by decide +kernel
theorem dX12_ring_47 : decode cX12_ring 47 = .ok (.aload_n 0, 1) := by decide +kernel
theorem dX12_ring_48 : decode cX12_ring 48 = .ok (.iconst 2, 1) := by decide +kernel
theorem dX12_ring_49 : decode cX12_ring 49 = .ok (.invokevirtual 100, 3) := by decide +kernel
theorem dX12_ring_52 : decode cX12_ring 52 = .ok (.ireturn, 1) := by decide +kernel
theorem dX12_ring_53 : decode cX12_ring 53 = .ok (.aload_n 0, 1) := by decide +kernel
theorem dX12_ring_54 : decode cX12_ring 54 = .ok (.iload_n 1, 1) := by decide +kernel
theorem dX12_ring_55 : decode cX12_ring 55 = .ok (.iload_n 2, 1) := by decide +kernel
theorem dX12_ring_56 : decode cX12_ring 56 = .ok (.invokevirtual 268, 3) := by decide +kernel
theorem dX12_ring_59 : decode cX12_ring 59 = .ok (.aload_n 0, 1) := by decide +kernel
theorem dX12_ring_60 : decode cX12_ring 60 = .ok (.invokevirtual 264, 3) := by decide +kernel
theorem dX12_ring_63 : decode cX12_ring 63 = .ok (.ireturn, 1) := by decide +kernel
theorem dX12_roll_0 : decode cX12_roll 0 = .ok (.iload_n 1, 1) := by decide +kernel
theorem dX12_roll_1 : decode cX12_roll 1 = .ok (.invokestatic 154, 3) := by decide +kernel
theorem dX12_roll_4 : decode cX12_roll 4 = .ok (.ifCond .ne 5, 3) := by decide +kernel
theorem dX12_roll_7 : decode cX12_roll 7 = .ok (.iconst (-1), 1) := by decide +kernel
theorem dX12_roll_8 : decode cX12_roll 8 = .ok (.ireturn, 1) := by decide +kernel
theorem dX12_roll_9 : decode cX12_roll 9 = .ok (.aload_n 0, 1) := by decide +kernel
theorem dX12_roll_10 : decode cX12_roll 10 = .ok (.getfield 51, 3) := by decide +kernel
theorem dX12_roll_13 : decode cX12_roll 13 = .ok (.iload_n 1, 1) := by decide +kernel
theorem dX12_roll_14 : decode cX12_roll 14 = .ok (.baload, 1) := by decide +kernel
theorem dX12_roll_15 : decode cX12_roll 15 = .ok (.ifCond .ne 6, 3) := by decide +kernel
theorem dX12_roll_18 : decode cX12_roll 18 = .ok (.bipush (-4), 2) := by decide +kernel
theorem dX12_roll_20 : decode cX12_roll 20 = .ok (.ireturn, 1) := by decide +kernel
theorem dX12_roll_21 : decode cX12_roll 21 = .ok (.aload_n 0, 1) := by decide +kernel
theorem dX12_roll_22 : decode cX12_roll 22 = .ok (.iload_n 1, 1) := by decide +kernel
theorem dX12_roll_23 : decode cX12_roll 23 = .ok (.invokevirtual 271, 3) := by decide +kernel
theorem dX12_roll_26 : decode cX12_roll 26 = .ok (.aload_n 0, 1) := by decide +kernel
theorem dX12_roll_27 : decode cX12_roll 27 = .ok (.invokevirtual 264, 3) := by decide +kernel
theorem dX12_roll_30 : decode cX12_roll 30 = .ok (.ireturn, 1) := by decide +kernel
theorem dX12_isLoud_0 : decode cX12_isLoud 0 = .ok (.aload_n 0, 1) := by decide +kernel
theorem dX12_isLoud_1 : decode cX12_isLoud 1 = .ok (.getfield 63, 3) := by decide +kernel
theorem dX12_isLoud_4 : decode cX12_isLoud 4 = .ok (.iload_n 1, 1) := by decide +kernel
theorem dX12_isLoud_5 : decode cX12_isLoud 5 = .ok (.iaload, 1) := by decide +kernel
theorem dX12_isLoud_6 : decode cX12_isLoud 6 = .ok (.bipush 100, 2) := by decide +kernel
theorem dX12_isLoud_8 : decode cX12_isLoud 8 = .ok (.if_icmp .gt 14, 3) := by decide +kernel
theorem dX12_isLoud_11 : decode cX12_isLoud 11 = .ok (.aload_n 0, 1) := by decide +kernel
theorem dX12_isLoud_12 : decode cX12_isLoud 12 = .ok (.getfield 63, 3) := by decide +kernel
theorem dX12_isLoud_15 : decode cX12_isLoud 15 = .ok (.iload_n 1, 1) := by decide +kernel
theorem dX12_isLoud_16 : decode cX12_isLoud 16 = .ok (.iaload, 1) := by decide +kernel
theorem dX12_isLoud_17 : decode cX12_isLoud 17 = .ok (.bipush (-100), 2) := by decide +kernel
theorem dX12_isLoud_19 : decode cX12_isLoud 19 = .ok (.if_icmp .ge 7, 3) := by decide +kernel
theorem dX12_isLoud_22 : decode cX12_isLoud 22 = .ok (.iconst 1, 1) := by decide +kernel
theorem dX12_isLoud_23 : decode cX12_isLoud 23 = .ok (.goto 4, 3) := by decide +kernel
theorem dX12_isLoud_26 : decode cX12_isLoud 26 = .ok (.iconst 0, 1) := by decide +kernel
theorem dX12_isLoud_27 : decode cX12_isLoud 27 = .ok (.ireturn, 1) := by decide +kernel
theorem dX12_lastLoud_0 : decode cX12_lastLoud 0 = .ok (.iconst 0, 1) := by decide +kernel
theorem dX12_lastLoud_1 : decode cX12_lastLoud 1 = .ok (.istore_n 1, 1) := by decide +kernel
theorem dX12_lastLoud_2 : decode cX12_lastLoud 2 = .ok (.iconst 0, 1) := by decide +kernel
theorem dX12_lastLoud_3 : decode cX12_lastLoud 3 = .ok (.istore_n 2, 1) := by decide +kernel
theorem dX12_lastLoud_4 : decode cX12_lastLoud 4 = .ok (.iload_n 2, 1) := by decide +kernel
theorem dX12_lastLoud_5 : decode cX12_lastLoud 5 = .ok (.sipush 400, 3) := by decide +kernel
theorem dX12_lastLoud_8 : decode cX12_lastLoud 8 = .ok (.if_icmp .ge 25, 3) := by decide +kernel
theorem dX12_lastLoud_11 : decode cX12_lastLoud 11 = .ok (.aload_n 0, 1) := by decide +kernel
theorem dX12_lastLoud_12 : decode cX12_lastLoud 12 = .ok (.iload_n 2, 1) := by decide +kernel
theorem dX12_lastLoud_13 : decode cX12_lastLoud 13 = .ok (.invokevirtual 274, 3) := by decide +kernel
theorem dX12_lastLoud_16 : decode cX12_lastLoud 16 = .ok (.ifCond .eq 9, 3) := by decide +kernel
theorem dX12_lastLoud_19 : decode cX12_lastLoud 19 = .ok (.iload_n 2, 1) := by decide +kernel
theorem dX12_lastLoud_20 : decode cX12_lastLoud 20 = .ok (.iconst 1, 1) := by decide +kernel
theorem dX12_lastLoud_21 : decode cX12_lastLoud 21 = .ok (.iadd, 1) := by decide +kernel
theorem dX12_lastLoud_22 : decode cX12_lastLoud 22 = .ok (.goto 4, 3) := by decide +kernel
theorem dX12_lastLoud_25 : decode cX12_lastLoud 25 = .ok (.iload_n 1, 1) := by decide +kernel
theorem dX12_lastLoud_26 : decode cX12_lastLoud 26 = .ok (.istore_n 1, 1) := by decide +kernel
theorem dX12_lastLoud_27 : decode cX12_lastLoud 27 = .ok (.iinc 2 1, 3) := by decide +kernel
theorem dX12_lastLoud_30 : decode cX12_lastLoud 30 = .ok (.goto (-26), 3) := by decide +kernel
theorem dX12_lastLoud_33 : decode cX12_lastLoud 33 = .ok (.iload_n 1, 1) := by decide +kernel
theorem dX12_lastLoud_34 : decode cX12_lastLoud 34 = .ok (.ireturn, 1) := by decide +kernel
theorem dX12_kindOfRing_0 : decode cX12_kindOfRing 0 = .ok (.iload_n 1, 1) := by decide +kernel
theorem dX12_kindOfRing_1 : decode cX12_kindOfRing 1 = .ok (.invokestatic 151, 3) := by decide +kernel
theorem dX12_kindOfRing_4 : decode cX12_kindOfRing 4 = .ok (.ifCond .eq 13, 3) := by decide +kernel
theorem dX12_kindOfRing_7 : decode cX12_kindOfRing 7 = .ok (.iload_n 2, 1) := by decide +kernel
theorem dX12_kindOfRing_8 : decode cX12_kindOfRing 8 = .ok (.iconst 0, 1) := by decide +kernel
theorem dX12_kindOfRing_9 : decode cX12_kindOfRing 9 = .ok (.bipush 15, 2) := by decide +kernel
theorem dX12_kindOfRing_11 : decode cX12_kindOfRing 11 = .ok (.invokestatic 86, 3) := by decide +kernel
theorem dX12_kindOfRing_14 : decode cX12_kindOfRing 14 = .ok (.ifCond .ne 5, 3) := by decide +kernel
theorem dX12_kindOfRing_17 : decode cX12_kindOfRing 17 = .ok (.iconst (-1), 1) := by decide +kernel
theorem dX12_kindOfRing_18 : decode cX12_kindOfRing 18 = .ok (.ireturn, 1) := by decide +kernel
theorem dX12_kindOfRing_19 : decode cX12_kindOfRing 19 = .ok (.aload_n 0, 1) := by decide +kernel
theorem dX12_kindOfRing_20 : decode cX12_kindOfRing 20 = .ok (.getfield 29, 3) := by decide +kernel
theorem dX12_kindOfRing_23 : decode cX12_kindOfRing 23 = .ok (.iload_n 1, 1) := by decide +kernel
theorem dX12_kindOfRing_24 : decode cX12_kindOfRing 24 = .ok (.baload, 1) := by decide +kernel
theorem dX12_kindOfRing_25 : decode cX12_kindOfRing 25 = .ok (.ifCond .ne 9, 3) := by decide +kernel
theorem dX12_kindOfRing_28 : decode cX12_kindOfRing 28 = .ok (.aload_n 0, 1) := by decide +kernel
theorem dX12_kindOfRing_29 : decode cX12_kindOfRing 29 = .ok (.iconst 1, 1) := by decide +kernel
theorem dX12_kindOfRing_30 : decode cX12_kindOfRing 30 = .ok (.invokevirtual 100, 3) := by decide +kernel
theorem dX12_kindOfRing_33 : decode cX12_kindOfRing 33 = .ok (.ireturn, 1) := by decide +kernel
theorem dX12_kindOfRing_34 : decode cX12_kindOfRing 34 = .ok (.iload_n 2, 1) := by decide +kernel
theorem dX12_kindOfRing_35 : decode cX12_kindOfRing 35 = .ok (.aload_n 0, 1) := by decide +kernel
theorem dX12_kindOfRing_36 : decode cX12_kindOfRing 36 = .ok (.getfield 33, 3) := by decide +kernel
theorem dX12_kindOfRing_39 : decode cX12_kindOfRing 39 = .ok (.bipush 21, 2) := by decide +kernel
theorem dX12_kindOfRing_41 : decode cX12_kindOfRing 41 = .ok (.iload_n 1, 1) := by decide +kernel
theorem dX12_kindOfRing_42 : decode cX12_kindOfRing 42 = .ok (.imul, 1) := by decide +kernel
theorem dX12_kindOfRing_43 : decode cX12_kindOfRing 43 = .ok (.iaload, 1) := by decide +kernel
theorem dX12_kindOfRing_44 : decode cX12_kindOfRing 44 = .ok (.if_icmp .lt 9, 3) := by decide +kernel
theorem dX12_kindOfRing_47 : decode cX12_kindOfRing 47 = .ok (.aload_n 0, 1) := by decide +kernel
theorem dX12_kindOfRing_48 : decode cX12_kindOfRing 48 = .ok (.iconst 2, 1) := by decide +kernel
theorem dX12_kindOfRing_49 : decode cX12_kindOfRing 49 = .ok (.invokevirtual 100, 3) := by decide +kernel
theorem dX12_kindOfRing_52 : decode cX12_kindOfRing 52 = .ok (.ireturn, 1) := by decide +kernel
theorem dX12_kindOfRing_53 : decode cX12_kindOfRing 53 = .ok (.aload_n 0, 1) := by decide +kernel
theorem dX12_kindOfRing_54 : decode cX12_kindOfRing 54 = .ok (.iload_n 1, 1) := by decide +kernel
theorem dX12_kindOfRing_55 : decode cX12_kindOfRing 55 = .ok (.iload_n 2, 1) := by decide +kernel
theorem dX12_kindOfRing_56 : decode cX12_kindOfRing 56 = .ok (.invokevirtual 268, 3) := by decide +kernel
theorem dX12_kindOfRing_59 : decode cX12_kindOfRing 59 = .ok (.aload_n 0, 1) := by decide +kernel
theorem dX12_kindOfRing_60 : decode cX12_kindOfRing 60 = .ok (.invokevirtual 250, 3) := by decide +kernel
theorem dX12_kindOfRing_63 : decode cX12_kindOfRing 63 = .ok (.ifCond .ne 11, 3) := by decide +kernel
theorem dX12_kindOfRing_66 : decode cX12_kindOfRing 66 = .ok (.aload_n 0, 1) := by decide +kernel
theorem dX12_kindOfRing_67 : decode cX12_kindOfRing 67 = .ok (.iconst 4, 1) := by decide +kernel
theorem dX12_kindOfRing_68 : decode cX12_kindOfRing 68 = .ok (.invokevirtual 100, 3) := by decide +kernel
theorem dX12_kindOfRing_71 : decode cX12_kindOfRing 71 = .ok (.goto 18, 3) := by decide +kernel
theorem dX12_kindOfRing_74 : decode cX12_kindOfRing 74 = .ok (.aload_n 0, 1) := by decide +kernel
theorem dX12_kindOfRing_75 : decode cX12_kindOfRing 75 = .ok (.invokevirtual 277, 3) := by decide +kernel
theorem dX12_kindOfRing_78 : decode cX12_kindOfRing 78 = .ok (.sipush 300, 3) := by decide +kernel
theorem dX12_kindOfRing_81 : decode cX12_kindOfRing 81 = .ok (.if_icmp .gt 7, 3) := by decide +kernel
theorem dX12_kindOfRing_84 : decode cX12_kindOfRing 84 = .ok (.iconst 5, 1) := by decide +kernel
theorem dX12_kindOfRing_85 : decode cX12_kindOfRing 85 = .ok (.goto 4, 3) := by decide +kernel
theorem dX12_kindOfRing_88 : decode cX12_kindOfRing 88 = .ok (.iconst 1, 1) := by decide +kernel
theorem dX12_kindOfRing_89 : decode cX12_kindOfRing 89 = .ok (.ireturn, 1) := by decide +kernel
theorem dX12_kindOfSet_0 : decode cX12_kindOfSet 0 = .ok (.iload_n 1, 1) := by decide +kernel
theorem dX12_kindOfSet_1 : decode cX12_kindOfSet 1 = .ok (.invokestatic 151, 3) := by decide +kernel
theorem dX12_kindOfSet_4 : decode cX12_kindOfSet 4 = .ok (.ifCond .eq 10, 3) := by decide +kernel
theorem dX12_kindOfSet_7 : decode cX12_kindOfSet 7 = .ok (.iload_n 3, 1) := by decide +kernel
theorem dX12_kindOfSet_8 : decode cX12_kindOfSet 8 = .ok (.invokestatic 151, 3) := by decide +kernel
theorem dX12_kindOfSet_11 : decode cX12_kindOfSet 11 = .ok (.ifCond .ne 5, 3) := by decide +kernel
theorem dX12_kindOfSet_14 : decode cX12_kindOfSet 14 = .ok (.iconst (-1), 1) := by decide +kernel
theorem dX12_kindOfSet_15 : decode cX12_kindOfSet 15 = .ok (.ireturn, 1) := by decide +kernel
theorem dX12_kindOfSet_16 : decode cX12_kindOfSet 16 = .ok (.aload_n 0, 1) := by decide +kernel
theorem dX12_kindOfSet_17 : decode cX12_kindOfSet 17 = .ok (.getfield 36, 3) := by decide +kernel
theorem dX12_kindOfSet_20 : decode cX12_kindOfSet 20 = .ok (.iload_n 1, 1) := by decide +kernel
theorem dX12_kindOfSet_21 : decode cX12_kindOfSet 21 = .ok (.baload, 1) := by decide +kernel
theorem dX12_kindOfSet_22 : decode cX12_kindOfSet 22 = .ok (.ifCond .eq 12, 3) := by decide +kernel
theorem dX12_kindOfSet_25 : decode cX12_kindOfSet 25 = .ok (.aload_n 0, 1) := by decide +kernel
theorem dX12_kindOfSet_26 : decode cX12_kindOfSet 26 = .ok (.getfield 29, 3) := by decide +kernel
theorem dX12_kindOfSet_29 : decode cX12_kindOfSet 29 = .ok (.iload_n 3, 1) := by decide +kernel
theorem dX12_kindOfSet_30 : decode cX12_kindOfSet 30 = .ok (.baload, 1) := by decide +kernel
theorem dX12_kindOfSet_31 : decode cX12_kindOfSet 31 = .ok (.ifCond .ne 9, 3) := by decide +kernel
theorem dX12_kindOfSet_34 : decode cX12_kindOfSet 34 = .ok (.aload_n 0, 1) := by decide +kernel
theorem dX12_kindOfSet_35 : decode cX12_kindOfSet 35 = .ok (.iconst 1, 1) := by decide +kernel
theorem dX12_kindOfSet_36 : decode cX12_kindOfSet 36 = .ok (.invokevirtual 100, 3) := by decide +kernel
theorem dX12_kindOfSet_39 : decode cX12_kindOfSet 39 = .ok (.ireturn, 1) := by decide +kernel
theorem dX12_kindOfSet_40 : decode cX12_kindOfSet 40 = .ok (.iload_n 2, 1) := by decide +kernel
theorem dX12_kindOfSet_41 : decode cX12_kindOfSet 41 = .ok (.iconst 0, 1) := by decide +kernel
theorem dX12_kindOfSet_42 : decode cX12_kindOfSet 42 = .ok (.aload_n 0, 1) := by decide +kernel
theorem dX12_kindOfSet_43 : decode cX12_kindOfSet 43 = .ok (.getfield 39, 3) := by decide +kernel
theorem dX12_kindOfSet_46 : decode cX12_kindOfSet 46 = .ok (.iload_n 1, 1) := by decide +kernel
theorem dX12_kindOfSet_47 : decode cX12_kindOfSet 47 = .ok (.iaload, 1) := by decide +kernel
theorem dX12_kindOfSet_48 : decode cX12_kindOfSet 48 = .ok (.iconst 1, 1) := by decide +kernel
theorem dX12_kindOfSet_49 : decode cX12_kindOfSet 49 = .ok (.isub, 1) := by decide +kernel
theorem dX12_kindOfSet_50 : decode cX12_kindOfSet 50 = .ok (.invokestatic 86, 3) := by decide +kernel
theorem dX12_kindOfSet_53 : decode cX12_kindOfSet 53 = .ok (.ifCond .ne 9, 3) := by decide +kernel
theorem dX12_kindOfSet_56 : decode cX12_kindOfSet 56 = .ok (.aload_n 0, 1) := by decide +kernel
theorem dX12_kindOfSet_57 : decode cX12_kindOfSet 57 = .ok (.iconst 2, 1) := by decide +kernel
theorem dX12_kindOfSet_58 : decode cX12_kindOfSet 58 = .ok (.invokevirtual 100, 3) := by decide +kernel
theorem dX12_kindOfSet_61 : decode cX12_kindOfSet 61 = .ok (.ireturn, 1) := by decide +kernel
theorem dX12_kindOfSet_62 : decode cX12_kindOfSet 62 = .ok (.aload_n 0, 1) := by decide +kernel
theorem dX12_kindOfSet_63 : decode cX12_kindOfSet 63 = .ok (.iload_n 3, 1) := by decide +kernel
theorem dX12_kindOfSet_64 : decode cX12_kindOfSet 64 = .ok (.aload_n 0, 1) := by decide +kernel
theorem dX12_kindOfSet_65 : decode cX12_kindOfSet 65 = .ok (.getfield 33, 3) := by decide +kernel
theorem dX12_kindOfSet_68 : decode cX12_kindOfSet 68 = .ok (.bipush 21, 2) := by decide +kernel
theorem dX12_kindOfSet_70 : decode cX12_kindOfSet 70 = .ok (.iload_n 3, 1) := by decide +kernel
theorem dX12_kindOfSet_71 : decode cX12_kindOfSet 71 = .ok (.imul, 1) := by decide +kernel
theorem dX12_kindOfSet_72 : decode cX12_kindOfSet 72 = .ok (.iconst 1, 1) := by decide +kernel
theorem dX12_kindOfSet_73 : decode cX12_kindOfSet 73 = .ok (.iadd, 1) := by decide +kernel
theorem dX12_kindOfSet_74 : decode cX12_kindOfSet 74 = .ok (.iaload, 1) := by decide +kernel
theorem dX12_kindOfSet_75 : decode cX12_kindOfSet 75 = .ok (.invokevirtual 268, 3) := by decide +kernel
theorem dX12_kindOfSet_78 : decode cX12_kindOfSet 78 = .ok (.aload_n 0, 1) := by decide +kernel
theorem dX12_kindOfSet_79 : decode cX12_kindOfSet 79 = .ok (.invokevirtual 250, 3) := by decide +kernel
theorem dX12_kindOfSet_82 : decode cX12_kindOfSet 82 = .ok (.ifCond .eq 31, 3) := by decide +kernel
theorem dX12_kindOfSet_85 : decode cX12_kindOfSet 85 = .ok (.aload_n 0, 1) := by decide +kernel
theorem dX12_kindOfSet_86 : decode cX12_kindOfSet 86 = .ok (.getfield 42, 3) := by decide +kernel
theorem dX12_kindOfSet_89 : decode cX12_kindOfSet 89 = .ok (.bipush 8, 2) := by decide +kernel
theorem dX12_kindOfSet_91 : decode cX12_kindOfSet 91 = .ok (.iload_n 1, 1) := by decide +kernel
theorem dX12_kindOfSet_92 : decode cX12_kindOfSet 92 = .ok (.imul, 1) := by decide +kernel
theorem dX12_kindOfSet_93 : decode cX12_kindOfSet 93 = .ok (.iconst 2, 1) := by decide +kernel
theorem dX12_kindOfSet_94 : decode cX12_kindOfSet 94 = .ok (.iload_n 2, 1) := by decide +kernel
theorem dX12_kindOfSet_95 : decode cX12_kindOfSet 95 = .ok (.imul, 1) := by decide +kernel
theorem dX12_kindOfSet_96 : decode cX12_kindOfSet 96 = .ok (.iadd, 1) := by decide +kernel
theorem dX12_kindOfSet_97 : decode cX12_kindOfSet 97 = .ok (.iaload, 1) := by decide +kernel
theorem dX12_kindOfSet_98 : decode cX12_kindOfSet 98 = .ok (.aload_n 0, 1) := by decide +kernel
theorem dX12_kindOfSet_99 : decode cX12_kindOfSet 99 = .ok (.invokevirtual 280, 3) := by decide +kernel
theorem dX12_kindOfSet_102 : decode cX12_kindOfSet 102 = .ok (.invokestatic 283, 3) := by decide +kernel
theorem dX12_kindOfSet_105 : decode cX12_kindOfSet 105 = .ok (.iconst 2, 1) := by decide +kernel
theorem dX12_kindOfSet_106 : decode cX12_kindOfSet 106 = .ok (.if_icmp .gt 7, 3) := by decide +kernel
theorem dX12_kindOfSet_109 : decode cX12_kindOfSet 109 = .ok (.iconst 4, 1) := by decide +kernel
theorem dX12_kindOfSet_110 : decode cX12_kindOfSet 110 = .ok (.goto 4, 3) := by decide +kernel
theorem dX12_kindOfSet_113 : decode cX12_kindOfSet 113 = .ok (.iconst 2, 1) := by decide +kernel
theorem dX12_kindOfSet_114 : decode cX12_kindOfSet 114 = .ok (.ireturn, 1) := by decide +kernel
theorem dX12_kindOfRoll_0 : decode cX12_kindOfRoll 0 = .ok (.iload_n 1, 1) := by decide +kernel
theorem dX12_kindOfRoll_1 : decode cX12_kindOfRoll 1 = .ok (.invokestatic 154, 3) := by decide +kernel
theorem dX12_kindOfRoll_4 : decode cX12_kindOfRoll 4 = .ok (.ifCond .ne 5, 3) := by decide +kernel
theorem dX12_kindOfRoll_7 : decode cX12_kindOfRoll 7 = .ok (.iconst (-1), 1) := by decide +kernel
theorem dX12_kindOfRoll_8 : decode cX12_kindOfRoll 8 = .ok (.ireturn, 1) := by decide +kernel
theorem dX12_kindOfRoll_9 : decode cX12_kindOfRoll 9 = .ok (.aload_n 0, 1) := by decide +kernel
theorem dX12_kindOfRoll_10 : decode cX12_kindOfRoll 10 = .ok (.getfield 51, 3) := by decide +kernel
theorem dX12_kindOfRoll_13 : decode cX12_kindOfRoll 13 = .ok (.iload_n 1, 1) := by decide +kernel
theorem dX12_kindOfRoll_14 : decode cX12_kindOfRoll 14 = .ok (.baload, 1) := by decide +kernel
theorem dX12_kindOfRoll_15 : decode cX12_kindOfRoll 15 = .ok (.ifCond .ne 6, 3) := by decide +kernel
theorem dX12_kindOfRoll_18 : decode cX12_kindOfRoll 18 = .ok (.bipush (-4), 2) := by decide +kernel
theorem dX12_kindOfRoll_20 : decode cX12_kindOfRoll 20 = .ok (.ireturn, 1) := by decide +kernel
theorem dX12_kindOfRoll_21 : decode cX12_kindOfRoll 21 = .ok (.aload_n 0, 1) := by decide +kernel
theorem dX12_kindOfRoll_22 : decode cX12_kindOfRoll 22 = .ok (.iload_n 1, 1) := by decide +kernel
theorem dX12_kindOfRoll_23 : decode cX12_kindOfRoll 23 = .ok (.invokevirtual 271, 3) := by decide +kernel
theorem dX12_kindOfRoll_26 : decode cX12_kindOfRoll 26 = .ok (.aload_n 0, 1) := by decide +kernel
theorem dX12_kindOfRoll_27 : decode cX12_kindOfRoll 27 = .ok (.invokevirtual 250, 3) := by decide +kernel
theorem dX12_kindOfRoll_30 : decode cX12_kindOfRoll 30 = .ok (.ifCond .eq 7, 3) := by decide +kernel
theorem dX12_kindOfRoll_33 : decode cX12_kindOfRoll 33 = .ok (.iconst 3, 1) := by decide +kernel
theorem dX12_kindOfRoll_34 : decode cX12_kindOfRoll 34 = .ok (.goto 8, 3) := by decide +kernel
theorem dX12_kindOfRoll_37 : decode cX12_kindOfRoll 37 = .ok (.aload_n 0, 1) := by decide +kernel
theorem dX12_kindOfRoll_38 : decode cX12_kindOfRoll 38 = .ok (.iconst 4, 1) := by decide +kernel
theorem dX12_kindOfRoll_39 : decode cX12_kindOfRoll 39 = .ok (.invokevirtual 100, 3) := by decide +kernel
theorem dX12_kindOfRoll_42 : decode cX12_kindOfRoll 42 = .ok (.ireturn, 1) := by decide +kernel
theorem dX12_kindOf_0 : decode cX12_kindOf 0 = .ok (.iload_n 1, 1) := by decide +kernel
theorem dX12_kindOf_1 : decode cX12_kindOf 1 = .ok (.ifCond .ne 12, 3) := by decide +kernel
theorem dX12_kindOf_4 : decode cX12_kindOf 4 = .ok (.aload_n 0, 1) := by decide +kernel
theorem dX12_kindOf_5 : decode cX12_kindOf 5 = .ok (.iload_n 2, 1) := by decide +kernel
theorem dX12_kindOf_6 : decode cX12_kindOf 6 = .ok (.iload_n 3, 1) := by decide +kernel
theorem dX12_kindOf_7 : decode cX12_kindOf 7 = .ok (.invokevirtual 286, 3) := by decide +kernel
theorem dX12_kindOf_10 : decode cX12_kindOf 10 = .ok (.goto 33, 3) := by decide +kernel
theorem dX12_kindOf_13 : decode cX12_kindOf 13 = .ok (.iload_n 1, 1) := by decide +kernel
theorem dX12_kindOf_14 : decode cX12_kindOf 14 = .ok (.iconst 1, 1) := by decide +kernel
theorem dX12_kindOf_15 : decode cX12_kindOf 15 = .ok (.if_icmp .ne 14, 3) := by decide +kernel
theorem dX12_kindOf_18 : decode cX12_kindOf 18 = .ok (.aload_n 0, 1) := by decide +kernel
theorem dX12_kindOf_19 : decode cX12_kindOf 19 = .ok (.iload_n 2, 1) := by decide +kernel
theorem dX12_kindOf_20 : decode cX12_kindOf 20 = .ok (.iload_n 3, 1) := by decide +kernel
theorem dX12_kindOf_21 : decode cX12_kindOf 21 = .ok (.iload 4, 2) := by decide +kernel
theorem dX12_kindOf_23 : decode cX12_kindOf 23 = .ok (.invokevirtual 289, 3) := by decide +kernel
theorem dX12_kindOf_26 : decode cX12_kindOf 26 = .ok (.goto 17, 3) := by decide +kernel
theorem dX12_kindOf_29 : decode cX12_kindOf 29 = .ok (.iload_n 1, 1) := by decide +kernel
theorem dX12_kindOf_30 : decode cX12_kindOf 30 = .ok (.iconst 2, 1) := by decide +kernel
theorem dX12_kindOf_31 : decode cX12_kindOf 31 = .ok (.if_icmp .ne 11, 3) := by decide +kernel
theorem dX12_kindOf_34 : decode cX12_kindOf 34 = .ok (.aload_n 0, 1) := by decide +kernel
theorem dX12_kindOf_35 : decode cX12_kindOf 35 = .ok (.iload_n 2, 1) := by decide +kernel
theorem dX12_kindOf_36 : decode cX12_kindOf 36 = .ok (.invokevirtual 292, 3) := by decide +kernel
theorem dX12_kindOf_39 : decode cX12_kindOf 39 = .ok (.goto 4, 3) := by decide +kernel
theorem dX12_kindOf_42 : decode cX12_kindOf 42 = .ok (.iconst (-1), 1) := by decide +kernel
theorem dX12_kindOf_43 : decode cX12_kindOf 43 = .ok (.ireturn, 1) := by decide +kernel
theorem dX12_kind_0 : decode cX12_kind 0 = .ok (.aload_n 0, 1) := by decide +kernel
theorem dX12_kind_1 : decode cX12_kind 1 = .ok (.iload_n 1, 1) := by decide +kernel
theorem dX12_kind_2 : decode cX12_kind 2 = .ok (.iload_n 2, 1) := by decide +kernel
theorem dX12_kind_3 : decode cX12_kind 3 = .ok (.iload_n 3, 1) := by decide +kernel
theorem dX12_kind_4 : decode cX12_kind 4 = .ok (.iload 4, 2) := by decide +kernel
theorem dX12_kind_6 : decode cX12_kind 6 = .ok (.invokevirtual 295, 3) := by decide +kernel
theorem dX12_kind_9 : decode cX12_kind 9 = .ok (.ireturn, 1) := by decide +kernel
theorem dX12_mark_0 : decode cX12_mark 0 = .ok (.iload 5, 2) := by decide +kernel
theorem dX12_mark_2 : decode cX12_mark 2 = .ok (.iconst 1, 1) := by decide +kernel
theorem dX12_mark_3 : decode cX12_mark 3 = .ok (.iconst 5, 1) := by decide +kernel
theorem dX12_mark_4 : decode cX12_mark 4 = .ok (.invokestatic 86, 3) := by decide +kernel
theorem dX12_mark_7 : decode cX12_mark 7 = .ok (.ifCond .ne 5, 3) := by decide +kernel
theorem dX12_mark_10 : decode cX12_mark 10 = .ok (.iconst (-1), 1) := by decide +kernel
theorem dX12_mark_11 : decode cX12_mark 11 = .ok (.ireturn, 1) := by decide +kernel
theorem dX12_mark_12 : decode cX12_mark 12 = .ok (.aload_n 0, 1) := by decide +kernel
theorem dX12_mark_13 : decode cX12_mark 13 = .ok (.iload_n 1, 1) := by decide +kernel
theorem dX12_mark_14 : decode cX12_mark 14 = .ok (.iload_n 2, 1) := by decide +kernel
theorem dX12_mark_15 : decode cX12_mark 15 = .ok (.iload_n 3, 1) := by decide +kernel
theorem dX12_mark_16 : decode cX12_mark 16 = .ok (.iload 4, 2) := by decide +kernel
theorem dX12_mark_18 : decode cX12_mark 18 = .ok (.invokevirtual 295, 3) := by decide +kernel
theorem dX12_mark_21 : decode cX12_mark 21 = .ok (.istore 6, 2) := by decide +kernel
theorem dX12_mark_23 : decode cX12_mark 23 = .ok (.iload 6, 2) := by decide +kernel
theorem dX12_mark_25 : decode cX12_mark 25 = .ok (.ifCond .ge 6, 3) := by decide +kernel
theorem dX12_mark_28 : decode cX12_mark 28 = .ok (.iload 6, 2) := by decide +kernel
theorem dX12_mark_30 : decode cX12_mark 30 = .ok (.ireturn, 1) := by decide +kernel
theorem dX12_mark_31 : decode cX12_mark 31 = .ok (.iload 6, 2) := by decide +kernel
theorem dX12_mark_33 : decode cX12_mark 33 = .ok (.iload 5, 2) := by decide +kernel
theorem dX12_mark_35 : decode cX12_mark 35 = .ok (.if_icmp .eq 33, 3) := by decide +kernel
theorem dX12_mark_38 : decode cX12_mark 38 = .ok (.iload 5, 2) := by decide +kernel
theorem dX12_mark_40 : decode cX12_mark 40 = .ok (.iconst 1, 1) := by decide +kernel
theorem dX12_mark_41 : decode cX12_mark 41 = .ok (.if_icmp .ne 9, 3) := by decide +kernel
theorem dX12_mark_44 : decode cX12_mark 44 = .ok (.iload 6, 2) := by decide +kernel
theorem dX12_mark_46 : decode cX12_mark 46 = .ok (.iconst 5, 1) := by decide +kernel
theorem dX12_mark_47 : decode cX12_mark 47 = .ok (.if_icmp .eq 21, 3) := by decide +kernel
theorem dX12_mark_50 : decode cX12_mark 50 = .ok (.iload 5, 2) := by decide +kernel
theorem dX12_mark_52 : decode cX12_mark 52 = .ok (.iconst 2, 1) := by decide +kernel
theorem dX12_mark_53 : decode cX12_mark 53 = .ok (.if_icmp .ne 9, 3) := by decide +kernel
theorem dX12_mark_56 : decode cX12_mark 56 = .ok (.iload 6, 2) := by decide +kernel
theorem dX12_mark_58 : decode cX12_mark 58 = .ok (.iconst 4, 1) := by decide +kernel
theorem dX12_mark_59 : decode cX12_mark 59 = .ok (.if_icmp .eq 9, 3) := by decide +kernel
theorem dX12_mark_62 : decode cX12_mark 62 = .ok (.aload_n 0, 1) := by decide +kernel
theorem dX12_mark_63 : decode cX12_mark 63 = .ok (.iconst 3, 1) := by decide +kernel
theorem dX12_mark_64 : decode cX12_mark 64 = .ok (.invokevirtual 100, 3) := by decide +kernel
theorem dX12_mark_67 : decode cX12_mark 67 = .ok (.ireturn, 1) := by decide +kernel
theorem dX12_mark_68 : decode cX12_mark 68 = .ok (.iload 5, 2) := by decide +kernel
theorem dX12_mark_70 : decode cX12_mark 70 = .ok (.tableswitch 70 2 5 #[30, 70, 44, 65], 30) := by decide +kernel
theorem dX12_mark_100 : decode cX12_mark 100 = .ok (.aload_n 0, 1) := by decide +kernel
theorem dX12_mark_101 : decode cX12_mark 101 = .ok (.getfield 42, 3) := by decide +kernel
theorem dX12_mark_104 : decode cX12_mark 104 = .ok (.bipush 8, 2) := by decide +kernel
theorem dX12_mark_106 : decode cX12_mark 106 = .ok (.iload_n 2, 1) := by decide +kernel
theorem dX12_mark_107 : decode cX12_mark 107 = .ok (.imul, 1) := by decide +kernel
theorem dX12_mark_108 : decode cX12_mark 108 = .ok (.iconst 2, 1) := by decide +kernel
theorem dX12_mark_109 : decode cX12_mark 109 = .ok (.iload_n 3, 1) := by decide +kernel
theorem dX12_mark_110 : decode cX12_mark 110 = .ok (.imul, 1) := by decide +kernel
theorem dX12_mark_111 : decode cX12_mark 111 = .ok (.iadd, 1) := by decide +kernel
theorem dX12_mark_112 : decode cX12_mark 112 = .ok (.iaload, 1) := by decide +kernel
theorem dX12_mark_113 : decode cX12_mark 113 = .ok (.ireturn, 1) := by decide +kernel
theorem dX12_mark_114 : decode cX12_mark 114 = .ok (.aload_n 0, 1) := by decide +kernel
theorem dX12_mark_115 : decode cX12_mark 115 = .ok (.getfield 42, 3) := by decide +kernel
theorem dX12_mark_118 : decode cX12_mark 118 = .ok (.bipush 8, 2) := by decide +kernel
theorem dX12_mark_120 : decode cX12_mark 120 = .ok (.iload_n 2, 1) := by decide +kernel
theorem dX12_mark_121 : decode cX12_mark 121 = .ok (.imul, 1) := by decide +kernel
theorem dX12_mark_122 : decode cX12_mark 122 = .ok (.iconst 2, 1) := by decide +kernel
theorem dX12_mark_123 : decode cX12_mark 123 = .ok (.iload_n 3, 1) := by decide +kernel
theorem dX12_mark_124 : decode cX12_mark 124 = .ok (.imul, 1) := by decide +kernel
theorem dX12_mark_125 : decode cX12_mark 125 = .ok (.iadd, 1) := by decide +kernel
theorem dX12_mark_126 : decode cX12_mark 126 = .ok (.iaload, 1) := by decide +kernel
theorem dX12_mark_127 : decode cX12_mark 127 = .ok (.aload_n 0, 1) := by decide +kernel
theorem dX12_mark_128 : decode cX12_mark 128 = .ok (.invokevirtual 280, 3) := by decide +kernel
theorem dX12_mark_131 : decode cX12_mark 131 = .ok (.invokestatic 283, 3) := by decide +kernel
theorem dX12_mark_134 : decode cX12_mark 134 = .ok (.ireturn, 1) := by decide +kernel
theorem dX12_mark_135 : decode cX12_mark 135 = .ok (.aload_n 0, 1) := by decide +kernel
theorem dX12_mark_136 : decode cX12_mark 136 = .ok (.invokevirtual 277, 3) := by decide +kernel
theorem dX12_mark_139 : decode cX12_mark 139 = .ok (.ireturn, 1) := by decide +kernel
theorem dX12_mark_140 : decode cX12_mark 140 = .ok (.aload_n 0, 1) := by decide +kernel
theorem dX12_mark_141 : decode cX12_mark 141 = .ok (.invokevirtual 280, 3) := by decide +kernel
theorem dX12_mark_144 : decode cX12_mark 144 = .ok (.ireturn, 1) := by decide +kernel
theorem dX12_wakesBy_0 : decode cX12_wakesBy 0 = .ok (.aload_n 0, 1) := by decide +kernel
theorem dX12_wakesBy_1 : decode cX12_wakesBy 1 = .ok (.iload_n 1, 1) := by decide +kernel
theorem dX12_wakesBy_2 : decode cX12_wakesBy 2 = .ok (.invokevirtual 174, 3) := by decide +kernel
theorem dX12_wakesBy_5 : decode cX12_wakesBy 5 = .ok (.aload_n 0, 1) := by decide +kernel
theorem dX12_wakesBy_6 : decode cX12_wakesBy 6 = .ok (.invokevirtual 177, 3) := by decide +kernel
theorem dX12_wakesBy_9 : decode cX12_wakesBy 9 = .ok (.iconst 0, 1) := by decide +kernel
theorem dX12_wakesBy_10 : decode cX12_wakesBy 10 = .ok (.istore_n 2, 1) := by decide +kernel
theorem dX12_wakesBy_11 : decode cX12_wakesBy 11 = .ok (.iload_n 2, 1) := by decide +kernel
theorem dX12_wakesBy_12 : decode cX12_wakesBy 12 = .ok (.sipush 300, 3) := by decide +kernel
theorem dX12_wakesBy_15 : decode cX12_wakesBy 15 = .ok (.if_icmp .ge 13, 3) := by decide +kernel
theorem dX12_wakesBy_18 : decode cX12_wakesBy 18 = .ok (.aload_n 0, 1) := by decide +kernel
theorem dX12_wakesBy_19 : decode cX12_wakesBy 19 = .ok (.invokevirtual 220, 3) := by decide +kernel
theorem dX12_wakesBy_22 : decode cX12_wakesBy 22 = .ok (.iinc 2 1, 3) := by decide +kernel
theorem dX12_wakesBy_25 : decode cX12_wakesBy 25 = .ok (.goto (-14), 3) := by decide +kernel
theorem dX12_wakesBy_28 : decode cX12_wakesBy 28 = .ok (.return_, 1) := by decide +kernel
theorem dX12_loudest_0 : decode cX12_loudest 0 = .ok (.iconst 0, 1) := by decide +kernel
theorem dX12_loudest_1 : decode cX12_loudest 1 = .ok (.istore_n 1, 1) := by decide +kernel
theorem dX12_loudest_2 : decode cX12_loudest 2 = .ok (.iconst 1, 1) := by decide +kernel
theorem dX12_loudest_3 : decode cX12_loudest 3 = .ok (.istore_n 2, 1) := by decide +kernel
theorem dX12_loudest_4 : decode cX12_loudest 4 = .ok (.iload_n 2, 1) := by decide +kernel
theorem dX12_loudest_5 : decode cX12_loudest 5 = .ok (.aload_n 0, 1) := by decide +kernel
theorem dX12_loudest_6 : decode cX12_loudest 6 = .ok (.iconst 0, 1) := by decide +kernel
theorem dX12_loudest_7 : decode cX12_loudest 7 = .ok (.invokevirtual 183, 3) := by decide +kernel
theorem dX12_loudest_10 : decode cX12_loudest 10 = .ok (.if_icmp .ge 28, 3) := by decide +kernel
theorem dX12_loudest_13 : decode cX12_loudest 13 = .ok (.aload_n 0, 1) := by decide +kernel
theorem dX12_loudest_14 : decode cX12_loudest 14 = .ok (.iload_n 2, 1) := by decide +kernel
theorem dX12_loudest_15 : decode cX12_loudest 15 = .ok (.invokevirtual 223, 3) := by decide +kernel
theorem dX12_loudest_18 : decode cX12_loudest 18 = .ok (.aload_n 0, 1) := by decide +kernel
theorem dX12_loudest_19 : decode cX12_loudest 19 = .ok (.iload_n 1, 1) := by decide +kernel
theorem dX12_loudest_20 : decode cX12_loudest 20 = .ok (.invokevirtual 223, 3) := by decide +kernel
theorem dX12_loudest_23 : decode cX12_loudest 23 = .ok (.if_icmp .le 7, 3) := by decide +kernel
theorem dX12_loudest_26 : decode cX12_loudest 26 = .ok (.iload_n 2, 1) := by decide +kernel
theorem dX12_loudest_27 : decode cX12_loudest 27 = .ok (.goto 4, 3) := by decide +kernel
theorem dX12_loudest_30 : decode cX12_loudest 30 = .ok (.iload_n 1, 1) := by decide +kernel
theorem dX12_loudest_31 : decode cX12_loudest 31 = .ok (.istore_n 1, 1) := by decide +kernel
theorem dX12_loudest_32 : decode cX12_loudest 32 = .ok (.iinc 2 1, 3) := by decide +kernel
theorem dX12_loudest_35 : decode cX12_loudest 35 = .ok (.goto (-31), 3) := by decide +kernel
theorem dX12_loudest_38 : decode cX12_loudest 38 = .ok (.iload_n 1, 1) := by decide +kernel
theorem dX12_loudest_39 : decode cX12_loudest 39 = .ok (.ireturn, 1) := by decide +kernel
theorem dX12_stillest_0 : decode cX12_stillest 0 = .ok (.iconst 0, 1) := by decide +kernel
theorem dX12_stillest_1 : decode cX12_stillest 1 = .ok (.istore_n 1, 1) := by decide +kernel
theorem dX12_stillest_2 : decode cX12_stillest 2 = .ok (.iconst 1, 1) := by decide +kernel
theorem dX12_stillest_3 : decode cX12_stillest 3 = .ok (.istore_n 2, 1) := by decide +kernel
theorem dX12_stillest_4 : decode cX12_stillest 4 = .ok (.iload_n 2, 1) := by decide +kernel
theorem dX12_stillest_5 : decode cX12_stillest 5 = .ok (.aload_n 0, 1) := by decide +kernel
theorem dX12_stillest_6 : decode cX12_stillest 6 = .ok (.iconst 0, 1) := by decide +kernel
theorem dX12_stillest_7 : decode cX12_stillest 7 = .ok (.invokevirtual 183, 3) := by decide +kernel
theorem dX12_stillest_10 : decode cX12_stillest 10 = .ok (.if_icmp .ge 28, 3) := by decide +kernel
theorem dX12_stillest_13 : decode cX12_stillest 13 = .ok (.aload_n 0, 1) := by decide +kernel
theorem dX12_stillest_14 : decode cX12_stillest 14 = .ok (.iload_n 2, 1) := by decide +kernel
theorem dX12_stillest_15 : decode cX12_stillest 15 = .ok (.invokevirtual 223, 3) := by decide +kernel
theorem dX12_stillest_18 : decode cX12_stillest 18 = .ok (.aload_n 0, 1) := by decide +kernel
theorem dX12_stillest_19 : decode cX12_stillest 19 = .ok (.iload_n 1, 1) := by decide +kernel
theorem dX12_stillest_20 : decode cX12_stillest 20 = .ok (.invokevirtual 223, 3) := by decide +kernel
theorem dX12_stillest_23 : decode cX12_stillest 23 = .ok (.if_icmp .ge 7, 3) := by decide +kernel
theorem dX12_stillest_26 : decode cX12_stillest 26 = .ok (.iload_n 2, 1) := by decide +kernel
theorem dX12_stillest_27 : decode cX12_stillest 27 = .ok (.goto 4, 3) := by decide +kernel
theorem dX12_stillest_30 : decode cX12_stillest 30 = .ok (.iload_n 1, 1) := by decide +kernel
theorem dX12_stillest_31 : decode cX12_stillest 31 = .ok (.istore_n 1, 1) := by decide +kernel
theorem dX12_stillest_32 : decode cX12_stillest 32 = .ok (.iinc 2 1, 3) := by decide +kernel
theorem dX12_stillest_35 : decode cX12_stillest 35 = .ok (.goto (-31), 3) := by decide +kernel
theorem dX12_stillest_38 : decode cX12_stillest 38 = .ok (.iload_n 1, 1) := by decide +kernel
theorem dX12_stillest_39 : decode cX12_stillest 39 = .ok (.ireturn, 1) := by decide +kernel
theorem dX12_needWoken_0 : decode cX12_needWoken 0 = .ok (.iload_n 1, 1) := by decide +kernel
theorem dX12_needWoken_1 : decode cX12_needWoken 1 = .ok (.invokestatic 151, 3) := by decide +kernel
theorem dX12_needWoken_4 : decode cX12_needWoken 4 = .ok (.ifCond .eq 10, 3) := by decide +kernel
theorem dX12_needWoken_7 : decode cX12_needWoken 7 = .ok (.iload_n 2, 1) := by decide +kernel
theorem dX12_needWoken_8 : decode cX12_needWoken 8 = .ok (.invokestatic 151, 3) := by decide +kernel
theorem dX12_needWoken_11 : decode cX12_needWoken 11 = .ok (.ifCond .ne 5, 3) := by decide +kernel
theorem dX12_needWoken_14 : decode cX12_needWoken 14 = .ok (.iconst (-1), 1) := by decide +kernel
theorem dX12_needWoken_15 : decode cX12_needWoken 15 = .ok (.ireturn, 1) := by decide +kernel
theorem dX12_needWoken_16 : decode cX12_needWoken 16 = .ok (.aload_n 0, 1) := by decide +kernel
theorem dX12_needWoken_17 : decode cX12_needWoken 17 = .ok (.getfield 29, 3) := by decide +kernel
theorem dX12_needWoken_20 : decode cX12_needWoken 20 = .ok (.iload_n 1, 1) := by decide +kernel
theorem dX12_needWoken_21 : decode cX12_needWoken 21 = .ok (.baload, 1) := by decide +kernel
theorem dX12_needWoken_22 : decode cX12_needWoken 22 = .ok (.ifCond .eq 16, 3) := by decide +kernel
theorem dX12_needWoken_25 : decode cX12_needWoken 25 = .ok (.aload_n 0, 1) := by decide +kernel
theorem dX12_needWoken_26 : decode cX12_needWoken 26 = .ok (.getfield 36, 3) := by decide +kernel
theorem dX12_needWoken_29 : decode cX12_needWoken 29 = .ok (.iload_n 2, 1) := by decide +kernel
theorem dX12_needWoken_30 : decode cX12_needWoken 30 = .ok (.baload, 1) := by decide +kernel
theorem dX12_needWoken_31 : decode cX12_needWoken 31 = .ok (.ifCond .eq 7, 3) := by decide +kernel
theorem dX12_needWoken_34 : decode cX12_needWoken 34 = .ok (.iconst 0, 1) := by decide +kernel
theorem dX12_needWoken_35 : decode cX12_needWoken 35 = .ok (.goto 8, 3) := by decide +kernel
theorem dX12_needWoken_38 : decode cX12_needWoken 38 = .ok (.aload_n 0, 1) := by decide +kernel
theorem dX12_needWoken_39 : decode cX12_needWoken 39 = .ok (.iconst 1, 1) := by decide +kernel
theorem dX12_needWoken_40 : decode cX12_needWoken 40 = .ok (.invokevirtual 100, 3) := by decide +kernel
theorem dX12_needWoken_43 : decode cX12_needWoken 43 = .ok (.ireturn, 1) := by decide +kernel
theorem dX12_layWoken_0 : decode cX12_layWoken 0 = .ok (.aload_n 0, 1) := by decide +kernel
theorem dX12_layWoken_1 : decode cX12_layWoken 1 = .ok (.iconst 4, 1) := by decide +kernel
theorem dX12_layWoken_2 : decode cX12_layWoken 2 = .ok (.invokevirtual 167, 3) := by decide +kernel
theorem dX12_layWoken_5 : decode cX12_layWoken 5 = .ok (.aload_n 0, 1) := by decide +kernel
theorem dX12_layWoken_6 : decode cX12_layWoken 6 = .ok (.iload_n 1, 1) := by decide +kernel
theorem dX12_layWoken_7 : decode cX12_layWoken 7 = .ok (.invokevirtual 171, 3) := by decide +kernel
theorem dX12_layWoken_10 : decode cX12_layWoken 10 = .ok (.aload_n 0, 1) := by decide +kernel
theorem dX12_layWoken_11 : decode cX12_layWoken 11 = .ok (.iload_n 2, 1) := by decide +kernel
theorem dX12_layWoken_12 : decode cX12_layWoken 12 = .ok (.invokevirtual 299, 3) := by decide +kernel
theorem dX12_layWoken_15 : decode cX12_layWoken 15 = .ok (.return_, 1) := by decide +kernel
theorem dX12_quiet_0 : decode cX12_quiet 0 = .ok (.aload_n 0, 1) := by decide +kernel
theorem dX12_quiet_1 : decode cX12_quiet 1 = .ok (.iload_n 1, 1) := by decide +kernel
theorem dX12_quiet_2 : decode cX12_quiet 2 = .ok (.iload_n 2, 1) := by decide +kernel
theorem dX12_quiet_3 : decode cX12_quiet 3 = .ok (.invokevirtual 302, 3) := by decide +kernel
theorem dX12_quiet_6 : decode cX12_quiet 6 = .ok (.istore_n 3, 1) := by decide +kernel
theorem dX12_quiet_7 : decode cX12_quiet 7 = .ok (.iload_n 3, 1) := by decide +kernel
theorem dX12_quiet_8 : decode cX12_quiet 8 = .ok (.ifCond .ge 5, 3) := by decide +kernel
theorem dX12_quiet_11 : decode cX12_quiet 11 = .ok (.iload_n 3, 1) := by decide +kernel
theorem dX12_quiet_12 : decode cX12_quiet 12 = .ok (.ireturn, 1) := by decide +kernel
theorem dX12_quiet_13 : decode cX12_quiet 13 = .ok (.aload_n 0, 1) := by decide +kernel
theorem dX12_quiet_14 : decode cX12_quiet 14 = .ok (.iload_n 1, 1) := by decide +kernel
theorem dX12_quiet_15 : decode cX12_quiet 15 = .ok (.iload_n 2, 1) := by decide +kernel
theorem dX12_quiet_16 : decode cX12_quiet 16 = .ok (.invokevirtual 305, 3) := by decide +kernel
theorem dX12_quiet_19 : decode cX12_quiet 19 = .ok (.aload_n 0, 1) := by decide +kernel
theorem dX12_quiet_20 : decode cX12_quiet 20 = .ok (.aload_n 0, 1) := by decide +kernel
theorem dX12_quiet_21 : decode cX12_quiet 21 = .ok (.invokevirtual 308, 3) := by decide +kernel
theorem dX12_quiet_24 : decode cX12_quiet 24 = .ok (.aload_n 0, 1) := by decide +kernel
theorem dX12_quiet_25 : decode cX12_quiet 25 = .ok (.aload_n 0, 1) := by decide +kernel
theorem dX12_quiet_26 : decode cX12_quiet 26 = .ok (.invokevirtual 308, 3) := by decide +kernel
theorem dX12_quiet_29 : decode cX12_quiet 29 = .ok (.invokevirtual 223, 3) := by decide +kernel
theorem dX12_quiet_32 : decode cX12_quiet 32 = .ok (.invokevirtual 108, 3) := by decide +kernel
theorem dX12_quiet_35 : decode cX12_quiet 35 = .ok (.ireturn, 1) := by decide +kernel
theorem dX12_still_0 : decode cX12_still 0 = .ok (.aload_n 0, 1) := by decide +kernel
theorem dX12_still_1 : decode cX12_still 1 = .ok (.iload_n 1, 1) := by decide +kernel
theorem dX12_still_2 : decode cX12_still 2 = .ok (.iload_n 2, 1) := by decide +kernel
theorem dX12_still_3 : decode cX12_still 3 = .ok (.invokevirtual 302, 3) := by decide +kernel
theorem dX12_still_6 : decode cX12_still 6 = .ok (.istore_n 3, 1) := by decide +kernel
theorem dX12_still_7 : decode cX12_still 7 = .ok (.iload_n 3, 1) := by decide +kernel
theorem dX12_still_8 : decode cX12_still 8 = .ok (.ifCond .ge 5, 3) := by decide +kernel
theorem dX12_still_11 : decode cX12_still 11 = .ok (.iload_n 3, 1) := by decide +kernel
theorem dX12_still_12 : decode cX12_still 12 = .ok (.ireturn, 1) := by decide +kernel
theorem dX12_still_13 : decode cX12_still 13 = .ok (.aload_n 0, 1) := by decide +kernel
theorem dX12_still_14 : decode cX12_still 14 = .ok (.iload_n 1, 1) := by decide +kernel
theorem dX12_still_15 : decode cX12_still 15 = .ok (.iload_n 2, 1) := by decide +kernel
theorem dX12_still_16 : decode cX12_still 16 = .ok (.invokevirtual 305, 3) := by decide +kernel
theorem dX12_still_19 : decode cX12_still 19 = .ok (.aload_n 0, 1) := by decide +kernel
theorem dX12_still_20 : decode cX12_still 20 = .ok (.aload_n 0, 1) := by decide +kernel
theorem dX12_still_21 : decode cX12_still 21 = .ok (.aload_n 0, 1) := by decide +kernel
theorem dX12_still_22 : decode cX12_still 22 = .ok (.invokevirtual 311, 3) := by decide +kernel
theorem dX12_still_25 : decode cX12_still 25 = .ok (.invokevirtual 223, 3) := by decide +kernel
theorem dX12_still_28 : decode cX12_still 28 = .ok (.aload_n 0, 1) := by decide +kernel
theorem dX12_still_29 : decode cX12_still 29 = .ok (.invokevirtual 311, 3) := by decide +kernel
theorem dX12_still_32 : decode cX12_still 32 = .ok (.invokevirtual 108, 3) := by decide +kernel
theorem dX12_still_35 : decode cX12_still 35 = .ok (.ireturn, 1) := by decide +kernel
theorem dX12_isAnySea_0 : decode cX12_isAnySea 0 = .ok (.iconst 0, 1) := by decide +kernel
theorem dX12_isAnySea_1 : decode cX12_isAnySea 1 = .ok (.istore_n 1, 1) := by decide +kernel
theorem dX12_isAnySea_2 : decode cX12_isAnySea 2 = .ok (.iconst 0, 1) := by decide +kernel
theorem dX12_isAnySea_3 : decode cX12_isAnySea 3 = .ok (.istore_n 2, 1) := by decide +kernel
theorem dX12_isAnySea_4 : decode cX12_isAnySea 4 = .ok (.iload_n 2, 1) := by decide +kernel
theorem dX12_isAnySea_5 : decode cX12_isAnySea 5 = .ok (.iconst 4, 1) := by decide +kernel
theorem dX12_isAnySea_6 : decode cX12_isAnySea 6 = .ok (.if_icmp .ge 28, 3) := by decide +kernel
theorem dX12_isAnySea_9 : decode cX12_isAnySea 9 = .ok (.iload_n 1, 1) := by decide +kernel
theorem dX12_isAnySea_10 : decode cX12_isAnySea 10 = .ok (.ifCond .ne 12, 3) := by decide +kernel
theorem dX12_isAnySea_13 : decode cX12_isAnySea 13 = .ok (.aload_n 0, 1) := by decide +kernel
theorem dX12_isAnySea_14 : decode cX12_isAnySea 14 = .ok (.getfield 36, 3) := by decide +kernel
theorem dX12_isAnySea_17 : decode cX12_isAnySea 17 = .ok (.iload_n 2, 1) := by decide +kernel
theorem dX12_isAnySea_18 : decode cX12_isAnySea 18 = .ok (.baload, 1) := by decide +kernel
theorem dX12_isAnySea_19 : decode cX12_isAnySea 19 = .ok (.ifCond .eq 7, 3) := by decide +kernel
theorem dX12_isAnySea_22 : decode cX12_isAnySea 22 = .ok (.iconst 1, 1) := by decide +kernel
theorem dX12_isAnySea_23 : decode cX12_isAnySea 23 = .ok (.goto 4, 3) := by decide +kernel
theorem dX12_isAnySea_26 : decode cX12_isAnySea 26 = .ok (.iconst 0, 1) := by decide +kernel
theorem dX12_isAnySea_27 : decode cX12_isAnySea 27 = .ok (.istore_n 1, 1) := by decide +kernel
theorem dX12_isAnySea_28 : decode cX12_isAnySea 28 = .ok (.iinc 2 1, 3) := by decide +kernel
theorem dX12_isAnySea_31 : decode cX12_isAnySea 31 = .ok (.goto (-27), 3) := by decide +kernel
theorem dX12_isAnySea_34 : decode cX12_isAnySea 34 = .ok (.iload_n 1, 1) := by decide +kernel
theorem dX12_isAnySea_35 : decode cX12_isAnySea 35 = .ok (.ireturn, 1) := by decide +kernel
theorem dX12_wakes_0 : decode cX12_wakes 0 = .ok (.iload_n 1, 1) := by decide +kernel
theorem dX12_wakes_1 : decode cX12_wakes 1 = .ok (.invokestatic 151, 3) := by decide +kernel
theorem dX12_wakes_4 : decode cX12_wakes 4 = .ok (.ifCond .ne 5, 3) := by decide +kernel
theorem dX12_wakes_7 : decode cX12_wakes 7 = .ok (.iconst (-1), 1) := by decide +kernel
theorem dX12_wakes_8 : decode cX12_wakes 8 = .ok (.ireturn, 1) := by decide +kernel
theorem dX12_wakes_9 : decode cX12_wakes 9 = .ok (.aload_n 0, 1) := by decide +kernel
theorem dX12_wakes_10 : decode cX12_wakes 10 = .ok (.getfield 29, 3) := by decide +kernel
theorem dX12_wakes_13 : decode cX12_wakes 13 = .ok (.iload_n 1, 1) := by decide +kernel
theorem dX12_wakes_14 : decode cX12_wakes 14 = .ok (.baload, 1) := by decide +kernel
theorem dX12_wakes_15 : decode cX12_wakes 15 = .ok (.ifCond .eq 10, 3) := by decide +kernel
theorem dX12_wakes_18 : decode cX12_wakes 18 = .ok (.aload_n 0, 1) := by decide +kernel
theorem dX12_wakes_19 : decode cX12_wakes 19 = .ok (.invokevirtual 314, 3) := by decide +kernel
theorem dX12_wakes_22 : decode cX12_wakes 22 = .ok (.ifCond .ne 9, 3) := by decide +kernel
theorem dX12_wakes_25 : decode cX12_wakes 25 = .ok (.aload_n 0, 1) := by decide +kernel
theorem dX12_wakes_26 : decode cX12_wakes 26 = .ok (.iconst 1, 1) := by decide +kernel
theorem dX12_wakes_27 : decode cX12_wakes 27 = .ok (.invokevirtual 100, 3) := by decide +kernel
theorem dX12_wakes_30 : decode cX12_wakes 30 = .ok (.ireturn, 1) := by decide +kernel
theorem dX12_wakes_31 : decode cX12_wakes 31 = .ok (.bipush (-9), 2) := by decide +kernel
theorem dX12_wakes_33 : decode cX12_wakes 33 = .ok (.istore_n 2, 1) := by decide +kernel
theorem dX12_wakes_34 : decode cX12_wakes 34 = .ok (.iconst 0, 1) := by decide +kernel
theorem dX12_wakes_35 : decode cX12_wakes 35 = .ok (.istore_n 3, 1) := by decide +kernel
theorem dX12_wakes_36 : decode cX12_wakes 36 = .ok (.iconst 0, 1) := by decide +kernel
theorem dX12_wakes_37 : decode cX12_wakes 37 = .ok (.istore 4, 2) := by decide +kernel
theorem dX12_wakes_39 : decode cX12_wakes 39 = .ok (.iload 4, 2) := by decide +kernel
theorem dX12_wakes_41 : decode cX12_wakes 41 = .ok (.iconst 4, 1) := by decide +kernel
theorem dX12_wakes_42 : decode cX12_wakes 42 = .ok (.if_icmp .ge 54, 3) := by decide +kernel
theorem dX12_wakes_45 : decode cX12_wakes 45 = .ok (.aload_n 0, 1) := by decide +kernel
theorem dX12_wakes_46 : decode cX12_wakes 46 = .ok (.getfield 36, 3) := by decide +kernel
theorem dX12_wakes_49 : decode cX12_wakes 49 = .ok (.iload 4, 2) := by decide +kernel
theorem dX12_wakes_51 : decode cX12_wakes 51 = .ok (.baload, 1) := by decide +kernel
theorem dX12_wakes_52 : decode cX12_wakes 52 = .ok (.ifCond .eq 38, 3) := by decide +kernel
theorem dX12_wakes_55 : decode cX12_wakes 55 = .ok (.aload_n 0, 1) := by decide +kernel
theorem dX12_wakes_56 : decode cX12_wakes 56 = .ok (.iload_n 1, 1) := by decide +kernel
theorem dX12_wakes_57 : decode cX12_wakes 57 = .ok (.iload 4, 2) := by decide +kernel
theorem dX12_wakes_59 : decode cX12_wakes 59 = .ok (.invokevirtual 305, 3) := by decide +kernel
theorem dX12_wakes_62 : decode cX12_wakes 62 = .ok (.aload_n 0, 1) := by decide +kernel
theorem dX12_wakes_63 : decode cX12_wakes 63 = .ok (.aload_n 0, 1) := by decide +kernel
theorem dX12_wakes_64 : decode cX12_wakes 64 = .ok (.invokevirtual 308, 3) := by decide +kernel
theorem dX12_wakes_67 : decode cX12_wakes 67 = .ok (.invokevirtual 223, 3) := by decide +kernel
theorem dX12_wakes_70 : decode cX12_wakes 70 = .ok (.istore 5, 2) := by decide +kernel
theorem dX12_wakes_72 : decode cX12_wakes 72 = .ok (.iload_n 2, 1) := by decide +kernel
theorem dX12_wakes_73 : decode cX12_wakes 73 = .ok (.bipush (-9), 2) := by decide +kernel
theorem dX12_wakes_75 : decode cX12_wakes 75 = .ok (.if_icmp .eq 9, 3) := by decide +kernel
theorem dX12_wakes_78 : decode cX12_wakes 78 = .ok (.iload 5, 2) := by decide +kernel
theorem dX12_wakes_80 : decode cX12_wakes 80 = .ok (.iload_n 3, 1) := by decide +kernel
theorem dX12_wakes_81 : decode cX12_wakes 81 = .ok (.if_icmp .le 9, 3) := by decide +kernel
theorem dX12_wakes_84 : decode cX12_wakes 84 = .ok (.iload 4, 2) := by decide +kernel
theorem dX12_wakes_86 : decode cX12_wakes 86 = .ok (.istore_n 2, 1) := by decide +kernel
theorem dX12_wakes_87 : decode cX12_wakes 87 = .ok (.iload 5, 2) := by decide +kernel
theorem dX12_wakes_89 : decode cX12_wakes 89 = .ok (.istore_n 3, 1) := by decide +kernel
theorem dX12_wakes_90 : decode cX12_wakes 90 = .ok (.iinc 4 1, 3) := by decide +kernel
theorem dX12_wakes_93 : decode cX12_wakes 93 = .ok (.goto (-54), 3) := by decide +kernel
theorem dX12_wakes_96 : decode cX12_wakes 96 = .ok (.aload_n 0, 1) := by decide +kernel
theorem dX12_wakes_97 : decode cX12_wakes 97 = .ok (.iload_n 3, 1) := by decide +kernel
theorem dX12_wakes_98 : decode cX12_wakes 98 = .ok (.iload_n 2, 1) := by decide +kernel
theorem dX12_wakes_99 : decode cX12_wakes 99 = .ok (.invokevirtual 108, 3) := by decide +kernel
theorem dX12_wakes_102 : decode cX12_wakes 102 = .ok (.ireturn, 1) := by decide +kernel
theorem dX12_layPull_0 : decode cX12_layPull 0 = .ok (.aload_n 0, 1) := by decide +kernel
theorem dX12_layPull_1 : decode cX12_layPull 1 = .ok (.iconst 4, 1) := by decide +kernel
theorem dX12_layPull_2 : decode cX12_layPull 2 = .ok (.invokevirtual 167, 3) := by decide +kernel
theorem dX12_layPull_5 : decode cX12_layPull 5 = .ok (.aload_n 0, 1) := by decide +kernel
theorem dX12_layPull_6 : decode cX12_layPull 6 = .ok (.iload_n 2, 1) := by decide +kernel
theorem dX12_layPull_7 : decode cX12_layPull 7 = .ok (.invokevirtual 171, 3) := by decide +kernel
theorem dX12_layPull_10 : decode cX12_layPull 10 = .ok (.aload_n 0, 1) := by decide +kernel
theorem dX12_layPull_11 : decode cX12_layPull 11 = .ok (.iload_n 3, 1) := by decide +kernel
theorem dX12_layPull_12 : decode cX12_layPull 12 = .ok (.invokevirtual 174, 3) := by decide +kernel
theorem dX12_layPull_15 : decode cX12_layPull 15 = .ok (.aload_n 0, 1) := by decide +kernel
theorem dX12_layPull_16 : decode cX12_layPull 16 = .ok (.invokevirtual 177, 3) := by decide +kernel
theorem dX12_layPull_19 : decode cX12_layPull 19 = .ok (.aload_n 0, 1) := by decide +kernel
theorem dX12_layPull_20 : decode cX12_layPull 20 = .ok (.iload_n 1, 1) := by decide +kernel
theorem dX12_layPull_21 : decode cX12_layPull 21 = .ok (.invokevirtual 180, 3) := by decide +kernel
theorem dX12_layPull_24 : decode cX12_layPull 24 = .ok (.aload_n 0, 1) := by decide +kernel
theorem dX12_layPull_25 : decode cX12_layPull 25 = .ok (.iload_n 1, 1) := by decide +kernel
theorem dX12_layPull_26 : decode cX12_layPull 26 = .ok (.invokestatic 164, 3) := by decide +kernel
theorem dX12_layPull_29 : decode cX12_layPull 29 = .ok (.iconst 1, 1) := by decide +kernel
theorem dX12_layPull_30 : decode cX12_layPull 30 = .ok (.iadd, 1) := by decide +kernel
theorem dX12_layPull_31 : decode cX12_layPull 31 = .ok (.iload 4, 2) := by decide +kernel
theorem dX12_layPull_33 : decode cX12_layPull 33 = .ok (.invokevirtual 160, 3) := by decide +kernel
theorem dX12_layPull_36 : decode cX12_layPull 36 = .ok (.aload_n 0, 1) := by decide +kernel
theorem dX12_layPull_37 : decode cX12_layPull 37 = .ok (.iload_n 1, 1) := by decide +kernel
theorem dX12_layPull_38 : decode cX12_layPull 38 = .ok (.invokestatic 164, 3) := by decide +kernel
