theorem dX12_since_63 : decode cX12_since 63 = .ok (.iload 6, 2) := by decide +kernel
theorem dX12_since_65 : decode cX12_since 65 = .ok (.ifCond .ge 6, 3) := by decide +kernel
theorem dX12_since_68 : decode cX12_since 68 = .ok (.iload 6, 2) := by decide +kernel
theorem dX12_since_70 : decode cX12_since 70 = .ok (.ireturn, 1) := by decide +kernel
theorem dX12_since_71 : decode cX12_since 71 = .ok (.aload_n 0, 1) := by decide +kernel
theorem dX12_since_72 : decode cX12_since 72 = .ok (.iconst 4, 1) := by decide +kernel
theorem dX12_since_73 : decode cX12_since 73 = .ok (.invokevirtual 167, 3) := by decide +kernel
theorem dX12_since_76 : decode cX12_since 76 = .ok (.aload_n 0, 1) := by decide +kernel
theorem dX12_since_77 : decode cX12_since 77 = .ok (.iload_n 1, 1) := by decide +kernel
theorem dX12_since_78 : decode cX12_since 78 = .ok (.invokevirtual 171, 3) := by decide +kernel
theorem dX12_since_81 : decode cX12_since 81 = .ok (.aload_n 0, 1) := by decide +kernel
theorem dX12_since_82 : decode cX12_since 82 = .ok (.iload_n 2, 1) := by decide +kernel
theorem dX12_since_83 : decode cX12_since 83 = .ok (.iload_n 3, 1) := by decide +kernel
theorem dX12_since_84 : decode cX12_since 84 = .ok (.iload 5, 2) := by decide +kernel
theorem dX12_since_86 : decode cX12_since 86 = .ok (.invokevirtual 353, 3) := by decide +kernel
theorem dX12_since_89 : decode cX12_since 89 = .ok (.istore 7, 2) := by decide +kernel
theorem dX12_since_91 : decode cX12_since 91 = .ok (.aload_n 0, 1) := by decide +kernel
theorem dX12_since_92 : decode cX12_since 92 = .ok (.iconst 4, 1) := by decide +kernel
theorem dX12_since_93 : decode cX12_since 93 = .ok (.aload_n 0, 1) := by decide +kernel
theorem dX12_since_94 : decode cX12_since 94 = .ok (.iconst 4, 1) := by decide +kernel
theorem dX12_since_95 : decode cX12_since 95 = .ok (.invokevirtual 183, 3) := by decide +kernel
theorem dX12_since_98 : decode cX12_since 98 = .ok (.iconst 1, 1) := by decide +kernel
theorem dX12_since_99 : decode cX12_since 99 = .ok (.iload 4, 2) := by decide +kernel
theorem dX12_since_101 : decode cX12_since 101 = .ok (.ishl, 1) := by decide +kernel
theorem dX12_since_102 : decode cX12_since 102 = .ok (.ior, 1) := by decide +kernel
theorem dX12_since_103 : decode cX12_since 103 = .ok (.invokevirtual 160, 3) := by decide +kernel
theorem dX12_since_106 : decode cX12_since 106 = .ok (.aload_n 0, 1) := by decide +kernel
theorem dX12_since_107 : decode cX12_since 107 = .ok (.iload_n 2, 1) := by decide +kernel
theorem dX12_since_108 : decode cX12_since 108 = .ok (.iload_n 3, 1) := by decide +kernel
theorem dX12_since_109 : decode cX12_since 109 = .ok (.iload 5, 2) := by decide +kernel
theorem dX12_since_111 : decode cX12_since 111 = .ok (.invokevirtual 353, 3) := by decide +kernel
theorem dX12_since_114 : decode cX12_since 114 = .ok (.istore 8, 2) := by decide +kernel
theorem dX12_since_116 : decode cX12_since 116 = .ok (.aload_n 0, 1) := by decide +kernel
theorem dX12_since_117 : decode cX12_since 117 = .ok (.iload 7, 2) := by decide +kernel
theorem dX12_since_119 : decode cX12_since 119 = .ok (.iload 8, 2) := by decide +kernel
theorem dX12_since_121 : decode cX12_since 121 = .ok (.invokestatic 283, 3) := by decide +kernel
theorem dX12_since_124 : decode cX12_since 124 = .ok (.iload 7, 2) := by decide +kernel
theorem dX12_since_126 : decode cX12_since 126 = .ok (.iload 8, 2) := by decide +kernel
theorem dX12_since_128 : decode cX12_since 128 = .ok (.if_icmp .gt 7, 3) := by decide +kernel
theorem dX12_since_131 : decode cX12_since 131 = .ok (.iconst 0, 1) := by decide +kernel
theorem dX12_since_132 : decode cX12_since 132 = .ok (.goto 4, 3) := by decide +kernel
theorem dX12_since_135 : decode cX12_since 135 = .ok (.iconst 1, 1) := by decide +kernel
theorem dX12_since_136 : decode cX12_since 136 = .ok (.invokevirtual 108, 3) := by decide +kernel
theorem dX12_since_139 : decode cX12_since 139 = .ok (.ireturn, 1) := by decide +kernel
theorem dX12_which_0 : decode cX12_which 0 = .ok (.iload_n 1, 1) := by decide +kernel
theorem dX12_which_1 : decode cX12_which 1 = .ok (.invokestatic 151, 3) := by decide +kernel
theorem dX12_which_4 : decode cX12_which 4 = .ok (.ifCond .eq 20, 3) := by decide +kernel
theorem dX12_which_7 : decode cX12_which 7 = .ok (.iload_n 2, 1) := by decide +kernel
theorem dX12_which_8 : decode cX12_which 8 = .ok (.iconst 0, 1) := by decide +kernel
theorem dX12_which_9 : decode cX12_which 9 = .ok (.bipush 15, 2) := by decide +kernel
theorem dX12_which_11 : decode cX12_which 11 = .ok (.invokestatic 86, 3) := by decide +kernel
theorem dX12_which_14 : decode cX12_which 14 = .ok (.ifCond .eq 10, 3) := by decide +kernel
theorem dX12_which_17 : decode cX12_which 17 = .ok (.iload_n 3, 1) := by decide +kernel
theorem dX12_which_18 : decode cX12_which 18 = .ok (.invokestatic 96, 3) := by decide +kernel
theorem dX12_which_21 : decode cX12_which 21 = .ok (.ifCond .ne 5, 3) := by decide +kernel
theorem dX12_which_24 : decode cX12_which 24 = .ok (.iconst (-1), 1) := by decide +kernel
theorem dX12_which_25 : decode cX12_which 25 = .ok (.ireturn, 1) := by decide +kernel
theorem dX12_which_26 : decode cX12_which 26 = .ok (.aload_n 0, 1) := by decide +kernel
theorem dX12_which_27 : decode cX12_which 27 = .ok (.iload_n 1, 1) := by decide +kernel
theorem dX12_which_28 : decode cX12_which 28 = .ok (.aload_n 0, 1) := by decide +kernel
theorem dX12_which_29 : decode cX12_which 29 = .ok (.invokevirtual 314, 3) := by decide +kernel
theorem dX12_which_32 : decode cX12_which 32 = .ok (.iload_n 2, 1) := by decide +kernel
theorem dX12_which_33 : decode cX12_which 33 = .ok (.bipush (-9), 2) := by decide +kernel
theorem dX12_which_35 : decode cX12_which 35 = .ok (.iload_n 3, 1) := by decide +kernel
theorem dX12_which_36 : decode cX12_which 36 = .ok (.invokevirtual 349, 3) := by decide +kernel
theorem dX12_which_39 : decode cX12_which 39 = .ok (.istore 4, 2) := by decide +kernel
theorem dX12_which_41 : decode cX12_which 41 = .ok (.iload 4, 2) := by decide +kernel
theorem dX12_which_43 : decode cX12_which 43 = .ok (.ifCond .ge 6, 3) := by decide +kernel
theorem dX12_which_46 : decode cX12_which 46 = .ok (.iload 4, 2) := by decide +kernel
theorem dX12_which_48 : decode cX12_which 48 = .ok (.ireturn, 1) := by decide +kernel
theorem dX12_which_49 : decode cX12_which 49 = .ok (.aload_n 0, 1) := by decide +kernel
theorem dX12_which_50 : decode cX12_which 50 = .ok (.iconst 4, 1) := by decide +kernel
theorem dX12_which_51 : decode cX12_which 51 = .ok (.invokevirtual 167, 3) := by decide +kernel
theorem dX12_which_54 : decode cX12_which 54 = .ok (.aload_n 0, 1) := by decide +kernel
theorem dX12_which_55 : decode cX12_which 55 = .ok (.iload_n 1, 1) := by decide +kernel
theorem dX12_which_56 : decode cX12_which 56 = .ok (.invokevirtual 171, 3) := by decide +kernel
theorem dX12_which_59 : decode cX12_which 59 = .ok (.bipush (-9), 2) := by decide +kernel
theorem dX12_which_61 : decode cX12_which 61 = .ok (.istore 5, 2) := by decide +kernel
theorem dX12_which_63 : decode cX12_which 63 = .ok (.iconst 0, 1) := by decide +kernel
theorem dX12_which_64 : decode cX12_which 64 = .ok (.istore 6, 2) := by decide +kernel
theorem dX12_which_66 : decode cX12_which 66 = .ok (.iconst 0, 1) := by decide +kernel
theorem dX12_which_67 : decode cX12_which 67 = .ok (.istore 7, 2) := by decide +kernel
theorem dX12_which_69 : decode cX12_which 69 = .ok (.iload 7, 2) := by decide +kernel
theorem dX12_which_71 : decode cX12_which 71 = .ok (.iconst 4, 1) := by decide +kernel
theorem dX12_which_72 : decode cX12_which 72 = .ok (.if_icmp .ge 51, 3) := by decide +kernel
theorem dX12_which_75 : decode cX12_which 75 = .ok (.aload_n 0, 1) := by decide +kernel
theorem dX12_which_76 : decode cX12_which 76 = .ok (.getfield 36, 3) := by decide +kernel
theorem dX12_which_79 : decode cX12_which 79 = .ok (.iload 7, 2) := by decide +kernel
theorem dX12_which_81 : decode cX12_which 81 = .ok (.baload, 1) := by decide +kernel
theorem dX12_which_82 : decode cX12_which 82 = .ok (.ifCond .eq 35, 3) := by decide +kernel
theorem dX12_which_85 : decode cX12_which 85 = .ok (.aload_n 0, 1) := by decide +kernel
theorem dX12_which_86 : decode cX12_which 86 = .ok (.iload 7, 2) := by decide +kernel
theorem dX12_which_88 : decode cX12_which 88 = .ok (.iload_n 2, 1) := by decide +kernel
theorem dX12_which_89 : decode cX12_which 89 = .ok (.iload_n 3, 1) := by decide +kernel
theorem dX12_which_90 : decode cX12_which 90 = .ok (.invokevirtual 353, 3) := by decide +kernel
theorem dX12_which_93 : decode cX12_which 93 = .ok (.istore 8, 2) := by decide +kernel
theorem dX12_which_95 : decode cX12_which 95 = .ok (.iload 5, 2) := by decide +kernel
theorem dX12_which_97 : decode cX12_which 97 = .ok (.bipush (-9), 2) := by decide +kernel
theorem dX12_which_99 : decode cX12_which 99 = .ok (.if_icmp .eq 10, 3) := by decide +kernel
theorem dX12_which_102 : decode cX12_which 102 = .ok (.iload 8, 2) := by decide +kernel
theorem dX12_which_104 : decode cX12_which 104 = .ok (.iload 6, 2) := by decide +kernel
theorem dX12_which_106 : decode cX12_which 106 = .ok (.if_icmp .ge 11, 3) := by decide +kernel
theorem dX12_which_109 : decode cX12_which 109 = .ok (.iload 7, 2) := by decide +kernel
theorem dX12_which_111 : decode cX12_which 111 = .ok (.istore 5, 2) := by decide +kernel
theorem dX12_which_113 : decode cX12_which 113 = .ok (.iload 8, 2) := by decide +kernel
theorem dX12_which_115 : decode cX12_which 115 = .ok (.istore 6, 2) := by decide +kernel
theorem dX12_which_117 : decode cX12_which 117 = .ok (.iinc 7 1, 3) := by decide +kernel
theorem dX12_which_120 : decode cX12_which 120 = .ok (.goto (-51), 3) := by decide +kernel
theorem dX12_which_123 : decode cX12_which 123 = .ok (.aload_n 0, 1) := by decide +kernel
theorem dX12_which_124 : decode cX12_which 124 = .ok (.iload 6, 2) := by decide +kernel
theorem dX12_which_126 : decode cX12_which 126 = .ok (.iload 5, 2) := by decide +kernel
theorem dX12_which_128 : decode cX12_which 128 = .ok (.invokevirtual 108, 3) := by decide +kernel
theorem dX12_which_131 : decode cX12_which 131 = .ok (.ireturn, 1) := by decide +kernel
theorem dX12_counted_0 : decode cX12_counted 0 = .ok (.iconst 0, 1) := by decide +kernel
theorem dX12_counted_1 : decode cX12_counted 1 = .ok (.istore_n 2, 1) := by decide +kernel
theorem dX12_counted_2 : decode cX12_counted 2 = .ok (.iconst 0, 1) := by decide +kernel
theorem dX12_counted_3 : decode cX12_counted 3 = .ok (.istore_n 3, 1) := by decide +kernel
theorem dX12_counted_4 : decode cX12_counted 4 = .ok (.iload_n 3, 1) := by decide +kernel
theorem dX12_counted_5 : decode cX12_counted 5 = .ok (.iconst 4, 1) := by decide +kernel
theorem dX12_counted_6 : decode cX12_counted 6 = .ok (.if_icmp .ge 77, 3) := by decide +kernel
theorem dX12_counted_9 : decode cX12_counted 9 = .ok (.iload_n 2, 1) := by decide +kernel
theorem dX12_counted_10 : decode cX12_counted 10 = .ok (.iload_n 1, 1) := by decide +kernel
theorem dX12_counted_11 : decode cX12_counted 11 = .ok (.ifCond .ne 12, 3) := by decide +kernel
theorem dX12_counted_14 : decode cX12_counted 14 = .ok (.aload_n 0, 1) := by decide +kernel
theorem dX12_counted_15 : decode cX12_counted 15 = .ok (.getfield 29, 3) := by decide +kernel
theorem dX12_counted_18 : decode cX12_counted 18 = .ok (.iload_n 3, 1) := by decide +kernel
theorem dX12_counted_19 : decode cX12_counted 19 = .ok (.baload, 1) := by decide +kernel
theorem dX12_counted_20 : decode cX12_counted 20 = .ok (.ifCond .ne 50, 3) := by decide +kernel
theorem dX12_counted_23 : decode cX12_counted 23 = .ok (.iload_n 1, 1) := by decide +kernel
theorem dX12_counted_24 : decode cX12_counted 24 = .ok (.iconst 1, 1) := by decide +kernel
theorem dX12_counted_25 : decode cX12_counted 25 = .ok (.if_icmp .ne 12, 3) := by decide +kernel
theorem dX12_counted_28 : decode cX12_counted 28 = .ok (.aload_n 0, 1) := by decide +kernel
theorem dX12_counted_29 : decode cX12_counted 29 = .ok (.getfield 36, 3) := by decide +kernel
theorem dX12_counted_32 : decode cX12_counted 32 = .ok (.iload_n 3, 1) := by decide +kernel
theorem dX12_counted_33 : decode cX12_counted 33 = .ok (.baload, 1) := by decide +kernel
theorem dX12_counted_34 : decode cX12_counted 34 = .ok (.ifCond .ne 36, 3) := by decide +kernel
theorem dX12_counted_37 : decode cX12_counted 37 = .ok (.iload_n 1, 1) := by decide +kernel
theorem dX12_counted_38 : decode cX12_counted 38 = .ok (.iconst 5, 1) := by decide +kernel
theorem dX12_counted_39 : decode cX12_counted 39 = .ok (.if_icmp .ne 16, 3) := by decide +kernel
theorem dX12_counted_42 : decode cX12_counted 42 = .ok (.iload_n 3, 1) := by decide +kernel
theorem dX12_counted_43 : decode cX12_counted 43 = .ok (.ifCond .le 12, 3) := by decide +kernel
theorem dX12_counted_46 : decode cX12_counted 46 = .ok (.aload_n 0, 1) := by decide +kernel
theorem dX12_counted_47 : decode cX12_counted 47 = .ok (.getfield 57, 3) := by decide +kernel
theorem dX12_counted_50 : decode cX12_counted 50 = .ok (.iload_n 3, 1) := by decide +kernel
theorem dX12_counted_51 : decode cX12_counted 51 = .ok (.baload, 1) := by decide +kernel
theorem dX12_counted_52 : decode cX12_counted 52 = .ok (.ifCond .ne 18, 3) := by decide +kernel
theorem dX12_counted_55 : decode cX12_counted 55 = .ok (.iload_n 1, 1) := by decide +kernel
theorem dX12_counted_56 : decode cX12_counted 56 = .ok (.bipush 7, 2) := by decide +kernel
theorem dX12_counted_58 : decode cX12_counted 58 = .ok (.if_icmp .ne 16, 3) := by decide +kernel
theorem dX12_counted_61 : decode cX12_counted 61 = .ok (.aload_n 0, 1) := by decide +kernel
theorem dX12_counted_62 : decode cX12_counted 62 = .ok (.getfield 22, 3) := by decide +kernel
theorem dX12_counted_65 : decode cX12_counted 65 = .ok (.iload_n 3, 1) := by decide +kernel
theorem dX12_counted_66 : decode cX12_counted 66 = .ok (.iaload, 1) := by decide +kernel
theorem dX12_counted_67 : decode cX12_counted 67 = .ok (.ifCond .lt 7, 3) := by decide +kernel
theorem dX12_counted_70 : decode cX12_counted 70 = .ok (.iconst 1, 1) := by decide +kernel
theorem dX12_counted_71 : decode cX12_counted 71 = .ok (.goto 4, 3) := by decide +kernel
theorem dX12_counted_74 : decode cX12_counted 74 = .ok (.iconst 0, 1) := by decide +kernel
theorem dX12_counted_75 : decode cX12_counted 75 = .ok (.iadd, 1) := by decide +kernel
theorem dX12_counted_76 : decode cX12_counted 76 = .ok (.istore_n 2, 1) := by decide +kernel
theorem dX12_counted_77 : decode cX12_counted 77 = .ok (.iinc 3 1, 3) := by decide +kernel
theorem dX12_counted_80 : decode cX12_counted 80 = .ok (.goto (-76), 3) := by decide +kernel
theorem dX12_counted_83 : decode cX12_counted 83 = .ok (.iconst 0, 1) := by decide +kernel
theorem dX12_counted_84 : decode cX12_counted 84 = .ok (.istore_n 3, 1) := by decide +kernel
theorem dX12_counted_85 : decode cX12_counted 85 = .ok (.iload_n 3, 1) := by decide +kernel
theorem dX12_counted_86 : decode cX12_counted 86 = .ok (.iconst 3, 1) := by decide +kernel
theorem dX12_counted_87 : decode cX12_counted 87 = .ok (.if_icmp .ge 31, 3) := by decide +kernel
theorem dX12_counted_90 : decode cX12_counted 90 = .ok (.iload_n 2, 1) := by decide +kernel
theorem dX12_counted_91 : decode cX12_counted 91 = .ok (.iload_n 1, 1) := by decide +kernel
theorem dX12_counted_92 : decode cX12_counted 92 = .ok (.iconst 2, 1) := by decide +kernel
theorem dX12_counted_93 : decode cX12_counted 93 = .ok (.if_icmp .ne 16, 3) := by decide +kernel
theorem dX12_counted_96 : decode cX12_counted 96 = .ok (.aload_n 0, 1) := by decide +kernel
theorem dX12_counted_97 : decode cX12_counted 97 = .ok (.getfield 51, 3) := by decide +kernel
theorem dX12_counted_100 : decode cX12_counted 100 = .ok (.iload_n 3, 1) := by decide +kernel
theorem dX12_counted_101 : decode cX12_counted 101 = .ok (.baload, 1) := by decide +kernel
theorem dX12_counted_102 : decode cX12_counted 102 = .ok (.ifCond .eq 7, 3) := by decide +kernel
theorem dX12_counted_105 : decode cX12_counted 105 = .ok (.iconst 1, 1) := by decide +kernel
theorem dX12_counted_106 : decode cX12_counted 106 = .ok (.goto 4, 3) := by decide +kernel
theorem dX12_counted_109 : decode cX12_counted 109 = .ok (.iconst 0, 1) := by decide +kernel
theorem dX12_counted_110 : decode cX12_counted 110 = .ok (.iadd, 1) := by decide +kernel
theorem dX12_counted_111 : decode cX12_counted 111 = .ok (.istore_n 2, 1) := by decide +kernel
theorem dX12_counted_112 : decode cX12_counted 112 = .ok (.iinc 3 1, 3) := by decide +kernel
theorem dX12_counted_115 : decode cX12_counted 115 = .ok (.goto (-30), 3) := by decide +kernel
theorem dX12_counted_118 : decode cX12_counted 118 = .ok (.iconst 0, 1) := by decide +kernel
theorem dX12_counted_119 : decode cX12_counted 119 = .ok (.istore_n 3, 1) := by decide +kernel
theorem dX12_counted_120 : decode cX12_counted 120 = .ok (.iload_n 3, 1) := by decide +kernel
theorem dX12_counted_121 : decode cX12_counted 121 = .ok (.bipush 6, 2) := by decide +kernel
theorem dX12_counted_123 : decode cX12_counted 123 = .ok (.if_icmp .ge 32, 3) := by decide +kernel
theorem dX12_counted_126 : decode cX12_counted 126 = .ok (.iload_n 2, 1) := by decide +kernel
theorem dX12_counted_127 : decode cX12_counted 127 = .ok (.iload_n 1, 1) := by decide +kernel
theorem dX12_counted_128 : decode cX12_counted 128 = .ok (.bipush 6, 2) := by decide +kernel
theorem dX12_counted_130 : decode cX12_counted 130 = .ok (.if_icmp .ne 16, 3) := by decide +kernel
theorem dX12_counted_133 : decode cX12_counted 133 = .ok (.aload_n 0, 1) := by decide +kernel
theorem dX12_counted_134 : decode cX12_counted 134 = .ok (.getfield 13, 3) := by decide +kernel
theorem dX12_counted_137 : decode cX12_counted 137 = .ok (.iload_n 3, 1) := by decide +kernel
theorem dX12_counted_138 : decode cX12_counted 138 = .ok (.iaload, 1) := by decide +kernel
theorem dX12_counted_139 : decode cX12_counted 139 = .ok (.ifCond .lt 7, 3) := by decide +kernel
theorem dX12_counted_142 : decode cX12_counted 142 = .ok (.iconst 1, 1) := by decide +kernel
theorem dX12_counted_143 : decode cX12_counted 143 = .ok (.goto 4, 3) := by decide +kernel
theorem dX12_counted_146 : decode cX12_counted 146 = .ok (.iconst 0, 1) := by decide +kernel
theorem dX12_counted_147 : decode cX12_counted 147 = .ok (.iadd, 1) := by decide +kernel
theorem dX12_counted_148 : decode cX12_counted 148 = .ok (.istore_n 2, 1) := by decide +kernel
theorem dX12_counted_149 : decode cX12_counted 149 = .ok (.iinc 3 1, 3) := by decide +kernel
theorem dX12_counted_152 : decode cX12_counted 152 = .ok (.goto (-32), 3) := by decide +kernel
theorem dX12_counted_155 : decode cX12_counted 155 = .ok (.aload_n 0, 1) := by decide +kernel
theorem dX12_counted_156 : decode cX12_counted 156 = .ok (.iconst 0, 1) := by decide +kernel
theorem dX12_counted_157 : decode cX12_counted 157 = .ok (.invokevirtual 167, 3) := by decide +kernel
theorem dX12_counted_160 : decode cX12_counted 160 = .ok (.iload_n 1, 1) := by decide +kernel
theorem dX12_counted_161 : decode cX12_counted 161 = .ok (.iconst 3, 1) := by decide +kernel
theorem dX12_counted_162 : decode cX12_counted 162 = .ok (.if_icmp .ne 10, 3) := by decide +kernel
theorem dX12_counted_165 : decode cX12_counted 165 = .ok (.aload_n 0, 1) := by decide +kernel
theorem dX12_counted_166 : decode cX12_counted 166 = .ok (.getfield 337, 3) := by decide +kernel
theorem dX12_counted_169 : decode cX12_counted 169 = .ok (.goto 31, 3) := by decide +kernel
theorem dX12_counted_172 : decode cX12_counted 172 = .ok (.iload_n 1, 1) := by decide +kernel
theorem dX12_counted_173 : decode cX12_counted 173 = .ok (.iconst 4, 1) := by decide +kernel
theorem dX12_counted_174 : decode cX12_counted 174 = .ok (.if_icmp .ne 25, 3) := by decide +kernel
theorem dX12_counted_177 : decode cX12_counted 177 = .ok (.aload_n 0, 1) := by decide +kernel
theorem dX12_counted_178 : decode cX12_counted 178 = .ok (.getfield 57, 3) := by decide +kernel
theorem dX12_counted_181 : decode cX12_counted 181 = .ok (.iconst 0, 1) := by decide +kernel
theorem dX12_counted_182 : decode cX12_counted 182 = .ok (.baload, 1) := by decide +kernel
theorem dX12_counted_183 : decode cX12_counted 183 = .ok (.ifCond .eq 12, 3) := by decide +kernel
theorem dX12_counted_186 : decode cX12_counted 186 = .ok (.aload_n 0, 1) := by decide +kernel
theorem dX12_counted_187 : decode cX12_counted 187 = .ok (.bipush 30, 2) := by decide +kernel
theorem dX12_counted_189 : decode cX12_counted 189 = .ok (.invokevirtual 183, 3) := by decide +kernel
theorem dX12_counted_192 : decode cX12_counted 192 = .ok (.goto 8, 3) := by decide +kernel
theorem dX12_counted_195 : decode cX12_counted 195 = .ok (.iconst 0, 1) := by decide +kernel
theorem dX12_counted_196 : decode cX12_counted 196 = .ok (.goto 4, 3) := by decide +kernel
theorem dX12_counted_199 : decode cX12_counted 199 = .ok (.iload_n 2, 1) := by decide +kernel
theorem dX12_counted_200 : decode cX12_counted 200 = .ok (.ireturn, 1) := by decide +kernel
theorem dX12_count_0 : decode cX12_count 0 = .ok (.iload_n 1, 1) := by decide +kernel
theorem dX12_count_1 : decode cX12_count 1 = .ok (.iconst 0, 1) := by decide +kernel
theorem dX12_count_2 : decode cX12_count 2 = .ok (.bipush 7, 2) := by decide +kernel
theorem dX12_count_4 : decode cX12_count 4 = .ok (.invokestatic 86, 3) := by decide +kernel
theorem dX12_count_7 : decode cX12_count 7 = .ok (.ifCond .eq 11, 3) := by decide +kernel
theorem dX12_count_10 : decode cX12_count 10 = .ok (.aload_n 0, 1) := by decide +kernel
theorem dX12_count_11 : decode cX12_count 11 = .ok (.iload_n 1, 1) := by decide +kernel
theorem dX12_count_12 : decode cX12_count 12 = .ok (.invokevirtual 356, 3) := by decide +kernel
theorem dX12_count_15 : decode cX12_count 15 = .ok (.goto 4, 3) := by decide +kernel
theorem dX12_count_18 : decode cX12_count 18 = .ok (.iconst (-1), 1) := by decide +kernel
theorem dX12_count_19 : decode cX12_count 19 = .ok (.ireturn, 1) := by decide +kernel
theorem dX12_mix_0 : decode cX12_mix 0 = .ok (.aload_n 0, 1) := by decide +kernel
theorem dX12_mix_1 : decode cX12_mix 1 = .ok (.ldc2_w 359, 3) := by decide +kernel
theorem dX12_mix_4 : decode cX12_mix 4 = .ok (.aload_n 0, 1) := by decide +kernel
theorem dX12_mix_5 : decode cX12_mix 5 = .ok (.getfield 361, 3) := by decide +kernel
theorem dX12_mix_8 : decode cX12_mix 8 = .ok (.lmul, 1) := by decide +kernel
theorem dX12_mix_9 : decode cX12_mix 9 = .ok (.lload_n 1, 1) := by decide +kernel
theorem dX12_mix_10 : decode cX12_mix 10 = .ok (.ladd, 1) := by decide +kernel
theorem dX12_mix_11 : decode cX12_mix 11 = .ok (.putfield 361, 3) := by decide +kernel
theorem dX12_mix_14 : decode cX12_mix 14 = .ok (.return_, 1) := by decide +kernel
theorem dX12_mixBooks_0 : decode cX12_mixBooks 0 = .ok (.iconst 0, 1) := by decide +kernel
theorem dX12_mixBooks_1 : decode cX12_mixBooks 1 = .ok (.istore_n 1, 1) := by decide +kernel
theorem dX12_mixBooks_2 : decode cX12_mixBooks 2 = .ok (.iload_n 1, 1) := by decide +kernel
theorem dX12_mixBooks_3 : decode cX12_mixBooks 3 = .ok (.iconst 4, 1) := by decide +kernel
theorem dX12_mixBooks_4 : decode cX12_mixBooks 4 = .ok (.if_icmp .ge 73, 3) := by decide +kernel
theorem dX12_mixBooks_7 : decode cX12_mixBooks 7 = .ok (.aload_n 0, 1) := by decide +kernel
theorem dX12_mixBooks_8 : decode cX12_mixBooks 8 = .ok (.getfield 29, 3) := by decide +kernel
theorem dX12_mixBooks_11 : decode cX12_mixBooks 11 = .ok (.iload_n 1, 1) := by decide +kernel
theorem dX12_mixBooks_12 : decode cX12_mixBooks 12 = .ok (.baload, 1) := by decide +kernel
theorem dX12_mixBooks_13 : decode cX12_mixBooks 13 = .ok (.ifCond .ne 10, 3) := by decide +kernel
theorem dX12_mixBooks_16 : decode cX12_mixBooks 16 = .ok (.aload_n 0, 1) := by decide +kernel
theorem dX12_mixBooks_17 : decode cX12_mixBooks 17 = .ok (.ldc2_w 364, 3) := by decide +kernel
theorem dX12_mixBooks_20 : decode cX12_mixBooks 20 = .ok (.invokevirtual 366, 3) := by decide +kernel
theorem dX12_mixBooks_23 : decode cX12_mixBooks 23 = .ok (.iconst 0, 1) := by decide +kernel
theorem dX12_mixBooks_24 : decode cX12_mixBooks 24 = .ok (.istore_n 2, 1) := by decide +kernel
theorem dX12_mixBooks_25 : decode cX12_mixBooks 25 = .ok (.iload_n 2, 1) := by decide +kernel
theorem dX12_mixBooks_26 : decode cX12_mixBooks 26 = .ok (.iconst 5, 1) := by decide +kernel
theorem dX12_mixBooks_27 : decode cX12_mixBooks 27 = .ok (.aload_n 0, 1) := by decide +kernel
theorem dX12_mixBooks_28 : decode cX12_mixBooks 28 = .ok (.getfield 33, 3) := by decide +kernel
theorem dX12_mixBooks_31 : decode cX12_mixBooks 31 = .ok (.bipush 21, 2) := by decide +kernel
theorem dX12_mixBooks_33 : decode cX12_mixBooks 33 = .ok (.iload_n 1, 1) := by decide +kernel
theorem dX12_mixBooks_34 : decode cX12_mixBooks 34 = .ok (.imul, 1) := by decide +kernel
theorem dX12_mixBooks_35 : decode cX12_mixBooks 35 = .ok (.iaload, 1) := by decide +kernel
theorem dX12_mixBooks_36 : decode cX12_mixBooks 36 = .ok (.iadd, 1) := by decide +kernel
theorem dX12_mixBooks_37 : decode cX12_mixBooks 37 = .ok (.if_icmp .ge 34, 3) := by decide +kernel
theorem dX12_mixBooks_40 : decode cX12_mixBooks 40 = .ok (.aload_n 0, 1) := by decide +kernel
theorem dX12_mixBooks_41 : decode cX12_mixBooks 41 = .ok (.getfield 29, 3) := by decide +kernel
theorem dX12_mixBooks_44 : decode cX12_mixBooks 44 = .ok (.iload_n 1, 1) := by decide +kernel
theorem dX12_mixBooks_45 : decode cX12_mixBooks 45 = .ok (.baload, 1) := by decide +kernel
theorem dX12_mixBooks_46 : decode cX12_mixBooks 46 = .ok (.ifCond .eq 25, 3) := by decide +kernel
theorem dX12_mixBooks_49 : decode cX12_mixBooks 49 = .ok (.aload_n 0, 1) := by decide +kernel
theorem dX12_mixBooks_50 : decode cX12_mixBooks 50 = .ok (.aload_n 0, 1) := by decide +kernel
theorem dX12_mixBooks_51 : decode cX12_mixBooks 51 = .ok (.getfield 33, 3) := by decide +kernel
theorem dX12_mixBooks_54 : decode cX12_mixBooks 54 = .ok (.bipush 21, 2) := by decide +kernel
theorem dX12_mixBooks_56 : decode cX12_mixBooks 56 = .ok (.iload_n 1, 1) := by decide +kernel
theorem dX12_mixBooks_57 : decode cX12_mixBooks 57 = .ok (.imul, 1) := by decide +kernel
theorem dX12_mixBooks_58 : decode cX12_mixBooks 58 = .ok (.iload_n 2, 1) := by decide +kernel
theorem dX12_mixBooks_59 : decode cX12_mixBooks 59 = .ok (.iadd, 1) := by decide +kernel
theorem dX12_mixBooks_60 : decode cX12_mixBooks 60 = .ok (.iaload, 1) := by decide +kernel
theorem dX12_mixBooks_61 : decode cX12_mixBooks 61 = .ok (.i2l, 1) := by decide +kernel
theorem dX12_mixBooks_62 : decode cX12_mixBooks 62 = .ok (.invokevirtual 366, 3) := by decide +kernel
theorem dX12_mixBooks_65 : decode cX12_mixBooks 65 = .ok (.iinc 2 1, 3) := by decide +kernel
theorem dX12_mixBooks_68 : decode cX12_mixBooks 68 = .ok (.goto (-43), 3) := by decide +kernel
theorem dX12_mixBooks_71 : decode cX12_mixBooks 71 = .ok (.iinc 1 1, 3) := by decide +kernel
theorem dX12_mixBooks_74 : decode cX12_mixBooks 74 = .ok (.goto (-72), 3) := by decide +kernel
theorem dX12_mixBooks_77 : decode cX12_mixBooks 77 = .ok (.iconst 0, 1) := by decide +kernel
theorem dX12_mixBooks_78 : decode cX12_mixBooks 78 = .ok (.istore_n 1, 1) := by decide +kernel
theorem dX12_mixBooks_79 : decode cX12_mixBooks 79 = .ok (.iload_n 1, 1) := by decide +kernel
theorem dX12_mixBooks_80 : decode cX12_mixBooks 80 = .ok (.iconst 4, 1) := by decide +kernel
theorem dX12_mixBooks_81 : decode cX12_mixBooks 81 = .ok (.if_icmp .ge 70, 3) := by decide +kernel
theorem dX12_mixBooks_84 : decode cX12_mixBooks 84 = .ok (.aload_n 0, 1) := by decide +kernel
theorem dX12_mixBooks_85 : decode cX12_mixBooks 85 = .ok (.getfield 36, 3) := by decide +kernel
theorem dX12_mixBooks_88 : decode cX12_mixBooks 88 = .ok (.iload_n 1, 1) := by decide +kernel
theorem dX12_mixBooks_89 : decode cX12_mixBooks 89 = .ok (.baload, 1) := by decide +kernel
theorem dX12_mixBooks_90 : decode cX12_mixBooks 90 = .ok (.ifCond .ne 10, 3) := by decide +kernel
theorem dX12_mixBooks_93 : decode cX12_mixBooks 93 = .ok (.aload_n 0, 1) := by decide +kernel
theorem dX12_mixBooks_94 : decode cX12_mixBooks 94 = .ok (.ldc2_w 364, 3) := by decide +kernel
theorem dX12_mixBooks_97 : decode cX12_mixBooks 97 = .ok (.invokevirtual 366, 3) := by decide +kernel
theorem dX12_mixBooks_100 : decode cX12_mixBooks 100 = .ok (.iconst 0, 1) := by decide +kernel
theorem dX12_mixBooks_101 : decode cX12_mixBooks 101 = .ok (.istore_n 2, 1) := by decide +kernel
theorem dX12_mixBooks_102 : decode cX12_mixBooks 102 = .ok (.iload_n 2, 1) := by decide +kernel
theorem dX12_mixBooks_103 : decode cX12_mixBooks 103 = .ok (.iconst 2, 1) := by decide +kernel
theorem dX12_mixBooks_104 : decode cX12_mixBooks 104 = .ok (.aload_n 0, 1) := by decide +kernel
theorem dX12_mixBooks_105 : decode cX12_mixBooks 105 = .ok (.getfield 39, 3) := by decide +kernel
theorem dX12_mixBooks_108 : decode cX12_mixBooks 108 = .ok (.iload_n 1, 1) := by decide +kernel
theorem dX12_mixBooks_109 : decode cX12_mixBooks 109 = .ok (.iaload, 1) := by decide +kernel
theorem dX12_mixBooks_110 : decode cX12_mixBooks 110 = .ok (.imul, 1) := by decide +kernel
theorem dX12_mixBooks_111 : decode cX12_mixBooks 111 = .ok (.if_icmp .ge 34, 3) := by decide +kernel
theorem dX12_mixBooks_114 : decode cX12_mixBooks 114 = .ok (.aload_n 0, 1) := by decide +kernel
theorem dX12_mixBooks_115 : decode cX12_mixBooks 115 = .ok (.getfield 36, 3) := by decide +kernel
theorem dX12_mixBooks_118 : decode cX12_mixBooks 118 = .ok (.iload_n 1, 1) := by decide +kernel
theorem dX12_mixBooks_119 : decode cX12_mixBooks 119 = .ok (.baload, 1) := by decide +kernel
theorem dX12_mixBooks_120 : decode cX12_mixBooks 120 = .ok (.ifCond .eq 25, 3) := by decide +kernel
theorem dX12_mixBooks_123 : decode cX12_mixBooks 123 = .ok (.aload_n 0, 1) := by decide +kernel
theorem dX12_mixBooks_124 : decode cX12_mixBooks 124 = .ok (.aload_n 0, 1) := by decide +kernel
theorem dX12_mixBooks_125 : decode cX12_mixBooks 125 = .ok (.getfield 42, 3) := by decide +kernel
theorem dX12_mixBooks_128 : decode cX12_mixBooks 128 = .ok (.bipush 8, 2) := by decide +kernel
theorem dX12_mixBooks_130 : decode cX12_mixBooks 130 = .ok (.iload_n 1, 1) := by decide +kernel
theorem dX12_mixBooks_131 : decode cX12_mixBooks 131 = .ok (.imul, 1) := by decide +kernel
theorem dX12_mixBooks_132 : decode cX12_mixBooks 132 = .ok (.iload_n 2, 1) := by decide +kernel
theorem dX12_mixBooks_133 : decode cX12_mixBooks 133 = .ok (.iadd, 1) := by decide +kernel
theorem dX12_mixBooks_134 : decode cX12_mixBooks 134 = .ok (.iaload, 1) := by decide +kernel
theorem dX12_mixBooks_135 : decode cX12_mixBooks 135 = .ok (.i2l, 1) := by decide +kernel
theorem dX12_mixBooks_136 : decode cX12_mixBooks 136 = .ok (.invokevirtual 366, 3) := by decide +kernel
theorem dX12_mixBooks_139 : decode cX12_mixBooks 139 = .ok (.iinc 2 1, 3) := by decide +kernel
theorem dX12_mixBooks_142 : decode cX12_mixBooks 142 = .ok (.goto (-40), 3) := by decide +kernel
theorem dX12_mixBooks_145 : decode cX12_mixBooks 145 = .ok (.iinc 1 1, 3) := by decide +kernel
theorem dX12_mixBooks_148 : decode cX12_mixBooks 148 = .ok (.goto (-69), 3) := by decide +kernel
theorem dX12_mixBooks_151 : decode cX12_mixBooks 151 = .ok (.iconst 0, 1) := by decide +kernel
theorem dX12_mixBooks_152 : decode cX12_mixBooks 152 = .ok (.istore_n 1, 1) := by decide +kernel
theorem dX12_mixBooks_153 : decode cX12_mixBooks 153 = .ok (.iload_n 1, 1) := by decide +kernel
theorem dX12_mixBooks_154 : decode cX12_mixBooks 154 = .ok (.iconst 3, 1) := by decide +kernel
theorem dX12_mixBooks_155 : decode cX12_mixBooks 155 = .ok (.if_icmp .ge 62, 3) := by decide +kernel
theorem dX12_mixBooks_158 : decode cX12_mixBooks 158 = .ok (.aload_n 0, 1) := by decide +kernel
theorem dX12_mixBooks_159 : decode cX12_mixBooks 159 = .ok (.getfield 51, 3) := by decide +kernel
theorem dX12_mixBooks_162 : decode cX12_mixBooks 162 = .ok (.iload_n 1, 1) := by decide +kernel
theorem dX12_mixBooks_163 : decode cX12_mixBooks 163 = .ok (.baload, 1) := by decide +kernel
theorem dX12_mixBooks_164 : decode cX12_mixBooks 164 = .ok (.ifCond .ne 10, 3) := by decide +kernel
theorem dX12_mixBooks_167 : decode cX12_mixBooks 167 = .ok (.aload_n 0, 1) := by decide +kernel
theorem dX12_mixBooks_168 : decode cX12_mixBooks 168 = .ok (.ldc2_w 364, 3) := by decide +kernel
theorem dX12_mixBooks_171 : decode cX12_mixBooks 171 = .ok (.invokevirtual 366, 3) := by decide +kernel
theorem dX12_mixBooks_174 : decode cX12_mixBooks 174 = .ok (.iconst 0, 1) := by decide +kernel
theorem dX12_mixBooks_175 : decode cX12_mixBooks 175 = .ok (.istore_n 2, 1) := by decide +kernel
theorem dX12_mixBooks_176 : decode cX12_mixBooks 176 = .ok (.iload_n 2, 1) := by decide +kernel
theorem dX12_mixBooks_177 : decode cX12_mixBooks 177 = .ok (.iconst 5, 1) := by decide +kernel
theorem dX12_mixBooks_178 : decode cX12_mixBooks 178 = .ok (.if_icmp .ge 33, 3) := by decide +kernel
theorem dX12_mixBooks_181 : decode cX12_mixBooks 181 = .ok (.aload_n 0, 1) := by decide +kernel
theorem dX12_mixBooks_182 : decode cX12_mixBooks 182 = .ok (.getfield 51, 3) := by decide +kernel
theorem dX12_mixBooks_185 : decode cX12_mixBooks 185 = .ok (.iload_n 1, 1) := by decide +kernel
theorem dX12_mixBooks_186 : decode cX12_mixBooks 186 = .ok (.baload, 1) := by decide +kernel
theorem dX12_mixBooks_187 : decode cX12_mixBooks 187 = .ok (.ifCond .eq 24, 3) := by decide +kernel
theorem dX12_mixBooks_190 : decode cX12_mixBooks 190 = .ok (.aload_n 0, 1) := by decide +kernel
theorem dX12_mixBooks_191 : decode cX12_mixBooks 191 = .ok (.aload_n 0, 1) := by decide +kernel
theorem dX12_mixBooks_192 : decode cX12_mixBooks 192 = .ok (.getfield 54, 3) := by decide +kernel
theorem dX12_mixBooks_195 : decode cX12_mixBooks 195 = .ok (.iconst 5, 1) := by decide +kernel
theorem dX12_mixBooks_196 : decode cX12_mixBooks 196 = .ok (.iload_n 1, 1) := by decide +kernel
theorem dX12_mixBooks_197 : decode cX12_mixBooks 197 = .ok (.imul, 1) := by decide +kernel
theorem dX12_mixBooks_198 : decode cX12_mixBooks 198 = .ok (.iload_n 2, 1) := by decide +kernel
theorem dX12_mixBooks_199 : decode cX12_mixBooks 199 = .ok (.iadd, 1) := by decide +kernel
theorem dX12_mixBooks_200 : decode cX12_mixBooks 200 = .ok (.iaload, 1) := by decide +kernel
theorem dX12_mixBooks_201 : decode cX12_mixBooks 201 = .ok (.i2l, 1) := by decide +kernel
theorem dX12_mixBooks_202 : decode cX12_mixBooks 202 = .ok (.invokevirtual 366, 3) := by decide +kernel
theorem dX12_mixBooks_205 : decode cX12_mixBooks 205 = .ok (.iinc 2 1, 3) := by decide +kernel
theorem dX12_mixBooks_208 : decode cX12_mixBooks 208 = .ok (.goto (-32), 3) := by decide +kernel
theorem dX12_mixBooks_211 : decode cX12_mixBooks 211 = .ok (.iinc 1 1, 3) := by decide +kernel
theorem dX12_mixBooks_214 : decode cX12_mixBooks 214 = .ok (.goto (-61), 3) := by decide +kernel
theorem dX12_mixBooks_217 : decode cX12_mixBooks 217 = .ok (.iconst 0, 1) := by decide +kernel
theorem dX12_mixBooks_218 : decode cX12_mixBooks 218 = .ok (.istore_n 1, 1) := by decide +kernel
theorem dX12_mixBooks_219 : decode cX12_mixBooks 219 = .ok (.iload_n 1, 1) := by decide +kernel
theorem dX12_mixBooks_220 : decode cX12_mixBooks 220 = .ok (.iconst 4, 1) := by decide +kernel
theorem dX12_mixBooks_221 : decode cX12_mixBooks 221 = .ok (.aload_n 0, 1) := by decide +kernel
theorem dX12_mixBooks_222 : decode cX12_mixBooks 222 = .ok (.getfield 337, 3) := by decide +kernel
theorem dX12_mixBooks_225 : decode cX12_mixBooks 225 = .ok (.imul, 1) := by decide +kernel
theorem dX12_mixBooks_226 : decode cX12_mixBooks 226 = .ok (.if_icmp .ge 20, 3) := by decide +kernel
theorem dX12_mixBooks_229 : decode cX12_mixBooks 229 = .ok (.aload_n 0, 1) := by decide +kernel
theorem dX12_mixBooks_230 : decode cX12_mixBooks 230 = .ok (.aload_n 0, 1) := by decide +kernel
theorem dX12_mixBooks_231 : decode cX12_mixBooks 231 = .ok (.getfield 75, 3) := by decide +kernel
theorem dX12_mixBooks_234 : decode cX12_mixBooks 234 = .ok (.iload_n 1, 1) := by decide +kernel
theorem dX12_mixBooks_235 : decode cX12_mixBooks 235 = .ok (.iaload, 1) := by decide +kernel
theorem dX12_mixBooks_236 : decode cX12_mixBooks 236 = .ok (.i2l, 1) := by decide +kernel
theorem dX12_mixBooks_237 : decode cX12_mixBooks 237 = .ok (.invokevirtual 366, 3) := by decide +kernel
theorem dX12_mixBooks_240 : decode cX12_mixBooks 240 = .ok (.iinc 1 1, 3) := by decide +kernel
theorem dX12_mixBooks_243 : decode cX12_mixBooks 243 = .ok (.goto (-24), 3) := by decide +kernel
theorem dX12_mixBooks_246 : decode cX12_mixBooks 246 = .ok (.return_, 1) := by decide +kernel
theorem dX12_mixNight_0 : decode cX12_mixNight 0 = .ok (.aload_n 0, 1) := by decide +kernel
theorem dX12_mixNight_1 : decode cX12_mixNight 1 = .ok (.iconst 0, 1) := by decide +kernel
theorem dX12_mixNight_2 : decode cX12_mixNight 2 = .ok (.invokevirtual 167, 3) := by decide +kernel
theorem dX12_mixNight_5 : decode cX12_mixNight 5 = .ok (.aload_n 0, 1) := by decide +kernel
theorem dX12_mixNight_6 : decode cX12_mixNight 6 = .ok (.getfield 57, 3) := by decide +kernel
theorem dX12_mixNight_9 : decode cX12_mixNight 9 = .ok (.iconst 0, 1) := by decide +kernel
theorem dX12_mixNight_10 : decode cX12_mixNight 10 = .ok (.baload, 1) := by decide +kernel
theorem dX12_mixNight_11 : decode cX12_mixNight 11 = .ok (.ifCond .ne 11, 3) := by decide +kernel
theorem dX12_mixNight_14 : decode cX12_mixNight 14 = .ok (.aload_n 0, 1) := by decide +kernel
theorem dX12_mixNight_15 : decode cX12_mixNight 15 = .ok (.ldc2_w 364, 3) := by decide +kernel
theorem dX12_mixNight_18 : decode cX12_mixNight 18 = .ok (.invokevirtual 366, 3) := by decide +kernel
theorem dX12_mixNight_21 : decode cX12_mixNight 21 = .ok (.return_, 1) := by decide +kernel
theorem dX12_mixNight_22 : decode cX12_mixNight 22 = .ok (.iconst 0, 1) := by decide +kernel
theorem dX12_mixNight_23 : decode cX12_mixNight 23 = .ok (.istore_n 1, 1) := by decide +kernel
theorem dX12_mixNight_24 : decode cX12_mixNight 24 = .ok (.iload_n 1, 1) := by decide +kernel
theorem dX12_mixNight_25 : decode cX12_mixNight 25 = .ok (.aload_n 0, 1) := by decide +kernel
theorem dX12_mixNight_26 : decode cX12_mixNight 26 = .ok (.iconst 0, 1) := by decide +kernel
theorem dX12_mixNight_27 : decode cX12_mixNight 27 = .ok (.invokevirtual 183, 3) := by decide +kernel
theorem dX12_mixNight_30 : decode cX12_mixNight 30 = .ok (.if_icmp .ge 32, 3) := by decide +kernel
theorem dX12_mixNight_33 : decode cX12_mixNight 33 = .ok (.aload_n 0, 1) := by decide +kernel
theorem dX12_mixNight_34 : decode cX12_mixNight 34 = .ok (.aload_n 0, 1) := by decide +kernel
theorem dX12_mixNight_35 : decode cX12_mixNight 35 = .ok (.bipush 31, 2) := by decide +kernel
theorem dX12_mixNight_37 : decode cX12_mixNight 37 = .ok (.iload_n 1, 1) := by decide +kernel
theorem dX12_mixNight_38 : decode cX12_mixNight 38 = .ok (.iadd, 1) := by decide +kernel
theorem dX12_mixNight_39 : decode cX12_mixNight 39 = .ok (.invokevirtual 183, 3) := by decide +kernel
theorem dX12_mixNight_42 : decode cX12_mixNight 42 = .ok (.i2l, 1) := by decide +kernel
theorem dX12_mixNight_43 : decode cX12_mixNight 43 = .ok (.invokevirtual 366, 3) := by decide +kernel
theorem dX12_mixNight_46 : decode cX12_mixNight 46 = .ok (.aload_n 0, 1) := by decide +kernel
theorem dX12_mixNight_47 : decode cX12_mixNight 47 = .ok (.aload_n 0, 1) := by decide +kernel
theorem dX12_mixNight_48 : decode cX12_mixNight 48 = .ok (.iload_n 1, 1) := by decide +kernel
theorem dX12_mixNight_49 : decode cX12_mixNight 49 = .ok (.invokevirtual 195, 3) := by decide +kernel
theorem dX12_mixNight_52 : decode cX12_mixNight 52 = .ok (.i2l, 1) := by decide +kernel
theorem dX12_mixNight_53 : decode cX12_mixNight 53 = .ok (.invokevirtual 366, 3) := by decide +kernel
theorem dX12_mixNight_56 : decode cX12_mixNight 56 = .ok (.iinc 1 1, 3) := by decide +kernel
theorem dX12_mixNight_59 : decode cX12_mixNight 59 = .ok (.goto (-35), 3) := by decide +kernel
theorem dX12_mixNight_62 : decode cX12_mixNight 62 = .ok (.iconst 0, 1) := by decide +kernel
theorem dX12_mixNight_63 : decode cX12_mixNight 63 = .ok (.istore_n 1, 1) := by decide +kernel
theorem dX12_mixNight_64 : decode cX12_mixNight 64 = .ok (.iload_n 1, 1) := by decide +kernel
theorem dX12_mixNight_65 : decode cX12_mixNight 65 = .ok (.iconst 3, 1) := by decide +kernel
theorem dX12_mixNight_66 : decode cX12_mixNight 66 = .ok (.if_icmp .ge 45, 3) := by decide +kernel
theorem dX12_mixNight_69 : decode cX12_mixNight 69 = .ok (.iconst 0, 1) := by decide +kernel
theorem dX12_mixNight_70 : decode cX12_mixNight 70 = .ok (.istore_n 2, 1) := by decide +kernel
theorem dX12_mixNight_71 : decode cX12_mixNight 71 = .ok (.iload_n 2, 1) := by decide +kernel
theorem dX12_mixNight_72 : decode cX12_mixNight 72 = .ok (.iconst 4, 1) := by decide +kernel
theorem dX12_mixNight_73 : decode cX12_mixNight 73 = .ok (.if_icmp .ge 32, 3) := by decide +kernel
theorem dX12_mixNight_76 : decode cX12_mixNight 76 = .ok (.aload_n 0, 1) := by decide +kernel
theorem dX12_mixNight_77 : decode cX12_mixNight 77 = .ok (.iload_n 1, 1) := by decide +kernel
theorem dX12_mixNight_78 : decode cX12_mixNight 78 = .ok (.invokestatic 164, 3) := by decide +kernel
theorem dX12_mixNight_81 : decode cX12_mixNight 81 = .ok (.invokevirtual 183, 3) := by decide +kernel
theorem dX12_mixNight_84 : decode cX12_mixNight 84 = .ok (.iconst 1, 1) := by decide +kernel
theorem dX12_mixNight_85 : decode cX12_mixNight 85 = .ok (.if_icmp .ne 20, 3) := by decide +kernel
theorem dX12_mixNight_88 : decode cX12_mixNight 88 = .ok (.aload_n 0, 1) := by decide +kernel
theorem dX12_mixNight_89 : decode cX12_mixNight 89 = .ok (.aload_n 0, 1) := by decide +kernel
theorem dX12_mixNight_90 : decode cX12_mixNight 90 = .ok (.iload_n 1, 1) := by decide +kernel
theorem dX12_mixNight_91 : decode cX12_mixNight 91 = .ok (.iload_n 2, 1) := by decide +kernel
theorem dX12_mixNight_92 : decode cX12_mixNight 92 = .ok (.invokevirtual 226, 3) := by decide +kernel
theorem dX12_mixNight_95 : decode cX12_mixNight 95 = .ok (.i2l, 1) := by decide +kernel
theorem dX12_mixNight_96 : decode cX12_mixNight 96 = .ok (.invokevirtual 366, 3) := by decide +kernel
theorem dX12_mixNight_99 : decode cX12_mixNight 99 = .ok (.iinc 2 1, 3) := by decide +kernel
theorem dX12_mixNight_102 : decode cX12_mixNight 102 = .ok (.goto (-31), 3) := by decide +kernel
theorem dX12_mixNight_105 : decode cX12_mixNight 105 = .ok (.iinc 1 1, 3) := by decide +kernel
theorem dX12_mixNight_108 : decode cX12_mixNight 108 = .ok (.goto (-44), 3) := by decide +kernel
theorem dX12_mixNight_111 : decode cX12_mixNight 111 = .ok (.return_, 1) := by decide +kernel
theorem dX12_digest_0 : decode cX12_digest 0 = .ok (.aload_n 0, 1) := by decide +kernel
theorem dX12_digest_1 : decode cX12_digest 1 = .ok (.ldc2_w 370, 3) := by decide +kernel
theorem dX12_digest_4 : decode cX12_digest 4 = .ok (.putfield 361, 3) := by decide +kernel
theorem dX12_digest_7 : decode cX12_digest 7 = .ok (.iconst 0, 1) := by decide +kernel
theorem dX12_digest_8 : decode cX12_digest 8 = .ok (.istore_n 1, 1) := by decide +kernel
theorem dX12_digest_9 : decode cX12_digest 9 = .ok (.iload_n 1, 1) := by decide +kernel
theorem dX12_digest_10 : decode cX12_digest 10 = .ok (.bipush 8, 2) := by decide +kernel
theorem dX12_digest_12 : decode cX12_digest 12 = .ok (.if_icmp .ge 19, 3) := by decide +kernel
theorem dX12_digest_15 : decode cX12_digest 15 = .ok (.aload_n 0, 1) := by decide +kernel
theorem dX12_digest_16 : decode cX12_digest 16 = .ok (.aload_n 0, 1) := by decide +kernel
theorem dX12_digest_17 : decode cX12_digest 17 = .ok (.iload_n 1, 1) := by decide +kernel
theorem dX12_digest_18 : decode cX12_digest 18 = .ok (.invokevirtual 356, 3) := by decide +kernel
theorem dX12_digest_21 : decode cX12_digest 21 = .ok (.i2l, 1) := by decide +kernel
theorem dX12_digest_22 : decode cX12_digest 22 = .ok (.invokevirtual 366, 3) := by decide +kernel
theorem dX12_digest_25 : decode cX12_digest 25 = .ok (.iinc 1 1, 3) := by decide +kernel
theorem dX12_digest_28 : decode cX12_digest 28 = .ok (.goto (-19), 3) := by decide +kernel
theorem dX12_digest_31 : decode cX12_digest 31 = .ok (.aload_n 0, 1) := by decide +kernel
theorem dX12_digest_32 : decode cX12_digest 32 = .ok (.invokevirtual 372, 3) := by decide +kernel
theorem dX12_digest_35 : decode cX12_digest 35 = .ok (.aload_n 0, 1) := by decide +kernel
theorem dX12_digest_36 : decode cX12_digest 36 = .ok (.invokevirtual 375, 3) := by decide +kernel
theorem dX12_digest_39 : decode cX12_digest 39 = .ok (.iconst 0, 1) := by decide +kernel
theorem dX12_digest_40 : decode cX12_digest 40 = .ok (.istore_n 1, 1) := by decide +kernel
theorem dX12_digest_41 : decode cX12_digest 41 = .ok (.iload_n 1, 1) := by decide +kernel
theorem dX12_digest_42 : decode cX12_digest 42 = .ok (.bipush 6, 2) := by decide +kernel
theorem dX12_digest_44 : decode cX12_digest 44 = .ok (.if_icmp .ge 49, 3) := by decide +kernel
theorem dX12_digest_47 : decode cX12_digest 47 = .ok (.aload_n 0, 1) := by decide +kernel
theorem dX12_digest_48 : decode cX12_digest 48 = .ok (.aload_n 0, 1) := by decide +kernel
theorem dX12_digest_49 : decode cX12_digest 49 = .ok (.getfield 13, 3) := by decide +kernel
theorem dX12_digest_52 : decode cX12_digest 52 = .ok (.iload_n 1, 1) := by decide +kernel
theorem dX12_digest_53 : decode cX12_digest 53 = .ok (.iaload, 1) := by decide +kernel
theorem dX12_digest_54 : decode cX12_digest 54 = .ok (.i2l, 1) := by decide +kernel
theorem dX12_digest_55 : decode cX12_digest 55 = .ok (.invokevirtual 366, 3) := by decide +kernel
theorem dX12_digest_58 : decode cX12_digest 58 = .ok (.iconst 0, 1) := by decide +kernel
theorem dX12_digest_59 : decode cX12_digest 59 = .ok (.istore_n 2, 1) := by decide +kernel
theorem dX12_digest_60 : decode cX12_digest 60 = .ok (.iload_n 2, 1) := by decide +kernel
theorem dX12_digest_61 : decode cX12_digest 61 = .ok (.aload_n 0, 1) := by decide +kernel
theorem dX12_digest_62 : decode cX12_digest 62 = .ok (.getfield 13, 3) := by decide +kernel
theorem dX12_digest_65 : decode cX12_digest 65 = .ok (.iload_n 1, 1) := by decide +kernel
theorem dX12_digest_66 : decode cX12_digest 66 = .ok (.iaload, 1) := by decide +kernel
theorem dX12_digest_67 : decode cX12_digest 67 = .ok (.if_icmp .ge 20, 3) := by decide +kernel
theorem dX12_digest_70 : decode cX12_digest 70 = .ok (.aload_n 0, 1) := by decide +kernel
theorem dX12_digest_71 : decode cX12_digest 71 = .ok (.aload_n 0, 1) := by decide +kernel
theorem dX12_digest_72 : decode cX12_digest 72 = .ok (.iload_n 1, 1) := by decide +kernel
theorem dX12_digest_73 : decode cX12_digest 73 = .ok (.iload_n 2, 1) := by decide +kernel
theorem dX12_digest_74 : decode cX12_digest 74 = .ok (.invokevirtual 104, 3) := by decide +kernel
theorem dX12_digest_77 : decode cX12_digest 77 = .ok (.i2l, 1) := by decide +kernel
theorem dX12_digest_78 : decode cX12_digest 78 = .ok (.invokevirtual 366, 3) := by decide +kernel
theorem dX12_digest_81 : decode cX12_digest 81 = .ok (.iinc 2 1, 3) := by decide +kernel
theorem dX12_digest_84 : decode cX12_digest 84 = .ok (.goto (-24), 3) := by decide +kernel
theorem dX12_digest_87 : decode cX12_digest 87 = .ok (.iinc 1 1, 3) := by decide +kernel
theorem dX12_digest_90 : decode cX12_digest 90 = .ok (.goto (-49), 3) := by decide +kernel
theorem dX12_digest_93 : decode cX12_digest 93 = .ok (.iconst 0, 1) := by decide +kernel
theorem dX12_digest_94 : decode cX12_digest 94 = .ok (.istore_n 1, 1) := by decide +kernel
theorem dX12_digest_95 : decode cX12_digest 95 = .ok (.iload_n 1, 1) := by decide +kernel
theorem dX12_digest_96 : decode cX12_digest 96 = .ok (.iconst 4, 1) := by decide +kernel
theorem dX12_digest_97 : decode cX12_digest 97 = .ok (.if_icmp .ge 49, 3) := by decide +kernel
theorem dX12_digest_100 : decode cX12_digest 100 = .ok (.aload_n 0, 1) := by decide +kernel
theorem dX12_digest_101 : decode cX12_digest 101 = .ok (.aload_n 0, 1) := by decide +kernel
theorem dX12_digest_102 : decode cX12_digest 102 = .ok (.getfield 22, 3) := by decide +kernel
theorem dX12_digest_105 : decode cX12_digest 105 = .ok (.iload_n 1, 1) := by decide +kernel
theorem dX12_digest_106 : decode cX12_digest 106 = .ok (.iaload, 1) := by decide +kernel
theorem dX12_digest_107 : decode cX12_digest 107 = .ok (.i2l, 1) := by decide +kernel
theorem dX12_digest_108 : decode cX12_digest 108 = .ok (.invokevirtual 366, 3) := by decide +kernel
theorem dX12_digest_111 : decode cX12_digest 111 = .ok (.iconst 0, 1) := by decide +kernel
theorem dX12_digest_112 : decode cX12_digest 112 = .ok (.istore_n 2, 1) := by decide +kernel
theorem dX12_digest_113 : decode cX12_digest 113 = .ok (.iload_n 2, 1) := by decide +kernel
theorem dX12_digest_114 : decode cX12_digest 114 = .ok (.aload_n 0, 1) := by decide +kernel
theorem dX12_digest_115 : decode cX12_digest 115 = .ok (.getfield 22, 3) := by decide +kernel
theorem dX12_digest_118 : decode cX12_digest 118 = .ok (.iload_n 1, 1) := by decide +kernel
theorem dX12_digest_119 : decode cX12_digest 119 = .ok (.iaload, 1) := by decide +kernel
theorem dX12_digest_120 : decode cX12_digest 120 = .ok (.if_icmp .ge 20, 3) := by decide +kernel
theorem dX12_digest_123 : decode cX12_digest 123 = .ok (.aload_n 0, 1) := by decide +kernel
theorem dX12_digest_124 : decode cX12_digest 124 = .ok (.aload_n 0, 1) := by decide +kernel
theorem dX12_digest_125 : decode cX12_digest 125 = .ok (.iload_n 1, 1) := by decide +kernel
theorem dX12_digest_126 : decode cX12_digest 126 = .ok (.iload_n 2, 1) := by decide +kernel
theorem dX12_digest_127 : decode cX12_digest 127 = .ok (.invokevirtual 117, 3) := by decide +kernel
theorem dX12_digest_130 : decode cX12_digest 130 = .ok (.i2l, 1) := by decide +kernel
theorem dX12_digest_131 : decode cX12_digest 131 = .ok (.invokevirtual 366, 3) := by decide +kernel
theorem dX12_digest_134 : decode cX12_digest 134 = .ok (.iinc 2 1, 3) := by decide +kernel
theorem dX12_digest_137 : decode cX12_digest 137 = .ok (.goto (-24), 3) := by decide +kernel
theorem dX12_digest_140 : decode cX12_digest 140 = .ok (.iinc 1 1, 3) := by decide +kernel
theorem dX12_digest_143 : decode cX12_digest 143 = .ok (.goto (-48), 3) := by decide +kernel
theorem dX12_digest_146 : decode cX12_digest 146 = .ok (.aload_n 0, 1) := by decide +kernel
theorem dX12_digest_147 : decode cX12_digest 147 = .ok (.getfield 361, 3) := by decide +kernel
theorem dX12_digest_150 : decode cX12_digest 150 = .ok (.lreturn, 1) := by decide +kernel
theorem dJ9_abs_0f7a4_0 : decode cJ9_abs_0f7a4 0 = .ok (.iload_n 0, 1) := by decide +kernel
theorem dJ9_abs_0f7a4_1 : decode cJ9_abs_0f7a4 1 = .ok (.ifCond .ge 8, 3) := by decide +kernel
theorem dJ9_abs_0f7a4_4 : decode cJ9_abs_0f7a4 4 = .ok (.iload_n 0, 1) := by decide +kernel
theorem dJ9_abs_0f7a4_5 : decode cJ9_abs_0f7a4 5 = .ok (.ineg, 1) := by decide +kernel
theorem dJ9_abs_0f7a4_6 : decode cJ9_abs_0f7a4 6 = .ok (.goto 4, 3) := by decide +kernel
theorem dJ9_abs_0f7a4_9 : decode cJ9_abs_0f7a4 9 = .ok (.iload_n 0, 1) := by decide +kernel
theorem dJ9_abs_0f7a4_10 : decode cJ9_abs_0f7a4 10 = .ok (.ireturn, 1) := by decide +kernel
theorem dJ9_max_7cf53_0 : decode cJ9_max_7cf53 0 = .ok (.iload_n 0, 1) := by decide +kernel
theorem dJ9_max_7cf53_1 : decode cJ9_max_7cf53 1 = .ok (.iload_n 1, 1) := by decide +kernel
theorem dJ9_max_7cf53_2 : decode cJ9_max_7cf53 2 = .ok (.if_icmp .lt 7, 3) := by decide +kernel
theorem dJ9_max_7cf53_5 : decode cJ9_max_7cf53 5 = .ok (.iload_n 0, 1) := by decide +kernel
theorem dJ9_max_7cf53_6 : decode cJ9_max_7cf53 6 = .ok (.goto 4, 3) := by decide +kernel
theorem dJ9_max_7cf53_9 : decode cJ9_max_7cf53 9 = .ok (.iload_n 1, 1) := by decide +kernel
theorem dJ9_max_7cf53_10 : decode cJ9_max_7cf53 10 = .ok (.ireturn, 1) := by decide +kernel
theorem dJ9_min_7cf53_0 : decode cJ9_min_7cf53 0 = .ok (.iload_n 0, 1) := by decide +kernel
theorem dJ9_min_7cf53_1 : decode cJ9_min_7cf53 1 = .ok (.iload_n 1, 1) := by decide +kernel
theorem dJ9_min_7cf53_2 : decode cJ9_min_7cf53 2 = .ok (.if_icmp .gt 7, 3) := by decide +kernel
theorem dJ9_min_7cf53_5 : decode cJ9_min_7cf53 5 = .ok (.iload_n 0, 1) := by decide +kernel
theorem dJ9_min_7cf53_6 : decode cJ9_min_7cf53 6 = .ok (.goto 4, 3) := by decide +kernel
theorem dJ9_min_7cf53_9 : decode cJ9_min_7cf53 9 = .ok (.iload_n 1, 1) := by decide +kernel
theorem dJ9_min_7cf53_10 : decode cJ9_min_7cf53 10 = .ok (.ireturn, 1) := by decide +kernel
theorem dL_law_0 : decode cL_law 0 = .ok (.new 7, 3) := by decide +kernel
theorem dL_law_3 : decode cL_law 3 = .ok (.dup, 1) := by decide +kernel
theorem dL_law_4 : decode cL_law 4 = .ok (.invokespecial 9, 3) := by decide +kernel
theorem dL_law_7 : decode cL_law 7 = .ok (.astore_n 1, 1) := by decide +kernel
theorem dL_law_8 : decode cL_law 8 = .ok (.new 10, 3) := by decide +kernel
theorem dL_law_11 : decode cL_law 11 = .ok (.dup, 1) := by decide +kernel
theorem dL_law_12 : decode cL_law 12 = .ok (.invokespecial 12, 3) := by decide +kernel
theorem dL_law_15 : decode cL_law 15 = .ok (.astore_n 2, 1) := by decide +kernel
theorem dL_law_16 : decode cL_law 16 = .ok (.iconst 0, 1) := by decide +kernel
theorem dL_law_17 : decode cL_law 17 = .ok (.istore_n 3, 1) := by decide +kernel
theorem dL_law_18 : decode cL_law 18 = .ok (.iload_n 3, 1) := by decide +kernel
theorem dL_law_19 : decode cL_law 19 = .ok (.aload_n 0, 1) := by decide +kernel
theorem dL_law_20 : decode cL_law 20 = .ok (.arraylength, 1) := by decide +kernel
theorem dL_law_21 : decode cL_law 21 = .ok (.bipush 7, 2) := by decide +kernel
theorem dL_law_23 : decode cL_law 23 = .ok (.isub, 1) := by decide +kernel
theorem dL_law_24 : decode cL_law 24 = .ok (.if_icmp .gt 1958, 3) := by decide +kernel
theorem dL_law_27 : decode cL_law 27 = .ok (.aload_n 0, 1) := by decide +kernel
theorem dL_law_28 : decode cL_law 28 = .ok (.iload_n 3, 1) := by decide +kernel
theorem dL_law_29 : decode cL_law 29 = .ok (.iaload, 1) := by decide +kernel
theorem dL_law_30 : decode cL_law 30 = .ok (.bipush 63, 2) := by decide +kernel
theorem dL_law_32 : decode cL_law 32 = .ok (.iand, 1) := by decide +kernel
theorem dL_law_33 : decode cL_law 33 = .ok (.tableswitch 1943 0 50 #[219, 252, 295, 328, 351, 414, 437, 470, 513, 562, 595, 628, 661, 694, 769, 792, 825, 848, 881, 914, 957, 980, 1003, 1016, 1039, 1062, 1095, 1118, 1171, 1234, 1267, 1300, 1323, 1366, 1409, 1452, 1495, 1528, 1581, 1604, 1647, 1680, 1723, 1786, 1829, 1842, 1856, 1870, 1893, 1906, 1929], 219) := by decide +kernel
theorem dL_law_252 : decode cL_law 252 = .ok (.aload_n 1, 1) := by decide +kernel
theorem dL_law_253 : decode cL_law 253 = .ok (.aload_n 0, 1) := by decide +kernel
theorem dL_law_254 : decode cL_law 254 = .ok (.iload_n 3, 1) := by decide +kernel
theorem dL_law_255 : decode cL_law 255 = .ok (.iconst 1, 1) := by decide +kernel
theorem dL_law_256 : decode cL_law 256 = .ok (.iadd, 1) := by decide +kernel
theorem dL_law_257 : decode cL_law 257 = .ok (.iaload, 1) := by decide +kernel
theorem dL_law_258 : decode cL_law 258 = .ok (.aload_n 0, 1) := by decide +kernel
theorem dL_law_259 : decode cL_law 259 = .ok (.iload_n 3, 1) := by decide +kernel
theorem dL_law_260 : decode cL_law 260 = .ok (.iconst 2, 1) := by decide +kernel
theorem dL_law_261 : decode cL_law 261 = .ok (.iadd, 1) := by decide +kernel
theorem dL_law_262 : decode cL_law 262 = .ok (.iaload, 1) := by decide +kernel
theorem dL_law_263 : decode cL_law 263 = .ok (.invokevirtual 13, 3) := by decide +kernel
theorem dL_law_266 : decode cL_law 266 = .ok (.aload_n 2, 1) := by decide +kernel
theorem dL_law_267 : decode cL_law 267 = .ok (.aload_n 0, 1) := by decide +kernel
theorem dL_law_268 : decode cL_law 268 = .ok (.iload_n 3, 1) := by decide +kernel
theorem dL_law_269 : decode cL_law 269 = .ok (.iconst 1, 1) := by decide +kernel
theorem dL_law_270 : decode cL_law 270 = .ok (.iadd, 1) := by decide +kernel
theorem dL_law_271 : decode cL_law 271 = .ok (.iaload, 1) := by decide +kernel
theorem dL_law_272 : decode cL_law 272 = .ok (.aload_n 0, 1) := by decide +kernel
theorem dL_law_273 : decode cL_law 273 = .ok (.iload_n 3, 1) := by decide +kernel
theorem dL_law_274 : decode cL_law 274 = .ok (.iconst 2, 1) := by decide +kernel
theorem dL_law_275 : decode cL_law 275 = .ok (.iadd, 1) := by decide +kernel
theorem dL_law_276 : decode cL_law 276 = .ok (.iaload, 1) := by decide +kernel
theorem dL_law_277 : decode cL_law 277 = .ok (.invokevirtual 17, 3) := by decide +kernel
theorem dL_law_280 : decode cL_law 280 = .ok (.if_icmp .eq 1696, 3) := by decide +kernel
theorem dL_law_283 : decode cL_law 283 = .ok (.iconst 0, 1) := by decide +kernel
theorem dL_law_284 : decode cL_law 284 = .ok (.ireturn, 1) := by decide +kernel
theorem dL_law_285 : decode cL_law 285 = .ok (.aload_n 1, 1) := by decide +kernel
theorem dL_law_286 : decode cL_law 286 = .ok (.aload_n 0, 1) := by decide +kernel
theorem dL_law_287 : decode cL_law 287 = .ok (.iload_n 3, 1) := by decide +kernel
theorem dL_law_288 : decode cL_law 288 = .ok (.iconst 1, 1) := by decide +kernel
theorem dL_law_289 : decode cL_law 289 = .ok (.iadd, 1) := by decide +kernel
theorem dL_law_290 : decode cL_law 290 = .ok (.iaload, 1) := by decide +kernel
theorem dL_law_291 : decode cL_law 291 = .ok (.aload_n 0, 1) := by decide +kernel
theorem dL_law_292 : decode cL_law 292 = .ok (.iload_n 3, 1) := by decide +kernel
theorem dL_law_293 : decode cL_law 293 = .ok (.iconst 2, 1) := by decide +kernel
theorem dL_law_294 : decode cL_law 294 = .ok (.iadd, 1) := by decide +kernel
theorem dL_law_295 : decode cL_law 295 = .ok (.iaload, 1) := by decide +kernel
theorem dL_law_296 : decode cL_law 296 = .ok (.aload_n 0, 1) := by decide +kernel
theorem dL_law_297 : decode cL_law 297 = .ok (.iload_n 3, 1) := by decide +kernel
theorem dL_law_298 : decode cL_law 298 = .ok (.iconst 3, 1) := by decide +kernel
theorem dL_law_299 : decode cL_law 299 = .ok (.iadd, 1) := by decide +kernel
theorem dL_law_300 : decode cL_law 300 = .ok (.iaload, 1) := by decide +kernel
theorem dL_law_301 : decode cL_law 301 = .ok (.invokevirtual 18, 3) := by decide +kernel
theorem dL_law_304 : decode cL_law 304 = .ok (.aload_n 2, 1) := by decide +kernel
theorem dL_law_305 : decode cL_law 305 = .ok (.aload_n 0, 1) := by decide +kernel
theorem dL_law_306 : decode cL_law 306 = .ok (.iload_n 3, 1) := by decide +kernel
theorem dL_law_307 : decode cL_law 307 = .ok (.iconst 1, 1) := by decide +kernel
theorem dL_law_308 : decode cL_law 308 = .ok (.iadd, 1) := by decide +kernel
theorem dL_law_309 : decode cL_law 309 = .ok (.iaload, 1) := by decide +kernel
theorem dL_law_310 : decode cL_law 310 = .ok (.aload_n 0, 1) := by decide +kernel
theorem dL_law_311 : decode cL_law 311 = .ok (.iload_n 3, 1) := by decide +kernel
theorem dL_law_312 : decode cL_law 312 = .ok (.iconst 2, 1) := by decide +kernel
theorem dL_law_313 : decode cL_law 313 = .ok (.iadd, 1) := by decide +kernel
theorem dL_law_314 : decode cL_law 314 = .ok (.iaload, 1) := by decide +kernel
theorem dL_law_315 : decode cL_law 315 = .ok (.aload_n 0, 1) := by decide +kernel
theorem dL_law_316 : decode cL_law 316 = .ok (.iload_n 3, 1) := by decide +kernel
theorem dL_law_317 : decode cL_law 317 = .ok (.iconst 3, 1) := by decide +kernel
theorem dL_law_318 : decode cL_law 318 = .ok (.iadd, 1) := by decide +kernel
theorem dL_law_319 : decode cL_law 319 = .ok (.iaload, 1) := by decide +kernel
theorem dL_law_320 : decode cL_law 320 = .ok (.invokevirtual 22, 3) := by decide +kernel
theorem dL_law_323 : decode cL_law 323 = .ok (.if_icmp .eq 1653, 3) := by decide +kernel
theorem dL_law_326 : decode cL_law 326 = .ok (.iconst 0, 1) := by decide +kernel
theorem dL_law_327 : decode cL_law 327 = .ok (.ireturn, 1) := by decide +kernel
theorem dL_law_328 : decode cL_law 328 = .ok (.aload_n 1, 1) := by decide +kernel
theorem dL_law_329 : decode cL_law 329 = .ok (.aload_n 0, 1) := by decide +kernel
theorem dL_law_330 : decode cL_law 330 = .ok (.iload_n 3, 1) := by decide +kernel
theorem dL_law_331 : decode cL_law 331 = .ok (.iconst 1, 1) := by decide +kernel
theorem dL_law_332 : decode cL_law 332 = .ok (.iadd, 1) := by decide +kernel
theorem dL_law_333 : decode cL_law 333 = .ok (.iaload, 1) := by decide +kernel
theorem dL_law_334 : decode cL_law 334 = .ok (.aload_n 0, 1) := by decide +kernel
theorem dL_law_335 : decode cL_law 335 = .ok (.iload_n 3, 1) := by decide +kernel
theorem dL_law_336 : decode cL_law 336 = .ok (.iconst 2, 1) := by decide +kernel
theorem dL_law_337 : decode cL_law 337 = .ok (.iadd, 1) := by decide +kernel
theorem dL_law_338 : decode cL_law 338 = .ok (.iaload, 1) := by decide +kernel
theorem dL_law_339 : decode cL_law 339 = .ok (.invokevirtual 23, 3) := by decide +kernel
theorem dL_law_342 : decode cL_law 342 = .ok (.aload_n 2, 1) := by decide +kernel
theorem dL_law_343 : decode cL_law 343 = .ok (.aload_n 0, 1) := by decide +kernel
theorem dL_law_344 : decode cL_law 344 = .ok (.iload_n 3, 1) := by decide +kernel
theorem dL_law_345 : decode cL_law 345 = .ok (.iconst 1, 1) := by decide +kernel
theorem dL_law_346 : decode cL_law 346 = .ok (.iadd, 1) := by decide +kernel
theorem dL_law_347 : decode cL_law 347 = .ok (.iaload, 1) := by decide +kernel
theorem dL_law_348 : decode cL_law 348 = .ok (.aload_n 0, 1) := by decide +kernel
theorem dL_law_349 : decode cL_law 349 = .ok (.iload_n 3, 1) := by decide +kernel
theorem dL_law_350 : decode cL_law 350 = .ok (.iconst 2, 1) := by decide +kernel
theorem dL_law_351 : decode cL_law 351 = .ok (.iadd, 1) := by decide +kernel
theorem dL_law_352 : decode cL_law 352 = .ok (.iaload, 1) := by decide +kernel
theorem dL_law_353 : decode cL_law 353 = .ok (.invokevirtual 26, 3) := by decide +kernel
theorem dL_law_356 : decode cL_law 356 = .ok (.if_icmp .eq 1620, 3) := by decide +kernel
theorem dL_law_359 : decode cL_law 359 = .ok (.iconst 0, 1) := by decide +kernel
theorem dL_law_360 : decode cL_law 360 = .ok (.ireturn, 1) := by decide +kernel
theorem dL_law_361 : decode cL_law 361 = .ok (.aload_n 1, 1) := by decide +kernel
theorem dL_law_362 : decode cL_law 362 = .ok (.aload_n 0, 1) := by decide +kernel
theorem dL_law_363 : decode cL_law 363 = .ok (.iload_n 3, 1) := by decide +kernel
theorem dL_law_364 : decode cL_law 364 = .ok (.iconst 1, 1) := by decide +kernel
theorem dL_law_365 : decode cL_law 365 = .ok (.iadd, 1) := by decide +kernel
theorem dL_law_366 : decode cL_law 366 = .ok (.iaload, 1) := by decide +kernel
theorem dL_law_367 : decode cL_law 367 = .ok (.invokevirtual 27, 3) := by decide +kernel
theorem dL_law_370 : decode cL_law 370 = .ok (.aload_n 2, 1) := by decide +kernel
theorem dL_law_371 : decode cL_law 371 = .ok (.aload_n 0, 1) := by decide +kernel
theorem dL_law_372 : decode cL_law 372 = .ok (.iload_n 3, 1) := by decide +kernel
theorem dL_law_373 : decode cL_law 373 = .ok (.iconst 1, 1) := by decide +kernel
theorem dL_law_374 : decode cL_law 374 = .ok (.iadd, 1) := by decide +kernel
theorem dL_law_375 : decode cL_law 375 = .ok (.iaload, 1) := by decide +kernel
theorem dL_law_376 : decode cL_law 376 = .ok (.invokevirtual 31, 3) := by decide +kernel
theorem dL_law_379 : decode cL_law 379 = .ok (.if_icmp .eq 1597, 3) := by decide +kernel
theorem dL_law_382 : decode cL_law 382 = .ok (.iconst 0, 1) := by decide +kernel
theorem dL_law_383 : decode cL_law 383 = .ok (.ireturn, 1) := by decide +kernel
theorem dL_law_384 : decode cL_law 384 = .ok (.aload_n 1, 1) := by decide +kernel
theorem dL_law_385 : decode cL_law 385 = .ok (.aload_n 0, 1) := by decide +kernel
theorem dL_law_386 : decode cL_law 386 = .ok (.iload_n 3, 1) := by decide +kernel
theorem dL_law_387 : decode cL_law 387 = .ok (.iconst 1, 1) := by decide +kernel
theorem dL_law_388 : decode cL_law 388 = .ok (.iadd, 1) := by decide +kernel
theorem dL_law_389 : decode cL_law 389 = .ok (.iaload, 1) := by decide +kernel
theorem dL_law_390 : decode cL_law 390 = .ok (.aload_n 0, 1) := by decide +kernel
theorem dL_law_391 : decode cL_law 391 = .ok (.iload_n 3, 1) := by decide +kernel
theorem dL_law_392 : decode cL_law 392 = .ok (.iconst 2, 1) := by decide +kernel
theorem dL_law_393 : decode cL_law 393 = .ok (.iadd, 1) := by decide +kernel
theorem dL_law_394 : decode cL_law 394 = .ok (.iaload, 1) := by decide +kernel
theorem dL_law_395 : decode cL_law 395 = .ok (.aload_n 0, 1) := by decide +kernel
theorem dL_law_396 : decode cL_law 396 = .ok (.iload_n 3, 1) := by decide +kernel
theorem dL_law_397 : decode cL_law 397 = .ok (.iconst 3, 1) := by decide +kernel
theorem dL_law_398 : decode cL_law 398 = .ok (.iadd, 1) := by decide +kernel
theorem dL_law_399 : decode cL_law 399 = .ok (.iaload, 1) := by decide +kernel
theorem dL_law_400 : decode cL_law 400 = .ok (.aload_n 0, 1) := by decide +kernel
theorem dL_law_401 : decode cL_law 401 = .ok (.iload_n 3, 1) := by decide +kernel
theorem dL_law_402 : decode cL_law 402 = .ok (.iconst 4, 1) := by decide +kernel
theorem dL_law_403 : decode cL_law 403 = .ok (.iadd, 1) := by decide +kernel
theorem dL_law_404 : decode cL_law 404 = .ok (.iaload, 1) := by decide +kernel
theorem dL_law_405 : decode cL_law 405 = .ok (.aload_n 0, 1) := by decide +kernel
theorem dL_law_406 : decode cL_law 406 = .ok (.iload_n 3, 1) := by decide +kernel
theorem dL_law_407 : decode cL_law 407 = .ok (.iconst 5, 1) := by decide +kernel
theorem dL_law_408 : decode cL_law 408 = .ok (.iadd, 1) := by decide +kernel
theorem dL_law_409 : decode cL_law 409 = .ok (.iaload, 1) := by decide +kernel
theorem dL_law_410 : decode cL_law 410 = .ok (.invokevirtual 32, 3) := by decide +kernel
theorem dL_law_413 : decode cL_law 413 = .ok (.aload_n 2, 1) := by decide +kernel
theorem dL_law_414 : decode cL_law 414 = .ok (.aload_n 0, 1) := by decide +kernel
theorem dL_law_415 : decode cL_law 415 = .ok (.iload_n 3, 1) := by decide +kernel
theorem dL_law_416 : decode cL_law 416 = .ok (.iconst 1, 1) := by decide +kernel
theorem dL_law_417 : decode cL_law 417 = .ok (.iadd, 1) := by decide +kernel
theorem dL_law_418 : decode cL_law 418 = .ok (.iaload, 1) := by decide +kernel
theorem dL_law_419 : decode cL_law 419 = .ok (.aload_n 0, 1) := by decide +kernel
theorem dL_law_420 : decode cL_law 420 = .ok (.iload_n 3, 1) := by decide +kernel
theorem dL_law_421 : decode cL_law 421 = .ok (.iconst 2, 1) := by decide +kernel
theorem dL_law_422 : decode cL_law 422 = .ok (.iadd, 1) := by decide +kernel
theorem dL_law_423 : decode cL_law 423 = .ok (.iaload, 1) := by decide +kernel
theorem dL_law_424 : decode cL_law 424 = .ok (.aload_n 0, 1) := by decide +kernel
theorem dL_law_425 : decode cL_law 425 = .ok (.iload_n 3, 1) := by decide +kernel
theorem dL_law_426 : decode cL_law 426 = .ok (.iconst 3, 1) := by decide +kernel
theorem dL_law_427 : decode cL_law 427 = .ok (.iadd, 1) := by decide +kernel
theorem dL_law_428 : decode cL_law 428 = .ok (.iaload, 1) := by decide +kernel
theorem dL_law_429 : decode cL_law 429 = .ok (.aload_n 0, 1) := by decide +kernel
theorem dL_law_430 : decode cL_law 430 = .ok (.iload_n 3, 1) := by decide +kernel
theorem dL_law_431 : decode cL_law 431 = .ok (.iconst 4, 1) := by decide +kernel
theorem dL_law_432 : decode cL_law 432 = .ok (.iadd, 1) := by decide +kernel
theorem dL_law_433 : decode cL_law 433 = .ok (.iaload, 1) := by decide +kernel
theorem dL_law_434 : decode cL_law 434 = .ok (.aload_n 0, 1) := by decide +kernel
theorem dL_law_435 : decode cL_law 435 = .ok (.iload_n 3, 1) := by decide +kernel
theorem dL_law_436 : decode cL_law 436 = .ok (.iconst 5, 1) := by decide +kernel
theorem dL_law_437 : decode cL_law 437 = .ok (.iadd, 1) := by decide +kernel
theorem dL_law_438 : decode cL_law 438 = .ok (.iaload, 1) := by decide +kernel
theorem dL_law_439 : decode cL_law 439 = .ok (.invokevirtual 36, 3) := by decide +kernel
theorem dL_law_442 : decode cL_law 442 = .ok (.if_icmp .eq 1534, 3) := by decide +kernel
theorem dL_law_445 : decode cL_law 445 = .ok (.iconst 0, 1) := by decide +kernel
theorem dL_law_446 : decode cL_law 446 = .ok (.ireturn, 1) := by decide +kernel
theorem dL_law_447 : decode cL_law 447 = .ok (.aload_n 1, 1) := by decide +kernel
theorem dL_law_448 : decode cL_law 448 = .ok (.aload_n 0, 1) := by decide +kernel
theorem dL_law_449 : decode cL_law 449 = .ok (.iload_n 3, 1) := by decide +kernel
theorem dL_law_450 : decode cL_law 450 = .ok (.iconst 1, 1) := by decide +kernel
theorem dL_law_451 : decode cL_law 451 = .ok (.iadd, 1) := by decide +kernel
theorem dL_law_452 : decode cL_law 452 = .ok (.iaload, 1) := by decide +kernel
theorem dL_law_453 : decode cL_law 453 = .ok (.invokevirtual 37, 3) := by decide +kernel
theorem dL_law_456 : decode cL_law 456 = .ok (.aload_n 2, 1) := by decide +kernel
theorem dL_law_457 : decode cL_law 457 = .ok (.aload_n 0, 1) := by decide +kernel
theorem dL_law_458 : decode cL_law 458 = .ok (.iload_n 3, 1) := by decide +kernel
theorem dL_law_459 : decode cL_law 459 = .ok (.iconst 1, 1) := by decide +kernel
theorem dL_law_460 : decode cL_law 460 = .ok (.iadd, 1) := by decide +kernel
theorem dL_law_461 : decode cL_law 461 = .ok (.iaload, 1) := by decide +kernel
theorem dL_law_462 : decode cL_law 462 = .ok (.invokevirtual 40, 3) := by decide +kernel
theorem dL_law_465 : decode cL_law 465 = .ok (.if_icmp .eq 1511, 3) := by decide +kernel
theorem dL_law_468 : decode cL_law 468 = .ok (.iconst 0, 1) := by decide +kernel
theorem dL_law_469 : decode cL_law 469 = .ok (.ireturn, 1) := by decide +kernel
theorem dL_law_470 : decode cL_law 470 = .ok (.aload_n 1, 1) := by decide +kernel
theorem dL_law_471 : decode cL_law 471 = .ok (.aload_n 0, 1) := by decide +kernel
theorem dL_law_472 : decode cL_law 472 = .ok (.iload_n 3, 1) := by decide +kernel
theorem dL_law_473 : decode cL_law 473 = .ok (.iconst 1, 1) := by decide +kernel
theorem dL_law_474 : decode cL_law 474 = .ok (.iadd, 1) := by decide +kernel
theorem dL_law_475 : decode cL_law 475 = .ok (.iaload, 1) := by decide +kernel
theorem dL_law_476 : decode cL_law 476 = .ok (.aload_n 0, 1) := by decide +kernel
theorem dL_law_477 : decode cL_law 477 = .ok (.iload_n 3, 1) := by decide +kernel
theorem dL_law_478 : decode cL_law 478 = .ok (.iconst 2, 1) := by decide +kernel
theorem dL_law_479 : decode cL_law 479 = .ok (.iadd, 1) := by decide +kernel
theorem dL_law_480 : decode cL_law 480 = .ok (.iaload, 1) := by decide +kernel
theorem dL_law_481 : decode cL_law 481 = .ok (.invokevirtual 41, 3) := by decide +kernel
theorem dL_law_484 : decode cL_law 484 = .ok (.aload_n 2, 1) := by decide +kernel
theorem dL_law_485 : decode cL_law 485 = .ok (.aload_n 0, 1) := by decide +kernel
theorem dL_law_486 : decode cL_law 486 = .ok (.iload_n 3, 1) := by decide +kernel
theorem dL_law_487 : decode cL_law 487 = .ok (.iconst 1, 1) := by decide +kernel
theorem dL_law_488 : decode cL_law 488 = .ok (.iadd, 1) := by decide +kernel
theorem dL_law_489 : decode cL_law 489 = .ok (.iaload, 1) := by decide +kernel
theorem dL_law_490 : decode cL_law 490 = .ok (.aload_n 0, 1) := by decide +kernel
theorem dL_law_491 : decode cL_law 491 = .ok (.iload_n 3, 1) := by decide +kernel
theorem dL_law_492 : decode cL_law 492 = .ok (.iconst 2, 1) := by decide +kernel
theorem dL_law_493 : decode cL_law 493 = .ok (.iadd, 1) := by decide +kernel
theorem dL_law_494 : decode cL_law 494 = .ok (.iaload, 1) := by decide +kernel
theorem dL_law_495 : decode cL_law 495 = .ok (.invokevirtual 44, 3) := by decide +kernel
theorem dL_law_498 : decode cL_law 498 = .ok (.if_icmp .eq 1478, 3) := by decide +kernel
theorem dL_law_501 : decode cL_law 501 = .ok (.iconst 0, 1) := by decide +kernel
theorem dL_law_502 : decode cL_law 502 = .ok (.ireturn, 1) := by decide +kernel
theorem dL_law_503 : decode cL_law 503 = .ok (.aload_n 1, 1) := by decide +kernel
theorem dL_law_504 : decode cL_law 504 = .ok (.aload_n 0, 1) := by decide +kernel
theorem dL_law_505 : decode cL_law 505 = .ok (.iload_n 3, 1) := by decide +kernel
theorem dL_law_506 : decode cL_law 506 = .ok (.iconst 1, 1) := by decide +kernel
theorem dL_law_507 : decode cL_law 507 = .ok (.iadd, 1) := by decide +kernel
theorem dL_law_508 : decode cL_law 508 = .ok (.iaload, 1) := by decide +kernel
theorem dL_law_509 : decode cL_law 509 = .ok (.aload_n 0, 1) := by decide +kernel
theorem dL_law_510 : decode cL_law 510 = .ok (.iload_n 3, 1) := by decide +kernel
theorem dL_law_511 : decode cL_law 511 = .ok (.iconst 2, 1) := by decide +kernel
theorem dL_law_512 : decode cL_law 512 = .ok (.iadd, 1) := by decide +kernel
theorem dL_law_513 : decode cL_law 513 = .ok (.iaload, 1) := by decide +kernel
theorem dL_law_514 : decode cL_law 514 = .ok (.aload_n 0, 1) := by decide +kernel
theorem dL_law_515 : decode cL_law 515 = .ok (.iload_n 3, 1) := by decide +kernel
theorem dL_law_516 : decode cL_law 516 = .ok (.iconst 3, 1) := by decide +kernel
theorem dL_law_517 : decode cL_law 517 = .ok (.iadd, 1) := by decide +kernel
theorem dL_law_518 : decode cL_law 518 = .ok (.iaload, 1) := by decide +kernel
theorem dL_law_519 : decode cL_law 519 = .ok (.invokevirtual 45, 3) := by decide +kernel
theorem dL_law_522 : decode cL_law 522 = .ok (.aload_n 2, 1) := by decide +kernel
theorem dL_law_523 : decode cL_law 523 = .ok (.aload_n 0, 1) := by decide +kernel
theorem dL_law_524 : decode cL_law 524 = .ok (.iload_n 3, 1) := by decide +kernel
theorem dL_law_525 : decode cL_law 525 = .ok (.iconst 1, 1) := by decide +kernel
theorem dL_law_526 : decode cL_law 526 = .ok (.iadd, 1) := by decide +kernel
theorem dL_law_527 : decode cL_law 527 = .ok (.iaload, 1) := by decide +kernel
theorem dL_law_528 : decode cL_law 528 = .ok (.aload_n 0, 1) := by decide +kernel
theorem dL_law_529 : decode cL_law 529 = .ok (.iload_n 3, 1) := by decide +kernel
theorem dL_law_530 : decode cL_law 530 = .ok (.iconst 2, 1) := by decide +kernel
theorem dL_law_531 : decode cL_law 531 = .ok (.iadd, 1) := by decide +kernel
theorem dL_law_532 : decode cL_law 532 = .ok (.iaload, 1) := by decide +kernel
theorem dL_law_533 : decode cL_law 533 = .ok (.aload_n 0, 1) := by decide +kernel
theorem dL_law_534 : decode cL_law 534 = .ok (.iload_n 3, 1) := by decide +kernel
theorem dL_law_535 : decode cL_law 535 = .ok (.iconst 3, 1) := by decide +kernel
theorem dL_law_536 : decode cL_law 536 = .ok (.iadd, 1) := by decide +kernel
theorem dL_law_537 : decode cL_law 537 = .ok (.iaload, 1) := by decide +kernel
theorem dL_law_538 : decode cL_law 538 = .ok (.invokevirtual 48, 3) := by decide +kernel
theorem dL_law_541 : decode cL_law 541 = .ok (.if_icmp .eq 1435, 3) := by decide +kernel
theorem dL_law_544 : decode cL_law 544 = .ok (.iconst 0, 1) := by decide +kernel
theorem dL_law_545 : decode cL_law 545 = .ok (.ireturn, 1) := by decide +kernel
theorem dL_law_546 : decode cL_law 546 = .ok (.aload_n 1, 1) := by decide +kernel
theorem dL_law_547 : decode cL_law 547 = .ok (.aload_n 0, 1) := by decide +kernel
theorem dL_law_548 : decode cL_law 548 = .ok (.iload_n 3, 1) := by decide +kernel
theorem dL_law_549 : decode cL_law 549 = .ok (.iconst 1, 1) := by decide +kernel
theorem dL_law_550 : decode cL_law 550 = .ok (.iadd, 1) := by decide +kernel
theorem dL_law_551 : decode cL_law 551 = .ok (.iaload, 1) := by decide +kernel
theorem dL_law_552 : decode cL_law 552 = .ok (.aload_n 0, 1) := by decide +kernel
theorem dL_law_553 : decode cL_law 553 = .ok (.iload_n 3, 1) := by decide +kernel
theorem dL_law_554 : decode cL_law 554 = .ok (.iconst 2, 1) := by decide +kernel
theorem dL_law_555 : decode cL_law 555 = .ok (.iadd, 1) := by decide +kernel
theorem dL_law_556 : decode cL_law 556 = .ok (.iaload, 1) := by decide +kernel
theorem dL_law_557 : decode cL_law 557 = .ok (.ifCond .eq 7, 3) := by decide +kernel
theorem dL_law_560 : decode cL_law 560 = .ok (.iconst 1, 1) := by decide +kernel
theorem dL_law_561 : decode cL_law 561 = .ok (.goto 4, 3) := by decide +kernel
theorem dL_law_564 : decode cL_law 564 = .ok (.iconst 0, 1) := by decide +kernel
theorem dL_law_565 : decode cL_law 565 = .ok (.invokevirtual 49, 3) := by decide +kernel
theorem dL_law_568 : decode cL_law 568 = .ok (.aload_n 2, 1) := by decide +kernel
theorem dL_law_569 : decode cL_law 569 = .ok (.aload_n 0, 1) := by decide +kernel
theorem dL_law_570 : decode cL_law 570 = .ok (.iload_n 3, 1) := by decide +kernel
theorem dL_law_571 : decode cL_law 571 = .ok (.iconst 1, 1) := by decide +kernel
theorem dL_law_572 : decode cL_law 572 = .ok (.iadd, 1) := by decide +kernel
theorem dL_law_573 : decode cL_law 573 = .ok (.iaload, 1) := by decide +kernel
theorem dL_law_574 : decode cL_law 574 = .ok (.aload_n 0, 1) := by decide +kernel
theorem dL_law_575 : decode cL_law 575 = .ok (.iload_n 3, 1) := by decide +kernel
theorem dL_law_576 : decode cL_law 576 = .ok (.iconst 2, 1) := by decide +kernel
theorem dL_law_577 : decode cL_law 577 = .ok (.iadd, 1) := by decide +kernel
theorem dL_law_578 : decode cL_law 578 = .ok (.iaload, 1) := by decide +kernel
theorem dL_law_579 : decode cL_law 579 = .ok (.ifCond .eq 7, 3) := by decide +kernel
theorem dL_law_582 : decode cL_law 582 = .ok (.iconst 1, 1) := by decide +kernel
theorem dL_law_583 : decode cL_law 583 = .ok (.goto 4, 3) := by decide +kernel
theorem dL_law_586 : decode cL_law 586 = .ok (.iconst 0, 1) := by decide +kernel
theorem dL_law_587 : decode cL_law 587 = .ok (.invokevirtual 53, 3) := by decide +kernel
theorem dL_law_590 : decode cL_law 590 = .ok (.if_icmp .eq 1386, 3) := by decide +kernel
theorem dL_law_593 : decode cL_law 593 = .ok (.iconst 0, 1) := by decide +kernel
theorem dL_law_594 : decode cL_law 594 = .ok (.ireturn, 1) := by decide +kernel
theorem dL_law_595 : decode cL_law 595 = .ok (.aload_n 1, 1) := by decide +kernel
theorem dL_law_596 : decode cL_law 596 = .ok (.aload_n 0, 1) := by decide +kernel
theorem dL_law_597 : decode cL_law 597 = .ok (.iload_n 3, 1) := by decide +kernel
theorem dL_law_598 : decode cL_law 598 = .ok (.iconst 1, 1) := by decide +kernel
theorem dL_law_599 : decode cL_law 599 = .ok (.iadd, 1) := by decide +kernel
theorem dL_law_600 : decode cL_law 600 = .ok (.iaload, 1) := by decide +kernel
theorem dL_law_601 : decode cL_law 601 = .ok (.aload_n 0, 1) := by decide +kernel
theorem dL_law_602 : decode cL_law 602 = .ok (.iload_n 3, 1) := by decide +kernel
theorem dL_law_603 : decode cL_law 603 = .ok (.iconst 2, 1) := by decide +kernel
theorem dL_law_604 : decode cL_law 604 = .ok (.iadd, 1) := by decide +kernel
theorem dL_law_605 : decode cL_law 605 = .ok (.iaload, 1) := by decide +kernel
theorem dL_law_606 : decode cL_law 606 = .ok (.invokevirtual 54, 3) := by decide +kernel
theorem dL_law_609 : decode cL_law 609 = .ok (.aload_n 2, 1) := by decide +kernel
theorem dL_law_610 : decode cL_law 610 = .ok (.aload_n 0, 1) := by decide +kernel
theorem dL_law_611 : decode cL_law 611 = .ok (.iload_n 3, 1) := by decide +kernel
theorem dL_law_612 : decode cL_law 612 = .ok (.iconst 1, 1) := by decide +kernel
theorem dL_law_613 : decode cL_law 613 = .ok (.iadd, 1) := by decide +kernel
theorem dL_law_614 : decode cL_law 614 = .ok (.iaload, 1) := by decide +kernel
theorem dL_law_615 : decode cL_law 615 = .ok (.aload_n 0, 1) := by decide +kernel
theorem dL_law_616 : decode cL_law 616 = .ok (.iload_n 3, 1) := by decide +kernel
theorem dL_law_617 : decode cL_law 617 = .ok (.iconst 2, 1) := by decide +kernel
theorem dL_law_618 : decode cL_law 618 = .ok (.iadd, 1) := by decide +kernel
theorem dL_law_619 : decode cL_law 619 = .ok (.iaload, 1) := by decide +kernel
theorem dL_law_620 : decode cL_law 620 = .ok (.invokevirtual 57, 3) := by decide +kernel
theorem dL_law_623 : decode cL_law 623 = .ok (.if_icmp .eq 1353, 3) := by decide +kernel
theorem dL_law_626 : decode cL_law 626 = .ok (.iconst 0, 1) := by decide +kernel
theorem dL_law_627 : decode cL_law 627 = .ok (.ireturn, 1) := by decide +kernel
theorem dL_law_628 : decode cL_law 628 = .ok (.aload_n 1, 1) := by decide +kernel
theorem dL_law_629 : decode cL_law 629 = .ok (.aload_n 0, 1) := by decide +kernel
theorem dL_law_630 : decode cL_law 630 = .ok (.iload_n 3, 1) := by decide +kernel
theorem dL_law_631 : decode cL_law 631 = .ok (.iconst 1, 1) := by decide +kernel
theorem dL_law_632 : decode cL_law 632 = .ok (.iadd, 1) := by decide +kernel
theorem dL_law_633 : decode cL_law 633 = .ok (.iaload, 1) := by decide +kernel
theorem dL_law_634 : decode cL_law 634 = .ok (.aload_n 0, 1) := by decide +kernel
theorem dL_law_635 : decode cL_law 635 = .ok (.iload_n 3, 1) := by decide +kernel
theorem dL_law_636 : decode cL_law 636 = .ok (.iconst 2, 1) := by decide +kernel
theorem dL_law_637 : decode cL_law 637 = .ok (.iadd, 1) := by decide +kernel
theorem dL_law_638 : decode cL_law 638 = .ok (.iaload, 1) := by decide +kernel
theorem dL_law_639 : decode cL_law 639 = .ok (.invokevirtual 58, 3) := by decide +kernel
theorem dL_law_642 : decode cL_law 642 = .ok (.aload_n 2, 1) := by decide +kernel
theorem dL_law_643 : decode cL_law 643 = .ok (.aload_n 0, 1) := by decide +kernel
theorem dL_law_644 : decode cL_law 644 = .ok (.iload_n 3, 1) := by decide +kernel
theorem dL_law_645 : decode cL_law 645 = .ok (.iconst 1, 1) := by decide +kernel
theorem dL_law_646 : decode cL_law 646 = .ok (.iadd, 1) := by decide +kernel
theorem dL_law_647 : decode cL_law 647 = .ok (.iaload, 1) := by decide +kernel
theorem dL_law_648 : decode cL_law 648 = .ok (.aload_n 0, 1) := by decide +kernel
theorem dL_law_649 : decode cL_law 649 = .ok (.iload_n 3, 1) := by decide +kernel
theorem dL_law_650 : decode cL_law 650 = .ok (.iconst 2, 1) := by decide +kernel
theorem dL_law_651 : decode cL_law 651 = .ok (.iadd, 1) := by decide +kernel
theorem dL_law_652 : decode cL_law 652 = .ok (.iaload, 1) := by decide +kernel
theorem dL_law_653 : decode cL_law 653 = .ok (.invokevirtual 61, 3) := by decide +kernel
theorem dL_law_656 : decode cL_law 656 = .ok (.if_icmp .eq 1320, 3) := by decide +kernel
theorem dL_law_659 : decode cL_law 659 = .ok (.iconst 0, 1) := by decide +kernel
theorem dL_law_660 : decode cL_law 660 = .ok (.ireturn, 1) := by decide +kernel
theorem dL_law_661 : decode cL_law 661 = .ok (.aload_n 1, 1) := by decide +kernel
theorem dL_law_662 : decode cL_law 662 = .ok (.aload_n 0, 1) := by decide +kernel
theorem dL_law_663 : decode cL_law 663 = .ok (.iload_n 3, 1) := by decide +kernel
theorem dL_law_664 : decode cL_law 664 = .ok (.iconst 1, 1) := by decide +kernel
theorem dL_law_665 : decode cL_law 665 = .ok (.iadd, 1) := by decide +kernel
theorem dL_law_666 : decode cL_law 666 = .ok (.iaload, 1) := by decide +kernel
theorem dL_law_667 : decode cL_law 667 = .ok (.aload_n 0, 1) := by decide +kernel
theorem dL_law_668 : decode cL_law 668 = .ok (.iload_n 3, 1) := by decide +kernel
theorem dL_law_669 : decode cL_law 669 = .ok (.iconst 2, 1) := by decide +kernel
theorem dL_law_670 : decode cL_law 670 = .ok (.iadd, 1) := by decide +kernel
theorem dL_law_671 : decode cL_law 671 = .ok (.iaload, 1) := by decide +kernel
theorem dL_law_672 : decode cL_law 672 = .ok (.invokevirtual 62, 3) := by decide +kernel
theorem dL_law_675 : decode cL_law 675 = .ok (.aload_n 2, 1) := by decide +kernel
theorem dL_law_676 : decode cL_law 676 = .ok (.aload_n 0, 1) := by decide +kernel
theorem dL_law_677 : decode cL_law 677 = .ok (.iload_n 3, 1) := by decide +kernel
theorem dL_law_678 : decode cL_law 678 = .ok (.iconst 1, 1) := by decide +kernel
theorem dL_law_679 : decode cL_law 679 = .ok (.iadd, 1) := by decide +kernel
theorem dL_law_680 : decode cL_law 680 = .ok (.iaload, 1) := by decide +kernel
theorem dL_law_681 : decode cL_law 681 = .ok (.aload_n 0, 1) := by decide +kernel
theorem dL_law_682 : decode cL_law 682 = .ok (.iload_n 3, 1) := by decide +kernel
theorem dL_law_683 : decode cL_law 683 = .ok (.iconst 2, 1) := by decide +kernel
theorem dL_law_684 : decode cL_law 684 = .ok (.iadd, 1) := by decide +kernel
theorem dL_law_685 : decode cL_law 685 = .ok (.iaload, 1) := by decide +kernel
theorem dL_law_686 : decode cL_law 686 = .ok (.invokevirtual 65, 3) := by decide +kernel
theorem dL_law_689 : decode cL_law 689 = .ok (.if_icmp .eq 1287, 3) := by decide +kernel
theorem dL_law_692 : decode cL_law 692 = .ok (.iconst 0, 1) := by decide +kernel
theorem dL_law_693 : decode cL_law 693 = .ok (.ireturn, 1) := by decide +kernel
theorem dL_law_694 : decode cL_law 694 = .ok (.aload_n 1, 1) := by decide +kernel
theorem dL_law_695 : decode cL_law 695 = .ok (.aload_n 0, 1) := by decide +kernel
theorem dL_law_696 : decode cL_law 696 = .ok (.iload_n 3, 1) := by decide +kernel
theorem dL_law_697 : decode cL_law 697 = .ok (.iconst 1, 1) := by decide +kernel
theorem dL_law_698 : decode cL_law 698 = .ok (.iadd, 1) := by decide +kernel
theorem dL_law_699 : decode cL_law 699 = .ok (.iaload, 1) := by decide +kernel
theorem dL_law_700 : decode cL_law 700 = .ok (.aload_n 0, 1) := by decide +kernel
theorem dL_law_701 : decode cL_law 701 = .ok (.iload_n 3, 1) := by decide +kernel
theorem dL_law_702 : decode cL_law 702 = .ok (.iconst 2, 1) := by decide +kernel
theorem dL_law_703 : decode cL_law 703 = .ok (.iadd, 1) := by decide +kernel
theorem dL_law_704 : decode cL_law 704 = .ok (.iaload, 1) := by decide +kernel
theorem dL_law_705 : decode cL_law 705 = .ok (.invokevirtual 66, 3) := by decide +kernel
theorem dL_law_708 : decode cL_law 708 = .ok (.aload_n 2, 1) := by decide +kernel
theorem dL_law_709 : decode cL_law 709 = .ok (.aload_n 0, 1) := by decide +kernel
theorem dL_law_710 : decode cL_law 710 = .ok (.iload_n 3, 1) := by decide +kernel
theorem dL_law_711 : decode cL_law 711 = .ok (.iconst 1, 1) := by decide +kernel
theorem dL_law_712 : decode cL_law 712 = .ok (.iadd, 1) := by decide +kernel
theorem dL_law_713 : decode cL_law 713 = .ok (.iaload, 1) := by decide +kernel
theorem dL_law_714 : decode cL_law 714 = .ok (.aload_n 0, 1) := by decide +kernel
theorem dL_law_715 : decode cL_law 715 = .ok (.iload_n 3, 1) := by decide +kernel
theorem dL_law_716 : decode cL_law 716 = .ok (.iconst 2, 1) := by decide +kernel
theorem dL_law_717 : decode cL_law 717 = .ok (.iadd, 1) := by decide +kernel
theorem dL_law_718 : decode cL_law 718 = .ok (.iaload, 1) := by decide +kernel
theorem dL_law_719 : decode cL_law 719 = .ok (.invokevirtual 69, 3) := by decide +kernel
theorem dL_law_722 : decode cL_law 722 = .ok (.if_icmp .eq 1254, 3) := by decide +kernel
theorem dL_law_725 : decode cL_law 725 = .ok (.iconst 0, 1) := by decide +kernel
theorem dL_law_726 : decode cL_law 726 = .ok (.ireturn, 1) := by decide +kernel
theorem dL_law_727 : decode cL_law 727 = .ok (.aload_n 1, 1) := by decide +kernel
theorem dL_law_728 : decode cL_law 728 = .ok (.aload_n 0, 1) := by decide +kernel
theorem dL_law_729 : decode cL_law 729 = .ok (.iload_n 3, 1) := by decide +kernel
theorem dL_law_730 : decode cL_law 730 = .ok (.iconst 1, 1) := by decide +kernel
theorem dL_law_731 : decode cL_law 731 = .ok (.iadd, 1) := by decide +kernel
theorem dL_law_732 : decode cL_law 732 = .ok (.iaload, 1) := by decide +kernel
theorem dL_law_733 : decode cL_law 733 = .ok (.aload_n 0, 1) := by decide +kernel
theorem dL_law_734 : decode cL_law 734 = .ok (.iload_n 3, 1) := by decide +kernel
theorem dL_law_735 : decode cL_law 735 = .ok (.iconst 2, 1) := by decide +kernel
theorem dL_law_736 : decode cL_law 736 = .ok (.iadd, 1) := by decide +kernel
theorem dL_law_737 : decode cL_law 737 = .ok (.iaload, 1) := by decide +kernel
theorem dL_law_738 : decode cL_law 738 = .ok (.aload_n 0, 1) := by decide +kernel
theorem dL_law_739 : decode cL_law 739 = .ok (.iload_n 3, 1) := by decide +kernel
theorem dL_law_740 : decode cL_law 740 = .ok (.iconst 3, 1) := by decide +kernel
theorem dL_law_741 : decode cL_law 741 = .ok (.iadd, 1) := by decide +kernel
theorem dL_law_742 : decode cL_law 742 = .ok (.iaload, 1) := by decide +kernel
theorem dL_law_743 : decode cL_law 743 = .ok (.aload_n 0, 1) := by decide +kernel
theorem dL_law_744 : decode cL_law 744 = .ok (.iload_n 3, 1) := by decide +kernel
theorem dL_law_745 : decode cL_law 745 = .ok (.iconst 4, 1) := by decide +kernel
theorem dL_law_746 : decode cL_law 746 = .ok (.iadd, 1) := by decide +kernel
theorem dL_law_747 : decode cL_law 747 = .ok (.iaload, 1) := by decide +kernel
theorem dL_law_748 : decode cL_law 748 = .ok (.aload_n 0, 1) := by decide +kernel
theorem dL_law_749 : decode cL_law 749 = .ok (.iload_n 3, 1) := by decide +kernel
theorem dL_law_750 : decode cL_law 750 = .ok (.iconst 5, 1) := by decide +kernel
theorem dL_law_751 : decode cL_law 751 = .ok (.iadd, 1) := by decide +kernel
theorem dL_law_752 : decode cL_law 752 = .ok (.iaload, 1) := by decide +kernel
theorem dL_law_753 : decode cL_law 753 = .ok (.aload_n 0, 1) := by decide +kernel
theorem dL_law_754 : decode cL_law 754 = .ok (.iload_n 3, 1) := by decide +kernel
theorem dL_law_755 : decode cL_law 755 = .ok (.bipush 6, 2) := by decide +kernel
theorem dL_law_757 : decode cL_law 757 = .ok (.iadd, 1) := by decide +kernel
theorem dL_law_758 : decode cL_law 758 = .ok (.iaload, 1) := by decide +kernel
theorem dL_law_759 : decode cL_law 759 = .ok (.invokevirtual 70, 3) := by decide +kernel
theorem dL_law_762 : decode cL_law 762 = .ok (.aload_n 2, 1) := by decide +kernel
theorem dL_law_763 : decode cL_law 763 = .ok (.aload_n 0, 1) := by decide +kernel
theorem dL_law_764 : decode cL_law 764 = .ok (.iload_n 3, 1) := by decide +kernel
theorem dL_law_765 : decode cL_law 765 = .ok (.iconst 1, 1) := by decide +kernel
theorem dL_law_766 : decode cL_law 766 = .ok (.iadd, 1) := by decide +kernel
theorem dL_law_767 : decode cL_law 767 = .ok (.iaload, 1) := by decide +kernel
theorem dL_law_768 : decode cL_law 768 = .ok (.aload_n 0, 1) := by decide +kernel
theorem dL_law_769 : decode cL_law 769 = .ok (.iload_n 3, 1) := by decide +kernel
theorem dL_law_770 : decode cL_law 770 = .ok (.iconst 2, 1) := by decide +kernel
theorem dL_law_771 : decode cL_law 771 = .ok (.iadd, 1) := by decide +kernel
theorem dL_law_772 : decode cL_law 772 = .ok (.iaload, 1) := by decide +kernel
theorem dL_law_773 : decode cL_law 773 = .ok (.aload_n 0, 1) := by decide +kernel
theorem dL_law_774 : decode cL_law 774 = .ok (.iload_n 3, 1) := by decide +kernel
theorem dL_law_775 : decode cL_law 775 = .ok (.iconst 3, 1) := by decide +kernel
theorem dL_law_776 : decode cL_law 776 = .ok (.iadd, 1) := by decide +kernel
theorem dL_law_777 : decode cL_law 777 = .ok (.iaload, 1) := by decide +kernel
theorem dL_law_778 : decode cL_law 778 = .ok (.aload_n 0, 1) := by decide +kernel
theorem dL_law_779 : decode cL_law 779 = .ok (.iload_n 3, 1) := by decide +kernel
theorem dL_law_780 : decode cL_law 780 = .ok (.iconst 4, 1) := by decide +kernel
theorem dL_law_781 : decode cL_law 781 = .ok (.iadd, 1) := by decide +kernel
theorem dL_law_782 : decode cL_law 782 = .ok (.iaload, 1) := by decide +kernel
theorem dL_law_783 : decode cL_law 783 = .ok (.aload_n 0, 1) := by decide +kernel
theorem dL_law_784 : decode cL_law 784 = .ok (.iload_n 3, 1) := by decide +kernel
theorem dL_law_785 : decode cL_law 785 = .ok (.iconst 5, 1) := by decide +kernel
theorem dL_law_786 : decode cL_law 786 = .ok (.iadd, 1) := by decide +kernel
theorem dL_law_787 : decode cL_law 787 = .ok (.iaload, 1) := by decide +kernel
theorem dL_law_788 : decode cL_law 788 = .ok (.aload_n 0, 1) := by decide +kernel
theorem dL_law_789 : decode cL_law 789 = .ok (.iload_n 3, 1) := by decide +kernel
theorem dL_law_790 : decode cL_law 790 = .ok (.bipush 6, 2) := by decide +kernel
theorem dL_law_792 : decode cL_law 792 = .ok (.iadd, 1) := by decide +kernel
theorem dL_law_793 : decode cL_law 793 = .ok (.iaload, 1) := by decide +kernel
theorem dL_law_794 : decode cL_law 794 = .ok (.invokevirtual 74, 3) := by decide +kernel
theorem dL_law_797 : decode cL_law 797 = .ok (.if_icmp .eq 1179, 3) := by decide +kernel
theorem dL_law_800 : decode cL_law 800 = .ok (.iconst 0, 1) := by decide +kernel
theorem dL_law_801 : decode cL_law 801 = .ok (.ireturn, 1) := by decide +kernel
theorem dL_law_802 : decode cL_law 802 = .ok (.aload_n 1, 1) := by decide +kernel
theorem dL_law_803 : decode cL_law 803 = .ok (.aload_n 0, 1) := by decide +kernel
theorem dL_law_804 : decode cL_law 804 = .ok (.iload_n 3, 1) := by decide +kernel
theorem dL_law_805 : decode cL_law 805 = .ok (.iconst 1, 1) := by decide +kernel
theorem dL_law_806 : decode cL_law 806 = .ok (.iadd, 1) := by decide +kernel
theorem dL_law_807 : decode cL_law 807 = .ok (.iaload, 1) := by decide +kernel
theorem dL_law_808 : decode cL_law 808 = .ok (.invokevirtual 75, 3) := by decide +kernel
theorem dL_law_811 : decode cL_law 811 = .ok (.aload_n 2, 1) := by decide +kernel
theorem dL_law_812 : decode cL_law 812 = .ok (.aload_n 0, 1) := by decide +kernel
theorem dL_law_813 : decode cL_law 813 = .ok (.iload_n 3, 1) := by decide +kernel
theorem dL_law_814 : decode cL_law 814 = .ok (.iconst 1, 1) := by decide +kernel
theorem dL_law_815 : decode cL_law 815 = .ok (.iadd, 1) := by decide +kernel
theorem dL_law_816 : decode cL_law 816 = .ok (.iaload, 1) := by decide +kernel
theorem dL_law_817 : decode cL_law 817 = .ok (.invokevirtual 78, 3) := by decide +kernel
theorem dL_law_820 : decode cL_law 820 = .ok (.if_icmp .eq 1156, 3) := by decide +kernel
theorem dL_law_823 : decode cL_law 823 = .ok (.iconst 0, 1) := by decide +kernel
theorem dL_law_824 : decode cL_law 824 = .ok (.ireturn, 1) := by decide +kernel
theorem dL_law_825 : decode cL_law 825 = .ok (.aload_n 1, 1) := by decide +kernel
theorem dL_law_826 : decode cL_law 826 = .ok (.aload_n 0, 1) := by decide +kernel
theorem dL_law_827 : decode cL_law 827 = .ok (.iload_n 3, 1) := by decide +kernel
theorem dL_law_828 : decode cL_law 828 = .ok (.iconst 1, 1) := by decide +kernel
theorem dL_law_829 : decode cL_law 829 = .ok (.iadd, 1) := by decide +kernel
theorem dL_law_830 : decode cL_law 830 = .ok (.iaload, 1) := by decide +kernel
theorem dL_law_831 : decode cL_law 831 = .ok (.aload_n 0, 1) := by decide +kernel
theorem dL_law_832 : decode cL_law 832 = .ok (.iload_n 3, 1) := by decide +kernel
theorem dL_law_833 : decode cL_law 833 = .ok (.iconst 2, 1) := by decide +kernel
theorem dL_law_834 : decode cL_law 834 = .ok (.iadd, 1) := by decide +kernel
theorem dL_law_835 : decode cL_law 835 = .ok (.iaload, 1) := by decide +kernel
theorem dL_law_836 : decode cL_law 836 = .ok (.invokevirtual 79, 3) := by decide +kernel
theorem dL_law_839 : decode cL_law 839 = .ok (.aload_n 2, 1) := by decide +kernel
theorem dL_law_840 : decode cL_law 840 = .ok (.aload_n 0, 1) := by decide +kernel
theorem dL_law_841 : decode cL_law 841 = .ok (.iload_n 3, 1) := by decide +kernel
theorem dL_law_842 : decode cL_law 842 = .ok (.iconst 1, 1) := by decide +kernel
theorem dL_law_843 : decode cL_law 843 = .ok (.iadd, 1) := by decide +kernel
theorem dL_law_844 : decode cL_law 844 = .ok (.iaload, 1) := by decide +kernel
theorem dL_law_845 : decode cL_law 845 = .ok (.aload_n 0, 1) := by decide +kernel
theorem dL_law_846 : decode cL_law 846 = .ok (.iload_n 3, 1) := by decide +kernel
theorem dL_law_847 : decode cL_law 847 = .ok (.iconst 2, 1) := by decide +kernel
theorem dL_law_848 : decode cL_law 848 = .ok (.iadd, 1) := by decide +kernel
theorem dL_law_849 : decode cL_law 849 = .ok (.iaload, 1) := by decide +kernel
theorem dL_law_850 : decode cL_law 850 = .ok (.invokevirtual 82, 3) := by decide +kernel
theorem dL_law_853 : decode cL_law 853 = .ok (.if_icmp .eq 1123, 3) := by decide +kernel
theorem dL_law_856 : decode cL_law 856 = .ok (.iconst 0, 1) := by decide +kernel
theorem dL_law_857 : decode cL_law 857 = .ok (.ireturn, 1) := by decide +kernel
theorem dL_law_858 : decode cL_law 858 = .ok (.aload_n 1, 1) := by decide +kernel
theorem dL_law_859 : decode cL_law 859 = .ok (.aload_n 0, 1) := by decide +kernel
theorem dL_law_860 : decode cL_law 860 = .ok (.iload_n 3, 1) := by decide +kernel
theorem dL_law_861 : decode cL_law 861 = .ok (.iconst 1, 1) := by decide +kernel
theorem dL_law_862 : decode cL_law 862 = .ok (.iadd, 1) := by decide +kernel
theorem dL_law_863 : decode cL_law 863 = .ok (.iaload, 1) := by decide +kernel
theorem dL_law_864 : decode cL_law 864 = .ok (.invokevirtual 83, 3) := by decide +kernel
theorem dL_law_867 : decode cL_law 867 = .ok (.aload_n 2, 1) := by decide +kernel
theorem dL_law_868 : decode cL_law 868 = .ok (.aload_n 0, 1) := by decide +kernel
theorem dL_law_869 : decode cL_law 869 = .ok (.iload_n 3, 1) := by decide +kernel
theorem dL_law_870 : decode cL_law 870 = .ok (.iconst 1, 1) := by decide +kernel
theorem dL_law_871 : decode cL_law 871 = .ok (.iadd, 1) := by decide +kernel
theorem dL_law_872 : decode cL_law 872 = .ok (.iaload, 1) := by decide +kernel
theorem dL_law_873 : decode cL_law 873 = .ok (.invokevirtual 86, 3) := by decide +kernel
theorem dL_law_876 : decode cL_law 876 = .ok (.if_icmp .eq 1100, 3) := by decide +kernel
theorem dL_law_879 : decode cL_law 879 = .ok (.iconst 0, 1) := by decide +kernel
theorem dL_law_880 : decode cL_law 880 = .ok (.ireturn, 1) := by decide +kernel
theorem dL_law_881 : decode cL_law 881 = .ok (.aload_n 1, 1) := by decide +kernel
theorem dL_law_882 : decode cL_law 882 = .ok (.aload_n 0, 1) := by decide +kernel
theorem dL_law_883 : decode cL_law 883 = .ok (.iload_n 3, 1) := by decide +kernel
theorem dL_law_884 : decode cL_law 884 = .ok (.iconst 1, 1) := by decide +kernel
theorem dL_law_885 : decode cL_law 885 = .ok (.iadd, 1) := by decide +kernel
theorem dL_law_886 : decode cL_law 886 = .ok (.iaload, 1) := by decide +kernel
theorem dL_law_887 : decode cL_law 887 = .ok (.aload_n 0, 1) := by decide +kernel
theorem dL_law_888 : decode cL_law 888 = .ok (.iload_n 3, 1) := by decide +kernel
theorem dL_law_889 : decode cL_law 889 = .ok (.iconst 2, 1) := by decide +kernel
theorem dL_law_890 : decode cL_law 890 = .ok (.iadd, 1) := by decide +kernel
theorem dL_law_891 : decode cL_law 891 = .ok (.iaload, 1) := by decide +kernel
theorem dL_law_892 : decode cL_law 892 = .ok (.invokevirtual 87, 3) := by decide +kernel
theorem dL_law_895 : decode cL_law 895 = .ok (.aload_n 2, 1) := by decide +kernel
theorem dL_law_896 : decode cL_law 896 = .ok (.aload_n 0, 1) := by decide +kernel
theorem dL_law_897 : decode cL_law 897 = .ok (.iload_n 3, 1) := by decide +kernel
theorem dL_law_898 : decode cL_law 898 = .ok (.iconst 1, 1) := by decide +kernel
theorem dL_law_899 : decode cL_law 899 = .ok (.iadd, 1) := by decide +kernel
theorem dL_law_900 : decode cL_law 900 = .ok (.iaload, 1) := by decide +kernel
theorem dL_law_901 : decode cL_law 901 = .ok (.aload_n 0, 1) := by decide +kernel
theorem dL_law_902 : decode cL_law 902 = .ok (.iload_n 3, 1) := by decide +kernel
theorem dL_law_903 : decode cL_law 903 = .ok (.iconst 2, 1) := by decide +kernel
theorem dL_law_904 : decode cL_law 904 = .ok (.iadd, 1) := by decide +kernel
theorem dL_law_905 : decode cL_law 905 = .ok (.iaload, 1) := by decide +kernel
theorem dL_law_906 : decode cL_law 906 = .ok (.invokevirtual 90, 3) := by decide +kernel
theorem dL_law_909 : decode cL_law 909 = .ok (.if_icmp .eq 1067, 3) := by decide +kernel
theorem dL_law_912 : decode cL_law 912 = .ok (.iconst 0, 1) := by decide +kernel
theorem dL_law_913 : decode cL_law 913 = .ok (.ireturn, 1) := by decide +kernel
theorem dL_law_914 : decode cL_law 914 = .ok (.aload_n 1, 1) := by decide +kernel
theorem dL_law_915 : decode cL_law 915 = .ok (.aload_n 0, 1) := by decide +kernel
theorem dL_law_916 : decode cL_law 916 = .ok (.iload_n 3, 1) := by decide +kernel
theorem dL_law_917 : decode cL_law 917 = .ok (.iconst 1, 1) := by decide +kernel
theorem dL_law_918 : decode cL_law 918 = .ok (.iadd, 1) := by decide +kernel
theorem dL_law_919 : decode cL_law 919 = .ok (.iaload, 1) := by decide +kernel
theorem dL_law_920 : decode cL_law 920 = .ok (.aload_n 0, 1) := by decide +kernel
theorem dL_law_921 : decode cL_law 921 = .ok (.iload_n 3, 1) := by decide +kernel
theorem dL_law_922 : decode cL_law 922 = .ok (.iconst 2, 1) := by decide +kernel
theorem dL_law_923 : decode cL_law 923 = .ok (.iadd, 1) := by decide +kernel
theorem dL_law_924 : decode cL_law 924 = .ok (.iaload, 1) := by decide +kernel
theorem dL_law_925 : decode cL_law 925 = .ok (.invokevirtual 91, 3) := by decide +kernel
theorem dL_law_928 : decode cL_law 928 = .ok (.aload_n 2, 1) := by decide +kernel
theorem dL_law_929 : decode cL_law 929 = .ok (.aload_n 0, 1) := by decide +kernel
theorem dL_law_930 : decode cL_law 930 = .ok (.iload_n 3, 1) := by decide +kernel
theorem dL_law_931 : decode cL_law 931 = .ok (.iconst 1, 1) := by decide +kernel
theorem dL_law_932 : decode cL_law 932 = .ok (.iadd, 1) := by decide +kernel
theorem dL_law_933 : decode cL_law 933 = .ok (.iaload, 1) := by decide +kernel
theorem dL_law_934 : decode cL_law 934 = .ok (.aload_n 0, 1) := by decide +kernel
theorem dL_law_935 : decode cL_law 935 = .ok (.iload_n 3, 1) := by decide +kernel
theorem dL_law_936 : decode cL_law 936 = .ok (.iconst 2, 1) := by decide +kernel
theorem dL_law_937 : decode cL_law 937 = .ok (.iadd, 1) := by decide +kernel
theorem dL_law_938 : decode cL_law 938 = .ok (.iaload, 1) := by decide +kernel
theorem dL_law_939 : decode cL_law 939 = .ok (.invokevirtual 94, 3) := by decide +kernel
theorem dL_law_942 : decode cL_law 942 = .ok (.if_icmp .eq 1034, 3) := by decide +kernel
theorem dL_law_945 : decode cL_law 945 = .ok (.iconst 0, 1) := by decide +kernel
theorem dL_law_946 : decode cL_law 946 = .ok (.ireturn, 1) := by decide +kernel
theorem dL_law_947 : decode cL_law 947 = .ok (.aload_n 1, 1) := by decide +kernel
theorem dL_law_948 : decode cL_law 948 = .ok (.aload_n 0, 1) := by decide +kernel
theorem dL_law_949 : decode cL_law 949 = .ok (.iload_n 3, 1) := by decide +kernel
theorem dL_law_950 : decode cL_law 950 = .ok (.iconst 1, 1) := by decide +kernel
theorem dL_law_951 : decode cL_law 951 = .ok (.iadd, 1) := by decide +kernel
theorem dL_law_952 : decode cL_law 952 = .ok (.iaload, 1) := by decide +kernel
theorem dL_law_953 : decode cL_law 953 = .ok (.aload_n 0, 1) := by decide +kernel
theorem dL_law_954 : decode cL_law 954 = .ok (.iload_n 3, 1) := by decide +kernel
theorem dL_law_955 : decode cL_law 955 = .ok (.iconst 2, 1) := by decide +kernel
theorem dL_law_956 : decode cL_law 956 = .ok (.iadd, 1) := by decide +kernel
theorem dL_law_957 : decode cL_law 957 = .ok (.iaload, 1) := by decide +kernel
theorem dL_law_958 : decode cL_law 958 = .ok (.aload_n 0, 1) := by decide +kernel
theorem dL_law_959 : decode cL_law 959 = .ok (.iload_n 3, 1) := by decide +kernel
theorem dL_law_960 : decode cL_law 960 = .ok (.iconst 3, 1) := by decide +kernel
theorem dL_law_961 : decode cL_law 961 = .ok (.iadd, 1) := by decide +kernel
theorem dL_law_962 : decode cL_law 962 = .ok (.iaload, 1) := by decide +kernel
theorem dL_law_963 : decode cL_law 963 = .ok (.invokevirtual 95, 3) := by decide +kernel
theorem dL_law_966 : decode cL_law 966 = .ok (.aload_n 2, 1) := by decide +kernel
theorem dL_law_967 : decode cL_law 967 = .ok (.aload_n 0, 1) := by decide +kernel
theorem dL_law_968 : decode cL_law 968 = .ok (.iload_n 3, 1) := by decide +kernel
theorem dL_law_969 : decode cL_law 969 = .ok (.iconst 1, 1) := by decide +kernel
theorem dL_law_970 : decode cL_law 970 = .ok (.iadd, 1) := by decide +kernel
theorem dL_law_971 : decode cL_law 971 = .ok (.iaload, 1) := by decide +kernel
theorem dL_law_972 : decode cL_law 972 = .ok (.aload_n 0, 1) := by decide +kernel
theorem dL_law_973 : decode cL_law 973 = .ok (.iload_n 3, 1) := by decide +kernel
theorem dL_law_974 : decode cL_law 974 = .ok (.iconst 2, 1) := by decide +kernel
theorem dL_law_975 : decode cL_law 975 = .ok (.iadd, 1) := by decide +kernel
theorem dL_law_976 : decode cL_law 976 = .ok (.iaload, 1) := by decide +kernel
theorem dL_law_977 : decode cL_law 977 = .ok (.aload_n 0, 1) := by decide +kernel
theorem dL_law_978 : decode cL_law 978 = .ok (.iload_n 3, 1) := by decide +kernel
theorem dL_law_979 : decode cL_law 979 = .ok (.iconst 3, 1) := by decide +kernel
theorem dL_law_980 : decode cL_law 980 = .ok (.iadd, 1) := by decide +kernel
theorem dL_law_981 : decode cL_law 981 = .ok (.iaload, 1) := by decide +kernel
theorem dL_law_982 : decode cL_law 982 = .ok (.invokevirtual 98, 3) := by decide +kernel
theorem dL_law_985 : decode cL_law 985 = .ok (.if_icmp .eq 991, 3) := by decide +kernel
theorem dL_law_988 : decode cL_law 988 = .ok (.iconst 0, 1) := by decide +kernel
theorem dL_law_989 : decode cL_law 989 = .ok (.ireturn, 1) := by decide +kernel
theorem dL_law_990 : decode cL_law 990 = .ok (.aload_n 1, 1) := by decide +kernel
theorem dL_law_991 : decode cL_law 991 = .ok (.aload_n 0, 1) := by decide +kernel
theorem dL_law_992 : decode cL_law 992 = .ok (.iload_n 3, 1) := by decide +kernel
theorem dL_law_993 : decode cL_law 993 = .ok (.iconst 1, 1) := by decide +kernel
theorem dL_law_994 : decode cL_law 994 = .ok (.iadd, 1) := by decide +kernel
theorem dL_law_995 : decode cL_law 995 = .ok (.iaload, 1) := by decide +kernel
theorem dL_law_996 : decode cL_law 996 = .ok (.invokevirtual 99, 3) := by decide +kernel
theorem dL_law_999 : decode cL_law 999 = .ok (.aload_n 2, 1) := by decide +kernel
theorem dL_law_1000 : decode cL_law 1000 = .ok (.aload_n 0, 1) := by decide +kernel
theorem dL_law_1001 : decode cL_law 1001 = .ok (.iload_n 3, 1) := by decide +kernel
theorem dL_law_1002 : decode cL_law 1002 = .ok (.iconst 1, 1) := by decide +kernel
theorem dL_law_1003 : decode cL_law 1003 = .ok (.iadd, 1) := by decide +kernel
theorem dL_law_1004 : decode cL_law 1004 = .ok (.iaload, 1) := by decide +kernel
theorem dL_law_1005 : decode cL_law 1005 = .ok (.invokevirtual 102, 3) := by decide +kernel
theorem dL_law_1008 : decode cL_law 1008 = .ok (.if_icmp .eq 968, 3) := by decide +kernel
theorem dL_law_1011 : decode cL_law 1011 = .ok (.iconst 0, 1) := by decide +kernel
theorem dL_law_1012 : decode cL_law 1012 = .ok (.ireturn, 1) := by decide +kernel
theorem dL_law_1013 : decode cL_law 1013 = .ok (.aload_n 1, 1) := by decide +kernel
theorem dL_law_1014 : decode cL_law 1014 = .ok (.aload_n 0, 1) := by decide +kernel
theorem dL_law_1015 : decode cL_law 1015 = .ok (.iload_n 3, 1) := by decide +kernel
theorem dL_law_1016 : decode cL_law 1016 = .ok (.iconst 1, 1) := by decide +kernel
theorem dL_law_1017 : decode cL_law 1017 = .ok (.iadd, 1) := by decide +kernel
theorem dL_law_1018 : decode cL_law 1018 = .ok (.iaload, 1) := by decide +kernel
theorem dL_law_1019 : decode cL_law 1019 = .ok (.invokevirtual 103, 3) := by decide +kernel
theorem dL_law_1022 : decode cL_law 1022 = .ok (.aload_n 2, 1) := by decide +kernel
theorem dL_law_1023 : decode cL_law 1023 = .ok (.aload_n 0, 1) := by decide +kernel
theorem dL_law_1024 : decode cL_law 1024 = .ok (.iload_n 3, 1) := by decide +kernel
theorem dL_law_1025 : decode cL_law 1025 = .ok (.iconst 1, 1) := by decide +kernel
theorem dL_law_1026 : decode cL_law 1026 = .ok (.iadd, 1) := by decide +kernel
theorem dL_law_1027 : decode cL_law 1027 = .ok (.iaload, 1) := by decide +kernel
theorem dL_law_1028 : decode cL_law 1028 = .ok (.invokevirtual 106, 3) := by decide +kernel
theorem dL_law_1031 : decode cL_law 1031 = .ok (.if_icmp .eq 945, 3) := by decide +kernel
theorem dL_law_1034 : decode cL_law 1034 = .ok (.iconst 0, 1) := by decide +kernel
theorem dL_law_1035 : decode cL_law 1035 = .ok (.ireturn, 1) := by decide +kernel
theorem dL_law_1036 : decode cL_law 1036 = .ok (.aload_n 1, 1) := by decide +kernel
theorem dL_law_1037 : decode cL_law 1037 = .ok (.invokevirtual 107, 3) := by decide +kernel
theorem dL_law_1040 : decode cL_law 1040 = .ok (.aload_n 2, 1) := by decide +kernel
theorem dL_law_1041 : decode cL_law 1041 = .ok (.invokevirtual 111, 3) := by decide +kernel
theorem dL_law_1044 : decode cL_law 1044 = .ok (.if_icmp .eq 932, 3) := by decide +kernel
theorem dL_law_1047 : decode cL_law 1047 = .ok (.iconst 0, 1) := by decide +kernel
theorem dL_law_1048 : decode cL_law 1048 = .ok (.ireturn, 1) := by decide +kernel
theorem dL_law_1049 : decode cL_law 1049 = .ok (.aload_n 1, 1) := by decide +kernel
theorem dL_law_1050 : decode cL_law 1050 = .ok (.aload_n 0, 1) := by decide +kernel
theorem dL_law_1051 : decode cL_law 1051 = .ok (.iload_n 3, 1) := by decide +kernel
theorem dL_law_1052 : decode cL_law 1052 = .ok (.iconst 1, 1) := by decide +kernel
theorem dL_law_1053 : decode cL_law 1053 = .ok (.iadd, 1) := by decide +kernel
theorem dL_law_1054 : decode cL_law 1054 = .ok (.iaload, 1) := by decide +kernel
theorem dL_law_1055 : decode cL_law 1055 = .ok (.invokevirtual 112, 3) := by decide +kernel
theorem dL_law_1058 : decode cL_law 1058 = .ok (.aload_n 2, 1) := by decide +kernel
theorem dL_law_1059 : decode cL_law 1059 = .ok (.aload_n 0, 1) := by decide +kernel
theorem dL_law_1060 : decode cL_law 1060 = .ok (.iload_n 3, 1) := by decide +kernel
theorem dL_law_1061 : decode cL_law 1061 = .ok (.iconst 1, 1) := by decide +kernel
theorem dL_law_1062 : decode cL_law 1062 = .ok (.iadd, 1) := by decide +kernel
theorem dL_law_1063 : decode cL_law 1063 = .ok (.iaload, 1) := by decide +kernel
theorem dL_law_1064 : decode cL_law 1064 = .ok (.invokevirtual 115, 3) := by decide +kernel
theorem dL_law_1067 : decode cL_law 1067 = .ok (.if_icmp .eq 909, 3) := by decide +kernel
theorem dL_law_1070 : decode cL_law 1070 = .ok (.iconst 0, 1) := by decide +kernel
theorem dL_law_1071 : decode cL_law 1071 = .ok (.ireturn, 1) := by decide +kernel
theorem dL_law_1072 : decode cL_law 1072 = .ok (.aload_n 1, 1) := by decide +kernel
theorem dL_law_1073 : decode cL_law 1073 = .ok (.aload_n 0, 1) := by decide +kernel
theorem dL_law_1074 : decode cL_law 1074 = .ok (.iload_n 3, 1) := by decide +kernel
theorem dL_law_1075 : decode cL_law 1075 = .ok (.iconst 1, 1) := by decide +kernel
theorem dL_law_1076 : decode cL_law 1076 = .ok (.iadd, 1) := by decide +kernel
theorem dL_law_1077 : decode cL_law 1077 = .ok (.iaload, 1) := by decide +kernel
theorem dL_law_1078 : decode cL_law 1078 = .ok (.invokevirtual 116, 3) := by decide +kernel
theorem dL_law_1081 : decode cL_law 1081 = .ok (.aload_n 2, 1) := by decide +kernel
theorem dL_law_1082 : decode cL_law 1082 = .ok (.aload_n 0, 1) := by decide +kernel
theorem dL_law_1083 : decode cL_law 1083 = .ok (.iload_n 3, 1) := by decide +kernel
theorem dL_law_1084 : decode cL_law 1084 = .ok (.iconst 1, 1) := by decide +kernel
theorem dL_law_1085 : decode cL_law 1085 = .ok (.iadd, 1) := by decide +kernel
theorem dL_law_1086 : decode cL_law 1086 = .ok (.iaload, 1) := by decide +kernel
theorem dL_law_1087 : decode cL_law 1087 = .ok (.invokevirtual 119, 3) := by decide +kernel
theorem dL_law_1090 : decode cL_law 1090 = .ok (.if_icmp .eq 886, 3) := by decide +kernel
theorem dL_law_1093 : decode cL_law 1093 = .ok (.iconst 0, 1) := by decide +kernel
theorem dL_law_1094 : decode cL_law 1094 = .ok (.ireturn, 1) := by decide +kernel
theorem dL_law_1095 : decode cL_law 1095 = .ok (.aload_n 1, 1) := by decide +kernel
theorem dL_law_1096 : decode cL_law 1096 = .ok (.aload_n 0, 1) := by decide +kernel
theorem dL_law_1097 : decode cL_law 1097 = .ok (.iload_n 3, 1) := by decide +kernel
theorem dL_law_1098 : decode cL_law 1098 = .ok (.iconst 1, 1) := by decide +kernel
theorem dL_law_1099 : decode cL_law 1099 = .ok (.iadd, 1) := by decide +kernel
theorem dL_law_1100 : decode cL_law 1100 = .ok (.iaload, 1) := by decide +kernel
theorem dL_law_1101 : decode cL_law 1101 = .ok (.aload_n 0, 1) := by decide +kernel
theorem dL_law_1102 : decode cL_law 1102 = .ok (.iload_n 3, 1) := by decide +kernel
theorem dL_law_1103 : decode cL_law 1103 = .ok (.iconst 2, 1) := by decide +kernel
theorem dL_law_1104 : decode cL_law 1104 = .ok (.iadd, 1) := by decide +kernel
theorem dL_law_1105 : decode cL_law 1105 = .ok (.iaload, 1) := by decide +kernel
theorem dL_law_1106 : decode cL_law 1106 = .ok (.invokevirtual 120, 3) := by decide +kernel
theorem dL_law_1109 : decode cL_law 1109 = .ok (.aload_n 2, 1) := by decide +kernel
theorem dL_law_1110 : decode cL_law 1110 = .ok (.aload_n 0, 1) := by decide +kernel
theorem dL_law_1111 : decode cL_law 1111 = .ok (.iload_n 3, 1) := by decide +kernel
theorem dL_law_1112 : decode cL_law 1112 = .ok (.iconst 1, 1) := by decide +kernel
theorem dL_law_1113 : decode cL_law 1113 = .ok (.iadd, 1) := by decide +kernel
theorem dL_law_1114 : decode cL_law 1114 = .ok (.iaload, 1) := by decide +kernel
theorem dL_law_1115 : decode cL_law 1115 = .ok (.aload_n 0, 1) := by decide +kernel
theorem dL_law_1116 : decode cL_law 1116 = .ok (.iload_n 3, 1) := by decide +kernel
theorem dL_law_1117 : decode cL_law 1117 = .ok (.iconst 2, 1) := by decide +kernel
theorem dL_law_1118 : decode cL_law 1118 = .ok (.iadd, 1) := by decide +kernel
theorem dL_law_1119 : decode cL_law 1119 = .ok (.iaload, 1) := by decide +kernel
theorem dL_law_1120 : decode cL_law 1120 = .ok (.invokevirtual 123, 3) := by decide +kernel
theorem dL_law_1123 : decode cL_law 1123 = .ok (.if_icmp .eq 853, 3) := by decide +kernel
theorem dL_law_1126 : decode cL_law 1126 = .ok (.iconst 0, 1) := by decide +kernel
theorem dL_law_1127 : decode cL_law 1127 = .ok (.ireturn, 1) := by decide +kernel
theorem dL_law_1128 : decode cL_law 1128 = .ok (.aload_n 1, 1) := by decide +kernel
theorem dL_law_1129 : decode cL_law 1129 = .ok (.aload_n 0, 1) := by decide +kernel
theorem dL_law_1130 : decode cL_law 1130 = .ok (.iload_n 3, 1) := by decide +kernel
theorem dL_law_1131 : decode cL_law 1131 = .ok (.iconst 1, 1) := by decide +kernel
theorem dL_law_1132 : decode cL_law 1132 = .ok (.iadd, 1) := by decide +kernel
theorem dL_law_1133 : decode cL_law 1133 = .ok (.iaload, 1) := by decide +kernel
theorem dL_law_1134 : decode cL_law 1134 = .ok (.invokevirtual 124, 3) := by decide +kernel
