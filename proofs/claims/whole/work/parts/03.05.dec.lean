theorem dX12_number_48 : decode cX12_number 48 = .ok (.isub, 1) := by decide +kernel
theorem dX12_number_49 : decode cX12_number 49 = .ok (.istore 5, 2) := by decide +kernel
theorem dX12_number_51 : decode cX12_number 51 = .ok (.aload_n 0, 1) := by decide +kernel
theorem dX12_number_52 : decode cX12_number 52 = .ok (.dup, 1) := by decide +kernel
theorem dX12_number_53 : decode cX12_number 53 = .ok (.getfield 114, 3) := by decide +kernel
theorem dX12_number_56 : decode cX12_number 56 = .ok (.iconst 1, 1) := by decide +kernel
theorem dX12_number_57 : decode cX12_number 57 = .ok (.iadd, 1) := by decide +kernel
theorem dX12_number_58 : decode cX12_number 58 = .ok (.putfield 114, 3) := by decide +kernel
theorem dX12_number_61 : decode cX12_number 61 = .ok (.iinc 4 1, 3) := by decide +kernel
theorem dX12_number_64 : decode cX12_number 64 = .ok (.goto (-58), 3) := by decide +kernel
theorem dX12_number_67 : decode cX12_number 67 = .ok (.aload_n 0, 1) := by decide +kernel
theorem dX12_number_68 : decode cX12_number 68 = .ok (.iload 5, 2) := by decide +kernel
theorem dX12_number_70 : decode cX12_number 70 = .ok (.putfield 120, 3) := by decide +kernel
theorem dX12_number_73 : decode cX12_number 73 = .ok (.iload 4, 2) := by decide +kernel
theorem dX12_number_75 : decode cX12_number 75 = .ok (.ifCond .le 17, 3) := by decide +kernel
theorem dX12_number_78 : decode cX12_number 78 = .ok (.iload 5, 2) := by decide +kernel
theorem dX12_number_80 : decode cX12_number 80 = .ok (.iload_n 2, 1) := by decide +kernel
theorem dX12_number_81 : decode cX12_number 81 = .ok (.iload_n 3, 1) := by decide +kernel
theorem dX12_number_82 : decode cX12_number 82 = .ok (.invokestatic 86, 3) := by decide +kernel
theorem dX12_number_85 : decode cX12_number 85 = .ok (.ifCond .eq 7, 3) := by decide +kernel
theorem dX12_number_88 : decode cX12_number 88 = .ok (.iconst 1, 1) := by decide +kernel
theorem dX12_number_89 : decode cX12_number 89 = .ok (.goto 4, 3) := by decide +kernel
theorem dX12_number_92 : decode cX12_number 92 = .ok (.iconst 0, 1) := by decide +kernel
theorem dX12_number_93 : decode cX12_number 93 = .ok (.ireturn, 1) := by decide +kernel
theorem dX12_figure_0 : decode cX12_figure 0 = .ok (.aload_n 0, 1) := by decide +kernel
theorem dX12_figure_1 : decode cX12_figure 1 = .ok (.aload_n 0, 1) := by decide +kernel
theorem dX12_figure_2 : decode cX12_figure 2 = .ok (.iload_n 1, 1) := by decide +kernel
theorem dX12_figure_3 : decode cX12_figure 3 = .ok (.aload_n 0, 1) := by decide +kernel
theorem dX12_figure_4 : decode cX12_figure 4 = .ok (.getfield 114, 3) := by decide +kernel
theorem dX12_figure_7 : decode cX12_figure 7 = .ok (.invokevirtual 117, 3) := by decide +kernel
theorem dX12_figure_10 : decode cX12_figure 10 = .ok (.bipush 48, 2) := by decide +kernel
theorem dX12_figure_12 : decode cX12_figure 12 = .ok (.isub, 1) := by decide +kernel
theorem dX12_figure_13 : decode cX12_figure 13 = .ok (.putfield 120, 3) := by decide +kernel
theorem dX12_figure_16 : decode cX12_figure 16 = .ok (.aload_n 0, 1) := by decide +kernel
theorem dX12_figure_17 : decode cX12_figure 17 = .ok (.getfield 120, 3) := by decide +kernel
theorem dX12_figure_20 : decode cX12_figure 20 = .ok (.iload_n 2, 1) := by decide +kernel
theorem dX12_figure_21 : decode cX12_figure 21 = .ok (.bipush 9, 2) := by decide +kernel
theorem dX12_figure_23 : decode cX12_figure 23 = .ok (.invokestatic 86, 3) := by decide +kernel
theorem dX12_figure_26 : decode cX12_figure 26 = .ok (.istore_n 3, 1) := by decide +kernel
theorem dX12_figure_27 : decode cX12_figure 27 = .ok (.aload_n 0, 1) := by decide +kernel
theorem dX12_figure_28 : decode cX12_figure 28 = .ok (.dup, 1) := by decide +kernel
theorem dX12_figure_29 : decode cX12_figure 29 = .ok (.getfield 114, 3) := by decide +kernel
theorem dX12_figure_32 : decode cX12_figure 32 = .ok (.iload_n 3, 1) := by decide +kernel
theorem dX12_figure_33 : decode cX12_figure 33 = .ok (.ifCond .eq 7, 3) := by decide +kernel
theorem dX12_figure_36 : decode cX12_figure 36 = .ok (.iconst 1, 1) := by decide +kernel
theorem dX12_figure_37 : decode cX12_figure 37 = .ok (.goto 4, 3) := by decide +kernel
theorem dX12_figure_40 : decode cX12_figure 40 = .ok (.iconst 0, 1) := by decide +kernel
theorem dX12_figure_41 : decode cX12_figure 41 = .ok (.iadd, 1) := by decide +kernel
theorem dX12_figure_42 : decode cX12_figure 42 = .ok (.putfield 114, 3) := by decide +kernel
theorem dX12_figure_45 : decode cX12_figure 45 = .ok (.iload_n 3, 1) := by decide +kernel
theorem dX12_figure_46 : decode cX12_figure 46 = .ok (.ireturn, 1) := by decide +kernel
theorem dX12_readsCells_0 : decode cX12_readsCells 0 = .ok (.aload_n 0, 1) := by decide +kernel
theorem dX12_readsCells_1 : decode cX12_readsCells 1 = .ok (.iload_n 1, 1) := by decide +kernel
theorem dX12_readsCells_2 : decode cX12_readsCells 2 = .ok (.bipush 99, 2) := by decide +kernel
theorem dX12_readsCells_4 : decode cX12_readsCells 4 = .ok (.invokevirtual 123, 3) := by decide +kernel
theorem dX12_readsCells_7 : decode cX12_readsCells 7 = .ok (.ifCond .eq 14, 3) := by decide +kernel
theorem dX12_readsCells_10 : decode cX12_readsCells 10 = .ok (.aload_n 0, 1) := by decide +kernel
theorem dX12_readsCells_11 : decode cX12_readsCells 11 = .ok (.iload_n 1, 1) := by decide +kernel
theorem dX12_readsCells_12 : decode cX12_readsCells 12 = .ok (.iconst 3, 1) := by decide +kernel
theorem dX12_readsCells_13 : decode cX12_readsCells 13 = .ok (.bipush 16, 2) := by decide +kernel
theorem dX12_readsCells_15 : decode cX12_readsCells 15 = .ok (.invokevirtual 127, 3) := by decide +kernel
theorem dX12_readsCells_18 : decode cX12_readsCells 18 = .ok (.ifCond .ne 5, 3) := by decide +kernel
theorem dX12_readsCells_21 : decode cX12_readsCells 21 = .ok (.iconst 0, 1) := by decide +kernel
theorem dX12_readsCells_22 : decode cX12_readsCells 22 = .ok (.ireturn, 1) := by decide +kernel
theorem dX12_readsCells_23 : decode cX12_readsCells 23 = .ok (.aload_n 0, 1) := by decide +kernel
theorem dX12_readsCells_24 : decode cX12_readsCells 24 = .ok (.getfield 45, 3) := by decide +kernel
theorem dX12_readsCells_27 : decode cX12_readsCells 27 = .ok (.iconst 0, 1) := by decide +kernel
theorem dX12_readsCells_28 : decode cX12_readsCells 28 = .ok (.aload_n 0, 1) := by decide +kernel
theorem dX12_readsCells_29 : decode cX12_readsCells 29 = .ok (.getfield 120, 3) := by decide +kernel
theorem dX12_readsCells_32 : decode cX12_readsCells 32 = .ok (.iastore, 1) := by decide +kernel
theorem dX12_readsCells_33 : decode cX12_readsCells 33 = .ok (.iconst 1, 1) := by decide +kernel
theorem dX12_readsCells_34 : decode cX12_readsCells 34 = .ok (.ireturn, 1) := by decide +kernel
theorem dX12_readsItem_0 : decode cX12_readsItem 0 = .ok (.aload_n 0, 1) := by decide +kernel
theorem dX12_readsItem_1 : decode cX12_readsItem 1 = .ok (.iload_n 1, 1) := by decide +kernel
theorem dX12_readsItem_2 : decode cX12_readsItem 2 = .ok (.aload_n 0, 1) := by decide +kernel
theorem dX12_readsItem_3 : decode cX12_readsItem 3 = .ok (.getfield 114, 3) := by decide +kernel
theorem dX12_readsItem_6 : decode cX12_readsItem 6 = .ok (.invokevirtual 117, 3) := by decide +kernel
theorem dX12_readsItem_9 : decode cX12_readsItem 9 = .ok (.istore_n 2, 1) := by decide +kernel
theorem dX12_readsItem_10 : decode cX12_readsItem 10 = .ok (.aload_n 0, 1) := by decide +kernel
theorem dX12_readsItem_11 : decode cX12_readsItem 11 = .ok (.getfield 45, 3) := by decide +kernel
theorem dX12_readsItem_14 : decode cX12_readsItem 14 = .ok (.iconst 0, 1) := by decide +kernel
theorem dX12_readsItem_15 : decode cX12_readsItem 15 = .ok (.iaload, 1) := by decide +kernel
theorem dX12_readsItem_16 : decode cX12_readsItem 16 = .ok (.iconst 1, 1) := by decide +kernel
theorem dX12_readsItem_17 : decode cX12_readsItem 17 = .ok (.isub, 1) := by decide +kernel
theorem dX12_readsItem_18 : decode cX12_readsItem 18 = .ok (.istore_n 3, 1) := by decide +kernel
theorem dX12_readsItem_19 : decode cX12_readsItem 19 = .ok (.iload_n 2, 1) := by decide +kernel
theorem dX12_readsItem_20 : decode cX12_readsItem 20 = .ok (.bipush 100, 2) := by decide +kernel
theorem dX12_readsItem_22 : decode cX12_readsItem 22 = .ok (.if_icmp .eq 23, 3) := by decide +kernel
theorem dX12_readsItem_25 : decode cX12_readsItem 25 = .ok (.iload_n 2, 1) := by decide +kernel
theorem dX12_readsItem_26 : decode cX12_readsItem 26 = .ok (.bipush 119, 2) := by decide +kernel
theorem dX12_readsItem_28 : decode cX12_readsItem 28 = .ok (.if_icmp .eq 17, 3) := by decide +kernel
theorem dX12_readsItem_31 : decode cX12_readsItem 31 = .ok (.iload_n 2, 1) := by decide +kernel
theorem dX12_readsItem_32 : decode cX12_readsItem 32 = .ok (.bipush 109, 2) := by decide +kernel
theorem dX12_readsItem_34 : decode cX12_readsItem 34 = .ok (.if_icmp .eq 11, 3) := by decide +kernel
theorem dX12_readsItem_37 : decode cX12_readsItem 37 = .ok (.iload_n 2, 1) := by decide +kernel
theorem dX12_readsItem_38 : decode cX12_readsItem 38 = .ok (.bipush 114, 2) := by decide +kernel
theorem dX12_readsItem_40 : decode cX12_readsItem 40 = .ok (.if_icmp .eq 5, 3) := by decide +kernel
theorem dX12_readsItem_43 : decode cX12_readsItem 43 = .ok (.iconst 0, 1) := by decide +kernel
theorem dX12_readsItem_44 : decode cX12_readsItem 44 = .ok (.ireturn, 1) := by decide +kernel
theorem dX12_readsItem_45 : decode cX12_readsItem 45 = .ok (.aload_n 0, 1) := by decide +kernel
theorem dX12_readsItem_46 : decode cX12_readsItem 46 = .ok (.dup, 1) := by decide +kernel
theorem dX12_readsItem_47 : decode cX12_readsItem 47 = .ok (.getfield 114, 3) := by decide +kernel
theorem dX12_readsItem_50 : decode cX12_readsItem 50 = .ok (.iconst 1, 1) := by decide +kernel
theorem dX12_readsItem_51 : decode cX12_readsItem 51 = .ok (.iadd, 1) := by decide +kernel
theorem dX12_readsItem_52 : decode cX12_readsItem 52 = .ok (.putfield 114, 3) := by decide +kernel
theorem dX12_readsItem_55 : decode cX12_readsItem 55 = .ok (.iload_n 2, 1) := by decide +kernel
theorem dX12_readsItem_56 : decode cX12_readsItem 56 = .ok (.bipush 114, 2) := by decide +kernel
theorem dX12_readsItem_58 : decode cX12_readsItem 58 = .ok (.if_icmp .ne 38, 3) := by decide +kernel
theorem dX12_readsItem_61 : decode cX12_readsItem 61 = .ok (.aload_n 0, 1) := by decide +kernel
theorem dX12_readsItem_62 : decode cX12_readsItem 62 = .ok (.iload_n 1, 1) := by decide +kernel
theorem dX12_readsItem_63 : decode cX12_readsItem 63 = .ok (.iconst 0, 1) := by decide +kernel
theorem dX12_readsItem_64 : decode cX12_readsItem 64 = .ok (.invokevirtual 130, 3) := by decide +kernel
theorem dX12_readsItem_67 : decode cX12_readsItem 67 = .ok (.istore 4, 2) := by decide +kernel
theorem dX12_readsItem_69 : decode cX12_readsItem 69 = .ok (.aload_n 0, 1) := by decide +kernel
theorem dX12_readsItem_70 : decode cX12_readsItem 70 = .ok (.getfield 45, 3) := by decide +kernel
theorem dX12_readsItem_73 : decode cX12_readsItem 73 = .ok (.iconst 3, 1) := by decide +kernel
theorem dX12_readsItem_74 : decode cX12_readsItem 74 = .ok (.iload 4, 2) := by decide +kernel
theorem dX12_readsItem_76 : decode cX12_readsItem 76 = .ok (.ifCond .eq 10, 3) := by decide +kernel
theorem dX12_readsItem_79 : decode cX12_readsItem 79 = .ok (.aload_n 0, 1) := by decide +kernel
theorem dX12_readsItem_80 : decode cX12_readsItem 80 = .ok (.getfield 120, 3) := by decide +kernel
theorem dX12_readsItem_83 : decode cX12_readsItem 83 = .ok (.goto 9, 3) := by decide +kernel
theorem dX12_readsItem_86 : decode cX12_readsItem 86 = .ok (.aload_n 0, 1) := by decide +kernel
theorem dX12_readsItem_87 : decode cX12_readsItem 87 = .ok (.getfield 45, 3) := by decide +kernel
theorem dX12_readsItem_90 : decode cX12_readsItem 90 = .ok (.iconst 3, 1) := by decide +kernel
theorem dX12_readsItem_91 : decode cX12_readsItem 91 = .ok (.iaload, 1) := by decide +kernel
theorem dX12_readsItem_92 : decode cX12_readsItem 92 = .ok (.iastore, 1) := by decide +kernel
theorem dX12_readsItem_93 : decode cX12_readsItem 93 = .ok (.iload 4, 2) := by decide +kernel
theorem dX12_readsItem_95 : decode cX12_readsItem 95 = .ok (.ireturn, 1) := by decide +kernel
theorem dX12_readsItem_96 : decode cX12_readsItem 96 = .ok (.aload_n 0, 1) := by decide +kernel
theorem dX12_readsItem_97 : decode cX12_readsItem 97 = .ok (.iload_n 1, 1) := by decide +kernel
theorem dX12_readsItem_98 : decode cX12_readsItem 98 = .ok (.iconst 0, 1) := by decide +kernel
theorem dX12_readsItem_99 : decode cX12_readsItem 99 = .ok (.iload_n 2, 1) := by decide +kernel
theorem dX12_readsItem_100 : decode cX12_readsItem 100 = .ok (.bipush 119, 2) := by decide +kernel
theorem dX12_readsItem_102 : decode cX12_readsItem 102 = .ok (.if_icmp .ne 9, 3) := by decide +kernel
theorem dX12_readsItem_105 : decode cX12_readsItem 105 = .ok (.iload_n 3, 1) := by decide +kernel
theorem dX12_readsItem_106 : decode cX12_readsItem 106 = .ok (.iconst 1, 1) := by decide +kernel
theorem dX12_readsItem_107 : decode cX12_readsItem 107 = .ok (.isub, 1) := by decide +kernel
theorem dX12_readsItem_108 : decode cX12_readsItem 108 = .ok (.goto 4, 3) := by decide +kernel
theorem dX12_readsItem_111 : decode cX12_readsItem 111 = .ok (.iload_n 3, 1) := by decide +kernel
theorem dX12_readsItem_112 : decode cX12_readsItem 112 = .ok (.invokevirtual 127, 3) := by decide +kernel
theorem dX12_readsItem_115 : decode cX12_readsItem 115 = .ok (.ifCond .ne 5, 3) := by decide +kernel
theorem dX12_readsItem_118 : decode cX12_readsItem 118 = .ok (.iconst 0, 1) := by decide +kernel
theorem dX12_readsItem_119 : decode cX12_readsItem 119 = .ok (.ireturn, 1) := by decide +kernel
theorem dX12_readsItem_120 : decode cX12_readsItem 120 = .ok (.aload_n 0, 1) := by decide +kernel
theorem dX12_readsItem_121 : decode cX12_readsItem 121 = .ok (.getfield 120, 3) := by decide +kernel
theorem dX12_readsItem_124 : decode cX12_readsItem 124 = .ok (.istore 4, 2) := by decide +kernel
theorem dX12_readsItem_126 : decode cX12_readsItem 126 = .ok (.iload_n 2, 1) := by decide +kernel
theorem dX12_readsItem_127 : decode cX12_readsItem 127 = .ok (.bipush 119, 2) := by decide +kernel
theorem dX12_readsItem_129 : decode cX12_readsItem 129 = .ok (.if_icmp .ne 18, 3) := by decide +kernel
theorem dX12_readsItem_132 : decode cX12_readsItem 132 = .ok (.aload_n 0, 1) := by decide +kernel
theorem dX12_readsItem_133 : decode cX12_readsItem 133 = .ok (.getfield 45, 3) := by decide +kernel
theorem dX12_readsItem_136 : decode cX12_readsItem 136 = .ok (.iconst 4, 1) := by decide +kernel
theorem dX12_readsItem_137 : decode cX12_readsItem 137 = .ok (.dup2, 1) := by decide +kernel
theorem dX12_readsItem_138 : decode cX12_readsItem 138 = .ok (.iaload, 1) := by decide +kernel
theorem dX12_readsItem_139 : decode cX12_readsItem 139 = .ok (.iconst 1, 1) := by decide +kernel
theorem dX12_readsItem_140 : decode cX12_readsItem 140 = .ok (.iload 4, 2) := by decide +kernel
theorem dX12_readsItem_142 : decode cX12_readsItem 142 = .ok (.ishl, 1) := by decide +kernel
theorem dX12_readsItem_143 : decode cX12_readsItem 143 = .ok (.ior, 1) := by decide +kernel
theorem dX12_readsItem_144 : decode cX12_readsItem 144 = .ok (.iastore, 1) := by decide +kernel
theorem dX12_readsItem_145 : decode cX12_readsItem 145 = .ok (.iconst 1, 1) := by decide +kernel
theorem dX12_readsItem_146 : decode cX12_readsItem 146 = .ok (.ireturn, 1) := by decide +kernel
theorem dX12_readsItem_147 : decode cX12_readsItem 147 = .ok (.aload_n 0, 1) := by decide +kernel
theorem dX12_readsItem_148 : decode cX12_readsItem 148 = .ok (.iload_n 1, 1) := by decide +kernel
theorem dX12_readsItem_149 : decode cX12_readsItem 149 = .ok (.bipush 58, 2) := by decide +kernel
theorem dX12_readsItem_151 : decode cX12_readsItem 151 = .ok (.invokevirtual 123, 3) := by decide +kernel
theorem dX12_readsItem_154 : decode cX12_readsItem 154 = .ok (.ifCond .eq 22, 3) := by decide +kernel
theorem dX12_readsItem_157 : decode cX12_readsItem 157 = .ok (.aload_n 0, 1) := by decide +kernel
theorem dX12_readsItem_158 : decode cX12_readsItem 158 = .ok (.iload_n 1, 1) := by decide +kernel
theorem dX12_readsItem_159 : decode cX12_readsItem 159 = .ok (.iload_n 2, 1) := by decide +kernel
theorem dX12_readsItem_160 : decode cX12_readsItem 160 = .ok (.bipush 100, 2) := by decide +kernel
theorem dX12_readsItem_162 : decode cX12_readsItem 162 = .ok (.if_icmp .ne 7, 3) := by decide +kernel
theorem dX12_readsItem_165 : decode cX12_readsItem 165 = .ok (.iconst 1, 1) := by decide +kernel
theorem dX12_readsItem_166 : decode cX12_readsItem 166 = .ok (.goto 4, 3) := by decide +kernel
theorem dX12_readsItem_169 : decode cX12_readsItem 169 = .ok (.iconst 0, 1) := by decide +kernel
theorem dX12_readsItem_170 : decode cX12_readsItem 170 = .ok (.invokevirtual 130, 3) := by decide +kernel
theorem dX12_readsItem_173 : decode cX12_readsItem 173 = .ok (.ifCond .ne 5, 3) := by decide +kernel
theorem dX12_readsItem_176 : decode cX12_readsItem 176 = .ok (.iconst 0, 1) := by decide +kernel
theorem dX12_readsItem_177 : decode cX12_readsItem 177 = .ok (.ireturn, 1) := by decide +kernel
theorem dX12_readsItem_178 : decode cX12_readsItem 178 = .ok (.iload_n 2, 1) := by decide +kernel
theorem dX12_readsItem_179 : decode cX12_readsItem 179 = .ok (.bipush 100, 2) := by decide +kernel
theorem dX12_readsItem_181 : decode cX12_readsItem 181 = .ok (.if_icmp .ne 19, 3) := by decide +kernel
theorem dX12_readsItem_184 : decode cX12_readsItem 184 = .ok (.aload_n 0, 1) := by decide +kernel
theorem dX12_readsItem_185 : decode cX12_readsItem 185 = .ok (.getfield 45, 3) := by decide +kernel
theorem dX12_readsItem_188 : decode cX12_readsItem 188 = .ok (.iconst 5, 1) := by decide +kernel
theorem dX12_readsItem_189 : decode cX12_readsItem 189 = .ok (.iload 4, 2) := by decide +kernel
theorem dX12_readsItem_191 : decode cX12_readsItem 191 = .ok (.iadd, 1) := by decide +kernel
theorem dX12_readsItem_192 : decode cX12_readsItem 192 = .ok (.aload_n 0, 1) := by decide +kernel
theorem dX12_readsItem_193 : decode cX12_readsItem 193 = .ok (.getfield 120, 3) := by decide +kernel
theorem dX12_readsItem_196 : decode cX12_readsItem 196 = .ok (.iastore, 1) := by decide +kernel
theorem dX12_readsItem_197 : decode cX12_readsItem 197 = .ok (.goto 21, 3) := by decide +kernel
theorem dX12_readsItem_200 : decode cX12_readsItem 200 = .ok (.aload_n 0, 1) := by decide +kernel
theorem dX12_readsItem_201 : decode cX12_readsItem 201 = .ok (.getfield 45, 3) := by decide +kernel
theorem dX12_readsItem_204 : decode cX12_readsItem 204 = .ok (.iconst 1, 1) := by decide +kernel
theorem dX12_readsItem_205 : decode cX12_readsItem 205 = .ok (.iload 4, 2) := by decide +kernel
theorem dX12_readsItem_207 : decode cX12_readsItem 207 = .ok (.iastore, 1) := by decide +kernel
theorem dX12_readsItem_208 : decode cX12_readsItem 208 = .ok (.aload_n 0, 1) := by decide +kernel
theorem dX12_readsItem_209 : decode cX12_readsItem 209 = .ok (.getfield 45, 3) := by decide +kernel
theorem dX12_readsItem_212 : decode cX12_readsItem 212 = .ok (.iconst 2, 1) := by decide +kernel
theorem dX12_readsItem_213 : decode cX12_readsItem 213 = .ok (.aload_n 0, 1) := by decide +kernel
theorem dX12_readsItem_214 : decode cX12_readsItem 214 = .ok (.getfield 120, 3) := by decide +kernel
theorem dX12_readsItem_217 : decode cX12_readsItem 217 = .ok (.iastore, 1) := by decide +kernel
theorem dX12_readsItem_218 : decode cX12_readsItem 218 = .ok (.iconst 1, 1) := by decide +kernel
theorem dX12_readsItem_219 : decode cX12_readsItem 219 = .ok (.ireturn, 1) := by decide +kernel
theorem dX12_harbourFault_0 : decode cX12_harbourFault 0 = .ok (.aload_n 0, 1) := by decide +kernel
theorem dX12_harbourFault_1 : decode cX12_harbourFault 1 = .ok (.iconst 0, 1) := by decide +kernel
theorem dX12_harbourFault_2 : decode cX12_harbourFault 2 = .ok (.putfield 114, 3) := by decide +kernel
theorem dX12_harbourFault_5 : decode cX12_harbourFault 5 = .ok (.iconst 0, 1) := by decide +kernel
theorem dX12_harbourFault_6 : decode cX12_harbourFault 6 = .ok (.istore_n 2, 1) := by decide +kernel
theorem dX12_harbourFault_7 : decode cX12_harbourFault 7 = .ok (.iload_n 2, 1) := by decide +kernel
theorem dX12_harbourFault_8 : decode cX12_harbourFault 8 = .ok (.bipush 21, 2) := by decide +kernel
theorem dX12_harbourFault_10 : decode cX12_harbourFault 10 = .ok (.if_icmp .ge 39, 3) := by decide +kernel
theorem dX12_harbourFault_13 : decode cX12_harbourFault 13 = .ok (.aload_n 0, 1) := by decide +kernel
theorem dX12_harbourFault_14 : decode cX12_harbourFault 14 = .ok (.getfield 45, 3) := by decide +kernel
theorem dX12_harbourFault_17 : decode cX12_harbourFault 17 = .ok (.iload_n 2, 1) := by decide +kernel
theorem dX12_harbourFault_18 : decode cX12_harbourFault 18 = .ok (.iload_n 2, 1) := by decide +kernel
theorem dX12_harbourFault_19 : decode cX12_harbourFault 19 = .ok (.iconst 5, 1) := by decide +kernel
theorem dX12_harbourFault_20 : decode cX12_harbourFault 20 = .ok (.if_icmp .ge 8, 3) := by decide +kernel
theorem dX12_harbourFault_23 : decode cX12_harbourFault 23 = .ok (.iload_n 2, 1) := by decide +kernel
theorem dX12_harbourFault_24 : decode cX12_harbourFault 24 = .ok (.iconst 2, 1) := by decide +kernel
theorem dX12_harbourFault_25 : decode cX12_harbourFault 25 = .ok (.if_icmp .ne 7, 3) := by decide +kernel
theorem dX12_harbourFault_28 : decode cX12_harbourFault 28 = .ok (.iconst 4, 1) := by decide +kernel
theorem dX12_harbourFault_29 : decode cX12_harbourFault 29 = .ok (.goto 13, 3) := by decide +kernel
theorem dX12_harbourFault_32 : decode cX12_harbourFault 32 = .ok (.iload_n 2, 1) := by decide +kernel
theorem dX12_harbourFault_33 : decode cX12_harbourFault 33 = .ok (.iconst 3, 1) := by decide +kernel
theorem dX12_harbourFault_34 : decode cX12_harbourFault 34 = .ok (.if_icmp .ne 7, 3) := by decide +kernel
theorem dX12_harbourFault_37 : decode cX12_harbourFault 37 = .ok (.iconst 1, 1) := by decide +kernel
theorem dX12_harbourFault_38 : decode cX12_harbourFault 38 = .ok (.goto 4, 3) := by decide +kernel
theorem dX12_harbourFault_41 : decode cX12_harbourFault 41 = .ok (.iconst 0, 1) := by decide +kernel
theorem dX12_harbourFault_42 : decode cX12_harbourFault 42 = .ok (.iastore, 1) := by decide +kernel
theorem dX12_harbourFault_43 : decode cX12_harbourFault 43 = .ok (.iinc 2 1, 3) := by decide +kernel
theorem dX12_harbourFault_46 : decode cX12_harbourFault 46 = .ok (.goto (-39), 3) := by decide +kernel
theorem dX12_harbourFault_49 : decode cX12_harbourFault 49 = .ok (.aload_n 0, 1) := by decide +kernel
theorem dX12_harbourFault_50 : decode cX12_harbourFault 50 = .ok (.getfield 114, 3) := by decide +kernel
theorem dX12_harbourFault_53 : decode cX12_harbourFault 53 = .ok (.aload_n 0, 1) := by decide +kernel
theorem dX12_harbourFault_54 : decode cX12_harbourFault 54 = .ok (.getfield 22, 3) := by decide +kernel
theorem dX12_harbourFault_57 : decode cX12_harbourFault 57 = .ok (.iload_n 1, 1) := by decide +kernel
theorem dX12_harbourFault_58 : decode cX12_harbourFault 58 = .ok (.iaload, 1) := by decide +kernel
theorem dX12_harbourFault_59 : decode cX12_harbourFault 59 = .ok (.if_icmp .ge 63, 3) := by decide +kernel
theorem dX12_harbourFault_62 : decode cX12_harbourFault 62 = .ok (.aload_n 0, 1) := by decide +kernel
theorem dX12_harbourFault_63 : decode cX12_harbourFault 63 = .ok (.iload_n 1, 1) := by decide +kernel
theorem dX12_harbourFault_64 : decode cX12_harbourFault 64 = .ok (.aload_n 0, 1) := by decide +kernel
theorem dX12_harbourFault_65 : decode cX12_harbourFault 65 = .ok (.getfield 114, 3) := by decide +kernel
theorem dX12_harbourFault_68 : decode cX12_harbourFault 68 = .ok (.invokevirtual 117, 3) := by decide +kernel
theorem dX12_harbourFault_71 : decode cX12_harbourFault 71 = .ok (.bipush 32, 2) := by decide +kernel
theorem dX12_harbourFault_73 : decode cX12_harbourFault 73 = .ok (.if_icmp .ne 16, 3) := by decide +kernel
theorem dX12_harbourFault_76 : decode cX12_harbourFault 76 = .ok (.aload_n 0, 1) := by decide +kernel
theorem dX12_harbourFault_77 : decode cX12_harbourFault 77 = .ok (.dup, 1) := by decide +kernel
theorem dX12_harbourFault_78 : decode cX12_harbourFault 78 = .ok (.getfield 114, 3) := by decide +kernel
theorem dX12_harbourFault_81 : decode cX12_harbourFault 81 = .ok (.iconst 1, 1) := by decide +kernel
theorem dX12_harbourFault_82 : decode cX12_harbourFault 82 = .ok (.iadd, 1) := by decide +kernel
theorem dX12_harbourFault_83 : decode cX12_harbourFault 83 = .ok (.putfield 114, 3) := by decide +kernel
theorem dX12_harbourFault_86 : decode cX12_harbourFault 86 = .ok (.goto (-37), 3) := by decide +kernel
theorem dX12_harbourFault_89 : decode cX12_harbourFault 89 = .ok (.aload_n 0, 1) := by decide +kernel
theorem dX12_harbourFault_90 : decode cX12_harbourFault 90 = .ok (.getfield 45, 3) := by decide +kernel
theorem dX12_harbourFault_93 : decode cX12_harbourFault 93 = .ok (.iconst 0, 1) := by decide +kernel
theorem dX12_harbourFault_94 : decode cX12_harbourFault 94 = .ok (.iaload, 1) := by decide +kernel
theorem dX12_harbourFault_95 : decode cX12_harbourFault 95 = .ok (.ifCond .ne 14, 3) := by decide +kernel
theorem dX12_harbourFault_98 : decode cX12_harbourFault 98 = .ok (.aload_n 0, 1) := by decide +kernel
theorem dX12_harbourFault_99 : decode cX12_harbourFault 99 = .ok (.iload_n 1, 1) := by decide +kernel
theorem dX12_harbourFault_100 : decode cX12_harbourFault 100 = .ok (.invokevirtual 133, 3) := by decide +kernel
theorem dX12_harbourFault_103 : decode cX12_harbourFault 103 = .ok (.ifCond .eq 14, 3) := by decide +kernel
theorem dX12_harbourFault_106 : decode cX12_harbourFault 106 = .ok (.goto (-57), 3) := by decide +kernel
theorem dX12_harbourFault_109 : decode cX12_harbourFault 109 = .ok (.aload_n 0, 1) := by decide +kernel
theorem dX12_harbourFault_110 : decode cX12_harbourFault 110 = .ok (.iload_n 1, 1) := by decide +kernel
theorem dX12_harbourFault_111 : decode cX12_harbourFault 111 = .ok (.invokevirtual 136, 3) := by decide +kernel
theorem dX12_harbourFault_114 : decode cX12_harbourFault 114 = .ok (.ifCond .ne (-65), 3) := by decide +kernel
theorem dX12_harbourFault_117 : decode cX12_harbourFault 117 = .ok (.aload_n 0, 1) := by decide +kernel
theorem dX12_harbourFault_118 : decode cX12_harbourFault 118 = .ok (.getfield 114, 3) := by decide +kernel
theorem dX12_harbourFault_121 : decode cX12_harbourFault 121 = .ok (.ireturn, 1) := by decide +kernel
theorem dX12_harbourFault_122 : decode cX12_harbourFault 122 = .ok (.aload_n 0, 1) := by decide +kernel
theorem dX12_harbourFault_123 : decode cX12_harbourFault 123 = .ok (.getfield 45, 3) := by decide +kernel
theorem dX12_harbourFault_126 : decode cX12_harbourFault 126 = .ok (.iconst 0, 1) := by decide +kernel
theorem dX12_harbourFault_127 : decode cX12_harbourFault 127 = .ok (.iaload, 1) := by decide +kernel
theorem dX12_harbourFault_128 : decode cX12_harbourFault 128 = .ok (.ifCond .ne 12, 3) := by decide +kernel
theorem dX12_harbourFault_131 : decode cX12_harbourFault 131 = .ok (.aload_n 0, 1) := by decide +kernel
theorem dX12_harbourFault_132 : decode cX12_harbourFault 132 = .ok (.getfield 22, 3) := by decide +kernel
theorem dX12_harbourFault_135 : decode cX12_harbourFault 135 = .ok (.iload_n 1, 1) := by decide +kernel
theorem dX12_harbourFault_136 : decode cX12_harbourFault 136 = .ok (.iaload, 1) := by decide +kernel
theorem dX12_harbourFault_137 : decode cX12_harbourFault 137 = .ok (.goto 5, 3) := by decide +kernel
theorem dX12_harbourFault_140 : decode cX12_harbourFault 140 = .ok (.bipush (-9), 2) := by decide +kernel
theorem dX12_harbourFault_142 : decode cX12_harbourFault 142 = .ok (.ireturn, 1) := by decide +kernel
theorem dX12_readsSet_0 : decode cX12_readsSet 0 = .ok (.aload_n 0, 1) := by decide +kernel
theorem dX12_readsSet_1 : decode cX12_readsSet 1 = .ok (.iload_n 1, 1) := by decide +kernel
theorem dX12_readsSet_2 : decode cX12_readsSet 2 = .ok (.aload_n 0, 1) := by decide +kernel
theorem dX12_readsSet_3 : decode cX12_readsSet 3 = .ok (.getfield 114, 3) := by decide +kernel
theorem dX12_readsSet_6 : decode cX12_readsSet 6 = .ok (.invokevirtual 117, 3) := by decide +kernel
theorem dX12_readsSet_9 : decode cX12_readsSet 9 = .ok (.bipush 112, 2) := by decide +kernel
theorem dX12_readsSet_11 : decode cX12_readsSet 11 = .ok (.if_icmp .ne 11, 3) := by decide +kernel
theorem dX12_readsSet_14 : decode cX12_readsSet 14 = .ok (.aload_n 0, 1) := by decide +kernel
theorem dX12_readsSet_15 : decode cX12_readsSet 15 = .ok (.getfield 139, 3) := by decide +kernel
theorem dX12_readsSet_18 : decode cX12_readsSet 18 = .ok (.iconst 4, 1) := by decide +kernel
theorem dX12_readsSet_19 : decode cX12_readsSet 19 = .ok (.if_icmp .ne 5, 3) := by decide +kernel
theorem dX12_readsSet_22 : decode cX12_readsSet 22 = .ok (.iconst 0, 1) := by decide +kernel
theorem dX12_readsSet_23 : decode cX12_readsSet 23 = .ok (.ireturn, 1) := by decide +kernel
theorem dX12_readsSet_24 : decode cX12_readsSet 24 = .ok (.aload_n 0, 1) := by decide +kernel
theorem dX12_readsSet_25 : decode cX12_readsSet 25 = .ok (.dup, 1) := by decide +kernel
theorem dX12_readsSet_26 : decode cX12_readsSet 26 = .ok (.getfield 114, 3) := by decide +kernel
theorem dX12_readsSet_29 : decode cX12_readsSet 29 = .ok (.iconst 1, 1) := by decide +kernel
theorem dX12_readsSet_30 : decode cX12_readsSet 30 = .ok (.iadd, 1) := by decide +kernel
theorem dX12_readsSet_31 : decode cX12_readsSet 31 = .ok (.putfield 114, 3) := by decide +kernel
theorem dX12_readsSet_34 : decode cX12_readsSet 34 = .ok (.aload_n 0, 1) := by decide +kernel
theorem dX12_readsSet_35 : decode cX12_readsSet 35 = .ok (.iload_n 1, 1) := by decide +kernel
theorem dX12_readsSet_36 : decode cX12_readsSet 36 = .ok (.iconst 2, 1) := by decide +kernel
theorem dX12_readsSet_37 : decode cX12_readsSet 37 = .ok (.bipush 60, 2) := by decide +kernel
theorem dX12_readsSet_39 : decode cX12_readsSet 39 = .ok (.invokevirtual 127, 3) := by decide +kernel
theorem dX12_readsSet_42 : decode cX12_readsSet 42 = .ok (.ifCond .ne 5, 3) := by decide +kernel
theorem dX12_readsSet_45 : decode cX12_readsSet 45 = .ok (.iconst 0, 1) := by decide +kernel
theorem dX12_readsSet_46 : decode cX12_readsSet 46 = .ok (.ireturn, 1) := by decide +kernel
theorem dX12_readsSet_47 : decode cX12_readsSet 47 = .ok (.aload_n 0, 1) := by decide +kernel
theorem dX12_readsSet_48 : decode cX12_readsSet 48 = .ok (.getfield 120, 3) := by decide +kernel
theorem dX12_readsSet_51 : decode cX12_readsSet 51 = .ok (.istore_n 2, 1) := by decide +kernel
theorem dX12_readsSet_52 : decode cX12_readsSet 52 = .ok (.aload_n 0, 1) := by decide +kernel
theorem dX12_readsSet_53 : decode cX12_readsSet 53 = .ok (.iload_n 1, 1) := by decide +kernel
theorem dX12_readsSet_54 : decode cX12_readsSet 54 = .ok (.bipush 58, 2) := by decide +kernel
theorem dX12_readsSet_56 : decode cX12_readsSet 56 = .ok (.invokevirtual 123, 3) := by decide +kernel
theorem dX12_readsSet_59 : decode cX12_readsSet 59 = .ok (.ifCond .eq 14, 3) := by decide +kernel
theorem dX12_readsSet_62 : decode cX12_readsSet 62 = .ok (.aload_n 0, 1) := by decide +kernel
theorem dX12_readsSet_63 : decode cX12_readsSet 63 = .ok (.iload_n 1, 1) := by decide +kernel
theorem dX12_readsSet_64 : decode cX12_readsSet 64 = .ok (.iconst 0, 1) := by decide +kernel
theorem dX12_readsSet_65 : decode cX12_readsSet 65 = .ok (.bipush 99, 2) := by decide +kernel
theorem dX12_readsSet_67 : decode cX12_readsSet 67 = .ok (.invokevirtual 127, 3) := by decide +kernel
theorem dX12_readsSet_70 : decode cX12_readsSet 70 = .ok (.ifCond .ne 5, 3) := by decide +kernel
theorem dX12_readsSet_73 : decode cX12_readsSet 73 = .ok (.iconst 0, 1) := by decide +kernel
theorem dX12_readsSet_74 : decode cX12_readsSet 74 = .ok (.ireturn, 1) := by decide +kernel
theorem dX12_readsSet_75 : decode cX12_readsSet 75 = .ok (.aload_n 0, 1) := by decide +kernel
theorem dX12_readsSet_76 : decode cX12_readsSet 76 = .ok (.getfield 48, 3) := by decide +kernel
theorem dX12_readsSet_79 : decode cX12_readsSet 79 = .ok (.iconst 2, 1) := by decide +kernel
theorem dX12_readsSet_80 : decode cX12_readsSet 80 = .ok (.aload_n 0, 1) := by decide +kernel
theorem dX12_readsSet_81 : decode cX12_readsSet 81 = .ok (.getfield 139, 3) := by decide +kernel
theorem dX12_readsSet_84 : decode cX12_readsSet 84 = .ok (.imul, 1) := by decide +kernel
theorem dX12_readsSet_85 : decode cX12_readsSet 85 = .ok (.iload_n 2, 1) := by decide +kernel
theorem dX12_readsSet_86 : decode cX12_readsSet 86 = .ok (.iastore, 1) := by decide +kernel
theorem dX12_readsSet_87 : decode cX12_readsSet 87 = .ok (.aload_n 0, 1) := by decide +kernel
theorem dX12_readsSet_88 : decode cX12_readsSet 88 = .ok (.getfield 48, 3) := by decide +kernel
theorem dX12_readsSet_91 : decode cX12_readsSet 91 = .ok (.iconst 2, 1) := by decide +kernel
theorem dX12_readsSet_92 : decode cX12_readsSet 92 = .ok (.aload_n 0, 1) := by decide +kernel
theorem dX12_readsSet_93 : decode cX12_readsSet 93 = .ok (.getfield 139, 3) := by decide +kernel
theorem dX12_readsSet_96 : decode cX12_readsSet 96 = .ok (.imul, 1) := by decide +kernel
theorem dX12_readsSet_97 : decode cX12_readsSet 97 = .ok (.iconst 1, 1) := by decide +kernel
theorem dX12_readsSet_98 : decode cX12_readsSet 98 = .ok (.iadd, 1) := by decide +kernel
theorem dX12_readsSet_99 : decode cX12_readsSet 99 = .ok (.aload_n 0, 1) := by decide +kernel
theorem dX12_readsSet_100 : decode cX12_readsSet 100 = .ok (.getfield 120, 3) := by decide +kernel
theorem dX12_readsSet_103 : decode cX12_readsSet 103 = .ok (.iastore, 1) := by decide +kernel
theorem dX12_readsSet_104 : decode cX12_readsSet 104 = .ok (.aload_n 0, 1) := by decide +kernel
theorem dX12_readsSet_105 : decode cX12_readsSet 105 = .ok (.dup, 1) := by decide +kernel
theorem dX12_readsSet_106 : decode cX12_readsSet 106 = .ok (.getfield 139, 3) := by decide +kernel
theorem dX12_readsSet_109 : decode cX12_readsSet 109 = .ok (.iconst 1, 1) := by decide +kernel
theorem dX12_readsSet_110 : decode cX12_readsSet 110 = .ok (.iadd, 1) := by decide +kernel
theorem dX12_readsSet_111 : decode cX12_readsSet 111 = .ok (.putfield 139, 3) := by decide +kernel
theorem dX12_readsSet_114 : decode cX12_readsSet 114 = .ok (.iconst 1, 1) := by decide +kernel
theorem dX12_readsSet_115 : decode cX12_readsSet 115 = .ok (.ireturn, 1) := by decide +kernel
theorem dX12_seaFault_0 : decode cX12_seaFault 0 = .ok (.aload_n 0, 1) := by decide +kernel
theorem dX12_seaFault_1 : decode cX12_seaFault 1 = .ok (.iconst 0, 1) := by decide +kernel
theorem dX12_seaFault_2 : decode cX12_seaFault 2 = .ok (.putfield 114, 3) := by decide +kernel
theorem dX12_seaFault_5 : decode cX12_seaFault 5 = .ok (.aload_n 0, 1) := by decide +kernel
theorem dX12_seaFault_6 : decode cX12_seaFault 6 = .ok (.iconst 0, 1) := by decide +kernel
theorem dX12_seaFault_7 : decode cX12_seaFault 7 = .ok (.putfield 139, 3) := by decide +kernel
theorem dX12_seaFault_10 : decode cX12_seaFault 10 = .ok (.aload_n 0, 1) := by decide +kernel
theorem dX12_seaFault_11 : decode cX12_seaFault 11 = .ok (.getfield 114, 3) := by decide +kernel
theorem dX12_seaFault_14 : decode cX12_seaFault 14 = .ok (.aload_n 0, 1) := by decide +kernel
theorem dX12_seaFault_15 : decode cX12_seaFault 15 = .ok (.getfield 22, 3) := by decide +kernel
theorem dX12_seaFault_18 : decode cX12_seaFault 18 = .ok (.iload_n 1, 1) := by decide +kernel
theorem dX12_seaFault_19 : decode cX12_seaFault 19 = .ok (.iaload, 1) := by decide +kernel
theorem dX12_seaFault_20 : decode cX12_seaFault 20 = .ok (.if_icmp .ge 43, 3) := by decide +kernel
theorem dX12_seaFault_23 : decode cX12_seaFault 23 = .ok (.aload_n 0, 1) := by decide +kernel
theorem dX12_seaFault_24 : decode cX12_seaFault 24 = .ok (.iload_n 1, 1) := by decide +kernel
theorem dX12_seaFault_25 : decode cX12_seaFault 25 = .ok (.aload_n 0, 1) := by decide +kernel
theorem dX12_seaFault_26 : decode cX12_seaFault 26 = .ok (.getfield 114, 3) := by decide +kernel
theorem dX12_seaFault_29 : decode cX12_seaFault 29 = .ok (.invokevirtual 117, 3) := by decide +kernel
theorem dX12_seaFault_32 : decode cX12_seaFault 32 = .ok (.bipush 32, 2) := by decide +kernel
theorem dX12_seaFault_34 : decode cX12_seaFault 34 = .ok (.if_icmp .ne 16, 3) := by decide +kernel
theorem dX12_seaFault_37 : decode cX12_seaFault 37 = .ok (.aload_n 0, 1) := by decide +kernel
theorem dX12_seaFault_38 : decode cX12_seaFault 38 = .ok (.dup, 1) := by decide +kernel
theorem dX12_seaFault_39 : decode cX12_seaFault 39 = .ok (.getfield 114, 3) := by decide +kernel
theorem dX12_seaFault_42 : decode cX12_seaFault 42 = .ok (.iconst 1, 1) := by decide +kernel
theorem dX12_seaFault_43 : decode cX12_seaFault 43 = .ok (.iadd, 1) := by decide +kernel
theorem dX12_seaFault_44 : decode cX12_seaFault 44 = .ok (.putfield 114, 3) := by decide +kernel
theorem dX12_seaFault_47 : decode cX12_seaFault 47 = .ok (.goto (-37), 3) := by decide +kernel
theorem dX12_seaFault_50 : decode cX12_seaFault 50 = .ok (.aload_n 0, 1) := by decide +kernel
theorem dX12_seaFault_51 : decode cX12_seaFault 51 = .ok (.iload_n 1, 1) := by decide +kernel
theorem dX12_seaFault_52 : decode cX12_seaFault 52 = .ok (.invokevirtual 142, 3) := by decide +kernel
theorem dX12_seaFault_55 : decode cX12_seaFault 55 = .ok (.ifCond .ne (-45), 3) := by decide +kernel
theorem dX12_seaFault_58 : decode cX12_seaFault 58 = .ok (.aload_n 0, 1) := by decide +kernel
theorem dX12_seaFault_59 : decode cX12_seaFault 59 = .ok (.getfield 114, 3) := by decide +kernel
theorem dX12_seaFault_62 : decode cX12_seaFault 62 = .ok (.ireturn, 1) := by decide +kernel
theorem dX12_seaFault_63 : decode cX12_seaFault 63 = .ok (.bipush (-9), 2) := by decide +kernel
theorem dX12_seaFault_65 : decode cX12_seaFault 65 = .ok (.ireturn, 1) := by decide +kernel
theorem dX12_fault_0 : decode cX12_fault 0 = .ok (.iload_n 1, 1) := by decide +kernel
theorem dX12_fault_1 : decode cX12_fault 1 = .ok (.invokestatic 111, 3) := by decide +kernel
theorem dX12_fault_4 : decode cX12_fault 4 = .ok (.ifCond .ne 5, 3) := by decide +kernel
theorem dX12_fault_7 : decode cX12_fault 7 = .ok (.iconst (-1), 1) := by decide +kernel
theorem dX12_fault_8 : decode cX12_fault 8 = .ok (.ireturn, 1) := by decide +kernel
theorem dX12_fault_9 : decode cX12_fault 9 = .ok (.aload_n 0, 1) := by decide +kernel
theorem dX12_fault_10 : decode cX12_fault 10 = .ok (.getfield 22, 3) := by decide +kernel
theorem dX12_fault_13 : decode cX12_fault 13 = .ok (.iload_n 1, 1) := by decide +kernel
theorem dX12_fault_14 : decode cX12_fault 14 = .ok (.iaload, 1) := by decide +kernel
theorem dX12_fault_15 : decode cX12_fault 15 = .ok (.ifCond .ge 11, 3) := by decide +kernel
theorem dX12_fault_18 : decode cX12_fault 18 = .ok (.aload_n 0, 1) := by decide +kernel
theorem dX12_fault_19 : decode cX12_fault 19 = .ok (.iconst 1, 1) := by decide +kernel
theorem dX12_fault_20 : decode cX12_fault 20 = .ok (.invokevirtual 100, 3) := by decide +kernel
theorem dX12_fault_23 : decode cX12_fault 23 = .ok (.goto 20, 3) := by decide +kernel
theorem dX12_fault_26 : decode cX12_fault 26 = .ok (.iload_n 2, 1) := by decide +kernel
theorem dX12_fault_27 : decode cX12_fault 27 = .ok (.ifCond .eq 11, 3) := by decide +kernel
theorem dX12_fault_30 : decode cX12_fault 30 = .ok (.aload_n 0, 1) := by decide +kernel
theorem dX12_fault_31 : decode cX12_fault 31 = .ok (.iload_n 1, 1) := by decide +kernel
theorem dX12_fault_32 : decode cX12_fault 32 = .ok (.invokevirtual 145, 3) := by decide +kernel
theorem dX12_fault_35 : decode cX12_fault 35 = .ok (.goto 8, 3) := by decide +kernel
theorem dX12_fault_38 : decode cX12_fault 38 = .ok (.aload_n 0, 1) := by decide +kernel
theorem dX12_fault_39 : decode cX12_fault 39 = .ok (.iload_n 1, 1) := by decide +kernel
theorem dX12_fault_40 : decode cX12_fault 40 = .ok (.invokevirtual 148, 3) := by decide +kernel
theorem dX12_fault_43 : decode cX12_fault 43 = .ok (.ireturn, 1) := by decide +kernel
theorem dX12_isPlace_0 : decode cX12_isPlace 0 = .ok (.iload_n 0, 1) := by decide +kernel
theorem dX12_isPlace_1 : decode cX12_isPlace 1 = .ok (.iconst 0, 1) := by decide +kernel
theorem dX12_isPlace_2 : decode cX12_isPlace 2 = .ok (.iconst 3, 1) := by decide +kernel
theorem dX12_isPlace_3 : decode cX12_isPlace 3 = .ok (.invokestatic 86, 3) := by decide +kernel
theorem dX12_isPlace_6 : decode cX12_isPlace 6 = .ok (.ireturn, 1) := by decide +kernel
theorem dX12_harbour_0 : decode cX12_harbour 0 = .ok (.iload_n 1, 1) := by decide +kernel
theorem dX12_harbour_1 : decode cX12_harbour 1 = .ok (.invokestatic 151, 3) := by decide +kernel
theorem dX12_harbour_4 : decode cX12_harbour 4 = .ok (.ifCond .eq 10, 3) := by decide +kernel
theorem dX12_harbour_7 : decode cX12_harbour 7 = .ok (.iload_n 2, 1) := by decide +kernel
theorem dX12_harbour_8 : decode cX12_harbour 8 = .ok (.invokestatic 111, 3) := by decide +kernel
theorem dX12_harbour_11 : decode cX12_harbour 11 = .ok (.ifCond .ne 5, 3) := by decide +kernel
theorem dX12_harbour_14 : decode cX12_harbour 14 = .ok (.iconst (-1), 1) := by decide +kernel
theorem dX12_harbour_15 : decode cX12_harbour 15 = .ok (.ireturn, 1) := by decide +kernel
theorem dX12_harbour_16 : decode cX12_harbour 16 = .ok (.aload_n 0, 1) := by decide +kernel
theorem dX12_harbour_17 : decode cX12_harbour 17 = .ok (.getfield 22, 3) := by decide +kernel
theorem dX12_harbour_20 : decode cX12_harbour 20 = .ok (.iload_n 2, 1) := by decide +kernel
theorem dX12_harbour_21 : decode cX12_harbour 21 = .ok (.iaload, 1) := by decide +kernel
theorem dX12_harbour_22 : decode cX12_harbour 22 = .ok (.ifCond .ge 9, 3) := by decide +kernel
theorem dX12_harbour_25 : decode cX12_harbour 25 = .ok (.aload_n 0, 1) := by decide +kernel
theorem dX12_harbour_26 : decode cX12_harbour 26 = .ok (.iconst 1, 1) := by decide +kernel
theorem dX12_harbour_27 : decode cX12_harbour 27 = .ok (.invokevirtual 100, 3) := by decide +kernel
theorem dX12_harbour_30 : decode cX12_harbour 30 = .ok (.ireturn, 1) := by decide +kernel
theorem dX12_harbour_31 : decode cX12_harbour 31 = .ok (.aload_n 0, 1) := by decide +kernel
theorem dX12_harbour_32 : decode cX12_harbour 32 = .ok (.iload_n 2, 1) := by decide +kernel
theorem dX12_harbour_33 : decode cX12_harbour 33 = .ok (.invokevirtual 148, 3) := by decide +kernel
theorem dX12_harbour_36 : decode cX12_harbour 36 = .ok (.bipush (-9), 2) := by decide +kernel
theorem dX12_harbour_38 : decode cX12_harbour 38 = .ok (.if_icmp .eq 6, 3) := by decide +kernel
theorem dX12_harbour_41 : decode cX12_harbour 41 = .ok (.bipush (-4), 2) := by decide +kernel
theorem dX12_harbour_43 : decode cX12_harbour 43 = .ok (.ireturn, 1) := by decide +kernel
theorem dX12_harbour_44 : decode cX12_harbour 44 = .ok (.iconst 0, 1) := by decide +kernel
theorem dX12_harbour_45 : decode cX12_harbour 45 = .ok (.istore_n 3, 1) := by decide +kernel
theorem dX12_harbour_46 : decode cX12_harbour 46 = .ok (.iload_n 3, 1) := by decide +kernel
theorem dX12_harbour_47 : decode cX12_harbour 47 = .ok (.bipush 21, 2) := by decide +kernel
theorem dX12_harbour_49 : decode cX12_harbour 49 = .ok (.if_icmp .ge 26, 3) := by decide +kernel
theorem dX12_harbour_52 : decode cX12_harbour 52 = .ok (.aload_n 0, 1) := by decide +kernel
theorem dX12_harbour_53 : decode cX12_harbour 53 = .ok (.getfield 33, 3) := by decide +kernel
theorem dX12_harbour_56 : decode cX12_harbour 56 = .ok (.bipush 21, 2) := by decide +kernel
theorem dX12_harbour_58 : decode cX12_harbour 58 = .ok (.iload_n 1, 1) := by decide +kernel
theorem dX12_harbour_59 : decode cX12_harbour 59 = .ok (.imul, 1) := by decide +kernel
theorem dX12_harbour_60 : decode cX12_harbour 60 = .ok (.iload_n 3, 1) := by decide +kernel
theorem dX12_harbour_61 : decode cX12_harbour 61 = .ok (.iadd, 1) := by decide +kernel
theorem dX12_harbour_62 : decode cX12_harbour 62 = .ok (.aload_n 0, 1) := by decide +kernel
theorem dX12_harbour_63 : decode cX12_harbour 63 = .ok (.getfield 45, 3) := by decide +kernel
theorem dX12_harbour_66 : decode cX12_harbour 66 = .ok (.iload_n 3, 1) := by decide +kernel
theorem dX12_harbour_67 : decode cX12_harbour 67 = .ok (.iaload, 1) := by decide +kernel
theorem dX12_harbour_68 : decode cX12_harbour 68 = .ok (.iastore, 1) := by decide +kernel
theorem dX12_harbour_69 : decode cX12_harbour 69 = .ok (.iinc 3 1, 3) := by decide +kernel
theorem dX12_harbour_72 : decode cX12_harbour 72 = .ok (.goto (-26), 3) := by decide +kernel
theorem dX12_harbour_75 : decode cX12_harbour 75 = .ok (.aload_n 0, 1) := by decide +kernel
theorem dX12_harbour_76 : decode cX12_harbour 76 = .ok (.getfield 29, 3) := by decide +kernel
theorem dX12_harbour_79 : decode cX12_harbour 79 = .ok (.iload_n 1, 1) := by decide +kernel
theorem dX12_harbour_80 : decode cX12_harbour 80 = .ok (.iconst 1, 1) := by decide +kernel
theorem dX12_harbour_81 : decode cX12_harbour 81 = .ok (.bastore, 1) := by decide +kernel
theorem dX12_harbour_82 : decode cX12_harbour 82 = .ok (.aload_n 0, 1) := by decide +kernel
theorem dX12_harbour_83 : decode cX12_harbour 83 = .ok (.getfield 45, 3) := by decide +kernel
theorem dX12_harbour_86 : decode cX12_harbour 86 = .ok (.iconst 0, 1) := by decide +kernel
theorem dX12_harbour_87 : decode cX12_harbour 87 = .ok (.iaload, 1) := by decide +kernel
theorem dX12_harbour_88 : decode cX12_harbour 88 = .ok (.ireturn, 1) := by decide +kernel
theorem dX12_sea_0 : decode cX12_sea 0 = .ok (.iload_n 1, 1) := by decide +kernel
theorem dX12_sea_1 : decode cX12_sea 1 = .ok (.invokestatic 151, 3) := by decide +kernel
theorem dX12_sea_4 : decode cX12_sea 4 = .ok (.ifCond .eq 10, 3) := by decide +kernel
theorem dX12_sea_7 : decode cX12_sea 7 = .ok (.iload_n 2, 1) := by decide +kernel
theorem dX12_sea_8 : decode cX12_sea 8 = .ok (.invokestatic 111, 3) := by decide +kernel
theorem dX12_sea_11 : decode cX12_sea 11 = .ok (.ifCond .ne 5, 3) := by decide +kernel
theorem dX12_sea_14 : decode cX12_sea 14 = .ok (.iconst (-1), 1) := by decide +kernel
theorem dX12_sea_15 : decode cX12_sea 15 = .ok (.ireturn, 1) := by decide +kernel
theorem dX12_sea_16 : decode cX12_sea 16 = .ok (.aload_n 0, 1) := by decide +kernel
theorem dX12_sea_17 : decode cX12_sea 17 = .ok (.getfield 22, 3) := by decide +kernel
theorem dX12_sea_20 : decode cX12_sea 20 = .ok (.iload_n 2, 1) := by decide +kernel
theorem dX12_sea_21 : decode cX12_sea 21 = .ok (.iaload, 1) := by decide +kernel
theorem dX12_sea_22 : decode cX12_sea 22 = .ok (.ifCond .ge 9, 3) := by decide +kernel
theorem dX12_sea_25 : decode cX12_sea 25 = .ok (.aload_n 0, 1) := by decide +kernel
theorem dX12_sea_26 : decode cX12_sea 26 = .ok (.iconst 1, 1) := by decide +kernel
theorem dX12_sea_27 : decode cX12_sea 27 = .ok (.invokevirtual 100, 3) := by decide +kernel
theorem dX12_sea_30 : decode cX12_sea 30 = .ok (.ireturn, 1) := by decide +kernel
theorem dX12_sea_31 : decode cX12_sea 31 = .ok (.aload_n 0, 1) := by decide +kernel
theorem dX12_sea_32 : decode cX12_sea 32 = .ok (.iload_n 2, 1) := by decide +kernel
theorem dX12_sea_33 : decode cX12_sea 33 = .ok (.invokevirtual 145, 3) := by decide +kernel
theorem dX12_sea_36 : decode cX12_sea 36 = .ok (.bipush (-9), 2) := by decide +kernel
theorem dX12_sea_38 : decode cX12_sea 38 = .ok (.if_icmp .eq 6, 3) := by decide +kernel
theorem dX12_sea_41 : decode cX12_sea 41 = .ok (.bipush (-4), 2) := by decide +kernel
theorem dX12_sea_43 : decode cX12_sea 43 = .ok (.ireturn, 1) := by decide +kernel
theorem dX12_sea_44 : decode cX12_sea 44 = .ok (.iconst 0, 1) := by decide +kernel
theorem dX12_sea_45 : decode cX12_sea 45 = .ok (.istore_n 3, 1) := by decide +kernel
theorem dX12_sea_46 : decode cX12_sea 46 = .ok (.iload_n 3, 1) := by decide +kernel
theorem dX12_sea_47 : decode cX12_sea 47 = .ok (.bipush 8, 2) := by decide +kernel
theorem dX12_sea_49 : decode cX12_sea 49 = .ok (.if_icmp .ge 26, 3) := by decide +kernel
theorem dX12_sea_52 : decode cX12_sea 52 = .ok (.aload_n 0, 1) := by decide +kernel
theorem dX12_sea_53 : decode cX12_sea 53 = .ok (.getfield 42, 3) := by decide +kernel
theorem dX12_sea_56 : decode cX12_sea 56 = .ok (.bipush 8, 2) := by decide +kernel
theorem dX12_sea_58 : decode cX12_sea 58 = .ok (.iload_n 1, 1) := by decide +kernel
theorem dX12_sea_59 : decode cX12_sea 59 = .ok (.imul, 1) := by decide +kernel
theorem dX12_sea_60 : decode cX12_sea 60 = .ok (.iload_n 3, 1) := by decide +kernel
theorem dX12_sea_61 : decode cX12_sea 61 = .ok (.iadd, 1) := by decide +kernel
theorem dX12_sea_62 : decode cX12_sea 62 = .ok (.aload_n 0, 1) := by decide +kernel
theorem dX12_sea_63 : decode cX12_sea 63 = .ok (.getfield 48, 3) := by decide +kernel
theorem dX12_sea_66 : decode cX12_sea 66 = .ok (.iload_n 3, 1) := by decide +kernel
theorem dX12_sea_67 : decode cX12_sea 67 = .ok (.iaload, 1) := by decide +kernel
theorem dX12_sea_68 : decode cX12_sea 68 = .ok (.iastore, 1) := by decide +kernel
theorem dX12_sea_69 : decode cX12_sea 69 = .ok (.iinc 3 1, 3) := by decide +kernel
theorem dX12_sea_72 : decode cX12_sea 72 = .ok (.goto (-26), 3) := by decide +kernel
theorem dX12_sea_75 : decode cX12_sea 75 = .ok (.aload_n 0, 1) := by decide +kernel
theorem dX12_sea_76 : decode cX12_sea 76 = .ok (.getfield 39, 3) := by decide +kernel
theorem dX12_sea_79 : decode cX12_sea 79 = .ok (.iload_n 1, 1) := by decide +kernel
theorem dX12_sea_80 : decode cX12_sea 80 = .ok (.aload_n 0, 1) := by decide +kernel
theorem dX12_sea_81 : decode cX12_sea 81 = .ok (.getfield 139, 3) := by decide +kernel
theorem dX12_sea_84 : decode cX12_sea 84 = .ok (.iastore, 1) := by decide +kernel
theorem dX12_sea_85 : decode cX12_sea 85 = .ok (.aload_n 0, 1) := by decide +kernel
theorem dX12_sea_86 : decode cX12_sea 86 = .ok (.getfield 36, 3) := by decide +kernel
theorem dX12_sea_89 : decode cX12_sea 89 = .ok (.iload_n 1, 1) := by decide +kernel
theorem dX12_sea_90 : decode cX12_sea 90 = .ok (.iconst 1, 1) := by decide +kernel
theorem dX12_sea_91 : decode cX12_sea 91 = .ok (.bastore, 1) := by decide +kernel
theorem dX12_sea_92 : decode cX12_sea 92 = .ok (.aload_n 0, 1) := by decide +kernel
theorem dX12_sea_93 : decode cX12_sea 93 = .ok (.getfield 139, 3) := by decide +kernel
theorem dX12_sea_96 : decode cX12_sea 96 = .ok (.ireturn, 1) := by decide +kernel
theorem dX12_about_0 : decode cX12_about 0 = .ok (.iload_n 1, 1) := by decide +kernel
theorem dX12_about_1 : decode cX12_about 1 = .ok (.invokestatic 151, 3) := by decide +kernel
theorem dX12_about_4 : decode cX12_about 4 = .ok (.ifCond .eq 13, 3) := by decide +kernel
theorem dX12_about_7 : decode cX12_about 7 = .ok (.iload_n 2, 1) := by decide +kernel
theorem dX12_about_8 : decode cX12_about 8 = .ok (.iconst 0, 1) := by decide +kernel
theorem dX12_about_9 : decode cX12_about 9 = .ok (.bipush 20, 2) := by decide +kernel
theorem dX12_about_11 : decode cX12_about 11 = .ok (.invokestatic 86, 3) := by decide +kernel
theorem dX12_about_14 : decode cX12_about 14 = .ok (.ifCond .ne 5, 3) := by decide +kernel
theorem dX12_about_17 : decode cX12_about 17 = .ok (.iconst (-1), 1) := by decide +kernel
theorem dX12_about_18 : decode cX12_about 18 = .ok (.ireturn, 1) := by decide +kernel
theorem dX12_about_19 : decode cX12_about 19 = .ok (.aload_n 0, 1) := by decide +kernel
theorem dX12_about_20 : decode cX12_about 20 = .ok (.getfield 29, 3) := by decide +kernel
theorem dX12_about_23 : decode cX12_about 23 = .ok (.iload_n 1, 1) := by decide +kernel
theorem dX12_about_24 : decode cX12_about 24 = .ok (.baload, 1) := by decide +kernel
theorem dX12_about_25 : decode cX12_about 25 = .ok (.ifCond .ne 9, 3) := by decide +kernel
theorem dX12_about_28 : decode cX12_about 28 = .ok (.aload_n 0, 1) := by decide +kernel
theorem dX12_about_29 : decode cX12_about 29 = .ok (.iconst 1, 1) := by decide +kernel
theorem dX12_about_30 : decode cX12_about 30 = .ok (.invokevirtual 100, 3) := by decide +kernel
theorem dX12_about_33 : decode cX12_about 33 = .ok (.ireturn, 1) := by decide +kernel
theorem dX12_about_34 : decode cX12_about 34 = .ok (.iload_n 2, 1) := by decide +kernel
theorem dX12_about_35 : decode cX12_about 35 = .ok (.iconst 5, 1) := by decide +kernel
theorem dX12_about_36 : decode cX12_about 36 = .ok (.isub, 1) := by decide +kernel
theorem dX12_about_37 : decode cX12_about 37 = .ok (.aload_n 0, 1) := by decide +kernel
theorem dX12_about_38 : decode cX12_about 38 = .ok (.getfield 33, 3) := by decide +kernel
theorem dX12_about_41 : decode cX12_about 41 = .ok (.bipush 21, 2) := by decide +kernel
theorem dX12_about_43 : decode cX12_about 43 = .ok (.iload_n 1, 1) := by decide +kernel
theorem dX12_about_44 : decode cX12_about 44 = .ok (.imul, 1) := by decide +kernel
theorem dX12_about_45 : decode cX12_about 45 = .ok (.iaload, 1) := by decide +kernel
theorem dX12_about_46 : decode cX12_about 46 = .ok (.if_icmp .ge 22, 3) := by decide +kernel
theorem dX12_about_49 : decode cX12_about 49 = .ok (.aload_n 0, 1) := by decide +kernel
theorem dX12_about_50 : decode cX12_about 50 = .ok (.aload_n 0, 1) := by decide +kernel
theorem dX12_about_51 : decode cX12_about 51 = .ok (.getfield 33, 3) := by decide +kernel
theorem dX12_about_54 : decode cX12_about 54 = .ok (.bipush 21, 2) := by decide +kernel
theorem dX12_about_56 : decode cX12_about 56 = .ok (.iload_n 1, 1) := by decide +kernel
theorem dX12_about_57 : decode cX12_about 57 = .ok (.imul, 1) := by decide +kernel
theorem dX12_about_58 : decode cX12_about 58 = .ok (.iload_n 2, 1) := by decide +kernel
theorem dX12_about_59 : decode cX12_about 59 = .ok (.iadd, 1) := by decide +kernel
theorem dX12_about_60 : decode cX12_about 60 = .ok (.iaload, 1) := by decide +kernel
theorem dX12_about_61 : decode cX12_about 61 = .ok (.iconst 1, 1) := by decide +kernel
theorem dX12_about_62 : decode cX12_about 62 = .ok (.invokevirtual 108, 3) := by decide +kernel
theorem dX12_about_65 : decode cX12_about 65 = .ok (.goto 8, 3) := by decide +kernel
theorem dX12_about_68 : decode cX12_about 68 = .ok (.aload_n 0, 1) := by decide +kernel
theorem dX12_about_69 : decode cX12_about 69 = .ok (.iconst 2, 1) := by decide +kernel
theorem dX12_about_70 : decode cX12_about 70 = .ok (.invokevirtual 100, 3) := by decide +kernel
theorem dX12_about_73 : decode cX12_about 73 = .ok (.ireturn, 1) := by decide +kernel
theorem dX12_set_0 : decode cX12_set 0 = .ok (.iload_n 1, 1) := by decide +kernel
theorem dX12_set_1 : decode cX12_set 1 = .ok (.invokestatic 151, 3) := by decide +kernel
theorem dX12_set_4 : decode cX12_set 4 = .ok (.ifCond .ne 5, 3) := by decide +kernel
theorem dX12_set_7 : decode cX12_set 7 = .ok (.iconst (-1), 1) := by decide +kernel
theorem dX12_set_8 : decode cX12_set 8 = .ok (.ireturn, 1) := by decide +kernel
theorem dX12_set_9 : decode cX12_set 9 = .ok (.aload_n 0, 1) := by decide +kernel
theorem dX12_set_10 : decode cX12_set 10 = .ok (.getfield 36, 3) := by decide +kernel
theorem dX12_set_13 : decode cX12_set 13 = .ok (.iload_n 1, 1) := by decide +kernel
theorem dX12_set_14 : decode cX12_set 14 = .ok (.baload, 1) := by decide +kernel
theorem dX12_set_15 : decode cX12_set 15 = .ok (.ifCond .ne 9, 3) := by decide +kernel
theorem dX12_set_18 : decode cX12_set 18 = .ok (.aload_n 0, 1) := by decide +kernel
theorem dX12_set_19 : decode cX12_set 19 = .ok (.iconst 1, 1) := by decide +kernel
theorem dX12_set_20 : decode cX12_set 20 = .ok (.invokevirtual 100, 3) := by decide +kernel
theorem dX12_set_23 : decode cX12_set 23 = .ok (.ireturn, 1) := by decide +kernel
theorem dX12_set_24 : decode cX12_set 24 = .ok (.iload_n 2, 1) := by decide +kernel
theorem dX12_set_25 : decode cX12_set 25 = .ok (.iconst 0, 1) := by decide +kernel
theorem dX12_set_26 : decode cX12_set 26 = .ok (.aload_n 0, 1) := by decide +kernel
theorem dX12_set_27 : decode cX12_set 27 = .ok (.getfield 39, 3) := by decide +kernel
theorem dX12_set_30 : decode cX12_set 30 = .ok (.iload_n 1, 1) := by decide +kernel
theorem dX12_set_31 : decode cX12_set 31 = .ok (.iaload, 1) := by decide +kernel
theorem dX12_set_32 : decode cX12_set 32 = .ok (.iconst 1, 1) := by decide +kernel
theorem dX12_set_33 : decode cX12_set 33 = .ok (.isub, 1) := by decide +kernel
theorem dX12_set_34 : decode cX12_set 34 = .ok (.invokestatic 86, 3) := by decide +kernel
theorem dX12_set_37 : decode cX12_set 37 = .ok (.ifCond .eq 38, 3) := by decide +kernel
theorem dX12_set_40 : decode cX12_set 40 = .ok (.aload_n 0, 1) := by decide +kernel
theorem dX12_set_41 : decode cX12_set 41 = .ok (.aload_n 0, 1) := by decide +kernel
theorem dX12_set_42 : decode cX12_set 42 = .ok (.getfield 42, 3) := by decide +kernel
theorem dX12_set_45 : decode cX12_set 45 = .ok (.bipush 8, 2) := by decide +kernel
theorem dX12_set_47 : decode cX12_set 47 = .ok (.iload_n 1, 1) := by decide +kernel
theorem dX12_set_48 : decode cX12_set 48 = .ok (.imul, 1) := by decide +kernel
theorem dX12_set_49 : decode cX12_set 49 = .ok (.iconst 2, 1) := by decide +kernel
theorem dX12_set_50 : decode cX12_set 50 = .ok (.iload_n 2, 1) := by decide +kernel
theorem dX12_set_51 : decode cX12_set 51 = .ok (.imul, 1) := by decide +kernel
theorem dX12_set_52 : decode cX12_set 52 = .ok (.iadd, 1) := by decide +kernel
theorem dX12_set_53 : decode cX12_set 53 = .ok (.iconst 1, 1) := by decide +kernel
theorem dX12_set_54 : decode cX12_set 54 = .ok (.iadd, 1) := by decide +kernel
theorem dX12_set_55 : decode cX12_set 55 = .ok (.iaload, 1) := by decide +kernel
theorem dX12_set_56 : decode cX12_set 56 = .ok (.aload_n 0, 1) := by decide +kernel
theorem dX12_set_57 : decode cX12_set 57 = .ok (.getfield 42, 3) := by decide +kernel
theorem dX12_set_60 : decode cX12_set 60 = .ok (.bipush 8, 2) := by decide +kernel
theorem dX12_set_62 : decode cX12_set 62 = .ok (.iload_n 1, 1) := by decide +kernel
theorem dX12_set_63 : decode cX12_set 63 = .ok (.imul, 1) := by decide +kernel
theorem dX12_set_64 : decode cX12_set 64 = .ok (.iconst 2, 1) := by decide +kernel
theorem dX12_set_65 : decode cX12_set 65 = .ok (.iload_n 2, 1) := by decide +kernel
theorem dX12_set_66 : decode cX12_set 66 = .ok (.imul, 1) := by decide +kernel
theorem dX12_set_67 : decode cX12_set 67 = .ok (.iadd, 1) := by decide +kernel
theorem dX12_set_68 : decode cX12_set 68 = .ok (.iaload, 1) := by decide +kernel
theorem dX12_set_69 : decode cX12_set 69 = .ok (.invokevirtual 108, 3) := by decide +kernel
theorem dX12_set_72 : decode cX12_set 72 = .ok (.goto 8, 3) := by decide +kernel
theorem dX12_set_75 : decode cX12_set 75 = .ok (.aload_n 0, 1) := by decide +kernel
theorem dX12_set_76 : decode cX12_set 76 = .ok (.iconst 2, 1) := by decide +kernel
theorem dX12_set_77 : decode cX12_set 77 = .ok (.invokevirtual 100, 3) := by decide +kernel
theorem dX12_set_80 : decode cX12_set 80 = .ok (.ireturn, 1) := by decide +kernel
theorem dX12_isShipTold_0 : decode cX12_isShipTold 0 = .ok (.iload_n 0, 1) := by decide +kernel
theorem dX12_isShipTold_1 : decode cX12_isShipTold 1 = .ok (.iconst 0, 1) := by decide +kernel
theorem dX12_isShipTold_2 : decode cX12_isShipTold 2 = .ok (.iconst 2, 1) := by decide +kernel
theorem dX12_isShipTold_3 : decode cX12_isShipTold 3 = .ok (.invokestatic 86, 3) := by decide +kernel
theorem dX12_isShipTold_6 : decode cX12_isShipTold 6 = .ok (.ireturn, 1) := by decide +kernel
theorem dX12_ship_0 : decode cX12_ship 0 = .ok (.iload_n 1, 1) := by decide +kernel
theorem dX12_ship_1 : decode cX12_ship 1 = .ok (.invokestatic 154, 3) := by decide +kernel
theorem dX12_ship_4 : decode cX12_ship 4 = .ok (.ifCond .eq 57, 3) := by decide +kernel
theorem dX12_ship_7 : decode cX12_ship 7 = .ok (.iload_n 2, 1) := by decide +kernel
theorem dX12_ship_8 : decode cX12_ship 8 = .ok (.iconst 0, 1) := by decide +kernel
theorem dX12_ship_9 : decode cX12_ship 9 = .ok (.bipush 15, 2) := by decide +kernel
theorem dX12_ship_11 : decode cX12_ship 11 = .ok (.invokestatic 86, 3) := by decide +kernel
theorem dX12_ship_14 : decode cX12_ship 14 = .ok (.ifCond .eq 47, 3) := by decide +kernel
theorem dX12_ship_17 : decode cX12_ship 17 = .ok (.iload_n 3, 1) := by decide +kernel
theorem dX12_ship_18 : decode cX12_ship 18 = .ok (.iconst 1, 1) := by decide +kernel
theorem dX12_ship_19 : decode cX12_ship 19 = .ok (.bipush 9, 2) := by decide +kernel
theorem dX12_ship_21 : decode cX12_ship 21 = .ok (.invokestatic 86, 3) := by decide +kernel
theorem dX12_ship_24 : decode cX12_ship 24 = .ok (.ifCond .eq 37, 3) := by decide +kernel
theorem dX12_ship_27 : decode cX12_ship 27 = .ok (.iload 4, 2) := by decide +kernel
theorem dX12_ship_29 : decode cX12_ship 29 = .ok (.iconst 1, 1) := by decide +kernel
theorem dX12_ship_30 : decode cX12_ship 30 = .ok (.bipush 9, 2) := by decide +kernel
theorem dX12_ship_32 : decode cX12_ship 32 = .ok (.invokestatic 86, 3) := by decide +kernel
theorem dX12_ship_35 : decode cX12_ship 35 = .ok (.ifCond .eq 26, 3) := by decide +kernel
theorem dX12_ship_38 : decode cX12_ship 38 = .ok (.iload 5, 2) := by decide +kernel
theorem dX12_ship_40 : decode cX12_ship 40 = .ok (.iconst 0, 1) := by decide +kernel
theorem dX12_ship_41 : decode cX12_ship 41 = .ok (.bipush 30, 2) := by decide +kernel
theorem dX12_ship_43 : decode cX12_ship 43 = .ok (.invokestatic 86, 3) := by decide +kernel
theorem dX12_ship_46 : decode cX12_ship 46 = .ok (.ifCond .eq 15, 3) := by decide +kernel
theorem dX12_ship_49 : decode cX12_ship 49 = .ok (.iload 6, 2) := by decide +kernel
theorem dX12_ship_51 : decode cX12_ship 51 = .ok (.iconst 1, 1) := by decide +kernel
theorem dX12_ship_52 : decode cX12_ship 52 = .ok (.sipush 9999, 3) := by decide +kernel
theorem dX12_ship_55 : decode cX12_ship 55 = .ok (.invokestatic 86, 3) := by decide +kernel
theorem dX12_ship_58 : decode cX12_ship 58 = .ok (.ifCond .ne 5, 3) := by decide +kernel
theorem dX12_ship_61 : decode cX12_ship 61 = .ok (.iconst (-1), 1) := by decide +kernel
theorem dX12_ship_62 : decode cX12_ship 62 = .ok (.ireturn, 1) := by decide +kernel
theorem dX12_ship_63 : decode cX12_ship 63 = .ok (.iconst 5, 1) := by decide +kernel
theorem dX12_ship_64 : decode cX12_ship 64 = .ok (.iload_n 1, 1) := by decide +kernel
theorem dX12_ship_65 : decode cX12_ship 65 = .ok (.imul, 1) := by decide +kernel
theorem dX12_ship_66 : decode cX12_ship 66 = .ok (.istore 7, 2) := by decide +kernel
theorem dX12_ship_68 : decode cX12_ship 68 = .ok (.aload_n 0, 1) := by decide +kernel
theorem dX12_ship_69 : decode cX12_ship 69 = .ok (.getfield 54, 3) := by decide +kernel
theorem dX12_ship_72 : decode cX12_ship 72 = .ok (.iload 7, 2) := by decide +kernel
theorem dX12_ship_74 : decode cX12_ship 74 = .ok (.iload_n 2, 1) := by decide +kernel
theorem dX12_ship_75 : decode cX12_ship 75 = .ok (.iastore, 1) := by decide +kernel
theorem dX12_ship_76 : decode cX12_ship 76 = .ok (.aload_n 0, 1) := by decide +kernel
theorem dX12_ship_77 : decode cX12_ship 77 = .ok (.getfield 54, 3) := by decide +kernel
theorem dX12_ship_80 : decode cX12_ship 80 = .ok (.iload 7, 2) := by decide +kernel
theorem dX12_ship_82 : decode cX12_ship 82 = .ok (.iconst 1, 1) := by decide +kernel
theorem dX12_ship_83 : decode cX12_ship 83 = .ok (.iadd, 1) := by decide +kernel
theorem dX12_ship_84 : decode cX12_ship 84 = .ok (.iload_n 3, 1) := by decide +kernel
theorem dX12_ship_85 : decode cX12_ship 85 = .ok (.iastore, 1) := by decide +kernel
theorem dX12_ship_86 : decode cX12_ship 86 = .ok (.aload_n 0, 1) := by decide +kernel
theorem dX12_ship_87 : decode cX12_ship 87 = .ok (.getfield 54, 3) := by decide +kernel
theorem dX12_ship_90 : decode cX12_ship 90 = .ok (.iload 7, 2) := by decide +kernel
theorem dX12_ship_92 : decode cX12_ship 92 = .ok (.iconst 2, 1) := by decide +kernel
theorem dX12_ship_93 : decode cX12_ship 93 = .ok (.iadd, 1) := by decide +kernel
theorem dX12_ship_94 : decode cX12_ship 94 = .ok (.iload 4, 2) := by decide +kernel
theorem dX12_ship_96 : decode cX12_ship 96 = .ok (.iastore, 1) := by decide +kernel
theorem dX12_ship_97 : decode cX12_ship 97 = .ok (.aload_n 0, 1) := by decide +kernel
theorem dX12_ship_98 : decode cX12_ship 98 = .ok (.getfield 54, 3) := by decide +kernel
theorem dX12_ship_101 : decode cX12_ship 101 = .ok (.iload 7, 2) := by decide +kernel
theorem dX12_ship_103 : decode cX12_ship 103 = .ok (.iconst 3, 1) := by decide +kernel
theorem dX12_ship_104 : decode cX12_ship 104 = .ok (.iadd, 1) := by decide +kernel
theorem dX12_ship_105 : decode cX12_ship 105 = .ok (.iload 5, 2) := by decide +kernel
theorem dX12_ship_107 : decode cX12_ship 107 = .ok (.iastore, 1) := by decide +kernel
theorem dX12_ship_108 : decode cX12_ship 108 = .ok (.aload_n 0, 1) := by decide +kernel
theorem dX12_ship_109 : decode cX12_ship 109 = .ok (.getfield 54, 3) := by decide +kernel
theorem dX12_ship_112 : decode cX12_ship 112 = .ok (.iload 7, 2) := by decide +kernel
theorem dX12_ship_114 : decode cX12_ship 114 = .ok (.iconst 4, 1) := by decide +kernel
theorem dX12_ship_115 : decode cX12_ship 115 = .ok (.iadd, 1) := by decide +kernel
theorem dX12_ship_116 : decode cX12_ship 116 = .ok (.iload 6, 2) := by decide +kernel
theorem dX12_ship_118 : decode cX12_ship 118 = .ok (.iastore, 1) := by decide +kernel
theorem dX12_ship_119 : decode cX12_ship 119 = .ok (.aload_n 0, 1) := by decide +kernel
theorem dX12_ship_120 : decode cX12_ship 120 = .ok (.getfield 51, 3) := by decide +kernel
theorem dX12_ship_123 : decode cX12_ship 123 = .ok (.iload_n 1, 1) := by decide +kernel
theorem dX12_ship_124 : decode cX12_ship 124 = .ok (.iconst 1, 1) := by decide +kernel
theorem dX12_ship_125 : decode cX12_ship 125 = .ok (.bastore, 1) := by decide +kernel
theorem dX12_ship_126 : decode cX12_ship 126 = .ok (.iconst 1, 1) := by decide +kernel
theorem dX12_ship_127 : decode cX12_ship 127 = .ok (.ireturn, 1) := by decide +kernel
theorem dX12_leave_0 : decode cX12_leave 0 = .ok (.iload_n 1, 1) := by decide +kernel
theorem dX12_leave_1 : decode cX12_leave 1 = .ok (.invokestatic 154, 3) := by decide +kernel
theorem dX12_leave_4 : decode cX12_leave 4 = .ok (.ifCond .ne 5, 3) := by decide +kernel
theorem dX12_leave_7 : decode cX12_leave 7 = .ok (.iconst (-1), 1) := by decide +kernel
theorem dX12_leave_8 : decode cX12_leave 8 = .ok (.ireturn, 1) := by decide +kernel
theorem dX12_leave_9 : decode cX12_leave 9 = .ok (.aload_n 0, 1) := by decide +kernel
theorem dX12_leave_10 : decode cX12_leave 10 = .ok (.getfield 51, 3) := by decide +kernel
theorem dX12_leave_13 : decode cX12_leave 13 = .ok (.iload_n 1, 1) := by decide +kernel
theorem dX12_leave_14 : decode cX12_leave 14 = .ok (.baload, 1) := by decide +kernel
theorem dX12_leave_15 : decode cX12_leave 15 = .ok (.ifCond .ne 6, 3) := by decide +kernel
theorem dX12_leave_18 : decode cX12_leave 18 = .ok (.bipush (-4), 2) := by decide +kernel
theorem dX12_leave_20 : decode cX12_leave 20 = .ok (.ireturn, 1) := by decide +kernel
theorem dX12_leave_21 : decode cX12_leave 21 = .ok (.aload_n 0, 1) := by decide +kernel
theorem dX12_leave_22 : decode cX12_leave 22 = .ok (.getfield 51, 3) := by decide +kernel
theorem dX12_leave_25 : decode cX12_leave 25 = .ok (.iload_n 1, 1) := by decide +kernel
theorem dX12_leave_26 : decode cX12_leave 26 = .ok (.iconst 0, 1) := by decide +kernel
theorem dX12_leave_27 : decode cX12_leave 27 = .ok (.bastore, 1) := by decide +kernel
theorem dX12_leave_28 : decode cX12_leave 28 = .ok (.iconst 1, 1) := by decide +kernel
theorem dX12_leave_29 : decode cX12_leave 29 = .ok (.ireturn, 1) := by decide +kernel
theorem dX12_v_0 : decode cX12_v 0 = .ok (.aload_n 0, 1) := by decide +kernel
theorem dX12_v_1 : decode cX12_v 1 = .ok (.getfield 60, 3) := by decide +kernel
theorem dX12_v_4 : decode cX12_v 4 = .ok (.aload_n 0, 1) := by decide +kernel
theorem dX12_v_5 : decode cX12_v 5 = .ok (.getfield 157, 3) := by decide +kernel
theorem dX12_v_8 : decode cX12_v 8 = .ok (.iload_n 1, 1) := by decide +kernel
theorem dX12_v_9 : decode cX12_v 9 = .ok (.iadd, 1) := by decide +kernel
theorem dX12_v_10 : decode cX12_v 10 = .ok (.iaload, 1) := by decide +kernel
theorem dX12_v_11 : decode cX12_v 11 = .ok (.ireturn, 1) := by decide +kernel
theorem dX12_put__0 : decode cX12_put_ 0 = .ok (.aload_n 0, 1) := by decide +kernel
theorem dX12_put__1 : decode cX12_put_ 1 = .ok (.getfield 60, 3) := by decide +kernel
theorem dX12_put__4 : decode cX12_put_ 4 = .ok (.aload_n 0, 1) := by decide +kernel
theorem dX12_put__5 : decode cX12_put_ 5 = .ok (.getfield 157, 3) := by decide +kernel
theorem dX12_put__8 : decode cX12_put_ 8 = .ok (.iload_n 1, 1) := by decide +kernel
theorem dX12_put__9 : decode cX12_put_ 9 = .ok (.iadd, 1) := by decide +kernel
theorem dX12_put__10 : decode cX12_put_ 10 = .ok (.iload_n 2, 1) := by decide +kernel
theorem dX12_put__11 : decode cX12_put_ 11 = .ok (.iastore, 1) := by decide +kernel
theorem dX12_put__12 : decode cX12_put_ 12 = .ok (.return_, 1) := by decide +kernel
theorem dX12_look_0 : decode cX12_look 0 = .ok (.aload_n 0, 1) := by decide +kernel
theorem dX12_look_1 : decode cX12_look 1 = .ok (.bipush 125, 2) := by decide +kernel
theorem dX12_look_3 : decode cX12_look 3 = .ok (.iload_n 1, 1) := by decide +kernel
theorem dX12_look_4 : decode cX12_look 4 = .ok (.imul, 1) := by decide +kernel
theorem dX12_look_5 : decode cX12_look 5 = .ok (.putfield 157, 3) := by decide +kernel
theorem dX12_look_8 : decode cX12_look 8 = .ok (.return_, 1) := by decide +kernel
theorem dX12_copyNight_0 : decode cX12_copyNight 0 = .ok (.iconst 0, 1) := by decide +kernel
theorem dX12_copyNight_1 : decode cX12_copyNight 1 = .ok (.istore_n 3, 1) := by decide +kernel
theorem dX12_copyNight_2 : decode cX12_copyNight 2 = .ok (.iload_n 3, 1) := by decide +kernel
theorem dX12_copyNight_3 : decode cX12_copyNight 3 = .ok (.bipush 125, 2) := by decide +kernel
theorem dX12_copyNight_5 : decode cX12_copyNight 5 = .ok (.if_icmp .ge 31, 3) := by decide +kernel
theorem dX12_copyNight_8 : decode cX12_copyNight 8 = .ok (.aload_n 0, 1) := by decide +kernel
theorem dX12_copyNight_9 : decode cX12_copyNight 9 = .ok (.getfield 60, 3) := by decide +kernel
theorem dX12_copyNight_12 : decode cX12_copyNight 12 = .ok (.bipush 125, 2) := by decide +kernel
theorem dX12_copyNight_14 : decode cX12_copyNight 14 = .ok (.iload_n 2, 1) := by decide +kernel
theorem dX12_copyNight_15 : decode cX12_copyNight 15 = .ok (.imul, 1) := by decide +kernel
theorem dX12_copyNight_16 : decode cX12_copyNight 16 = .ok (.iload_n 3, 1) := by decide +kernel
theorem dX12_copyNight_17 : decode cX12_copyNight 17 = .ok (.iadd, 1) := by decide +kernel
theorem dX12_copyNight_18 : decode cX12_copyNight 18 = .ok (.aload_n 0, 1) := by decide +kernel
theorem dX12_copyNight_19 : decode cX12_copyNight 19 = .ok (.getfield 60, 3) := by decide +kernel
theorem dX12_copyNight_22 : decode cX12_copyNight 22 = .ok (.bipush 125, 2) := by decide +kernel
theorem dX12_copyNight_24 : decode cX12_copyNight 24 = .ok (.iload_n 1, 1) := by decide +kernel
theorem dX12_copyNight_25 : decode cX12_copyNight 25 = .ok (.imul, 1) := by decide +kernel
theorem dX12_copyNight_26 : decode cX12_copyNight 26 = .ok (.iload_n 3, 1) := by decide +kernel
theorem dX12_copyNight_27 : decode cX12_copyNight 27 = .ok (.iadd, 1) := by decide +kernel
theorem dX12_copyNight_28 : decode cX12_copyNight 28 = .ok (.iaload, 1) := by decide +kernel
theorem dX12_copyNight_29 : decode cX12_copyNight 29 = .ok (.iastore, 1) := by decide +kernel
theorem dX12_copyNight_30 : decode cX12_copyNight 30 = .ok (.iinc 3 1, 3) := by decide +kernel
theorem dX12_copyNight_33 : decode cX12_copyNight 33 = .ok (.goto (-31), 3) := by decide +kernel
theorem dX12_copyNight_36 : decode cX12_copyNight 36 = .ok (.return_, 1) := by decide +kernel
theorem dX12_layHarbour_0 : decode cX12_layHarbour 0 = .ok (.iconst 0, 1) := by decide +kernel
theorem dX12_layHarbour_1 : decode cX12_layHarbour 1 = .ok (.istore_n 2, 1) := by decide +kernel
theorem dX12_layHarbour_2 : decode cX12_layHarbour 2 = .ok (.iload_n 2, 1) := by decide +kernel
theorem dX12_layHarbour_3 : decode cX12_layHarbour 3 = .ok (.bipush 21, 2) := by decide +kernel
theorem dX12_layHarbour_5 : decode cX12_layHarbour 5 = .ok (.if_icmp .ge 25, 3) := by decide +kernel
theorem dX12_layHarbour_8 : decode cX12_layHarbour 8 = .ok (.aload_n 0, 1) := by decide +kernel
theorem dX12_layHarbour_9 : decode cX12_layHarbour 9 = .ok (.iload_n 2, 1) := by decide +kernel
theorem dX12_layHarbour_10 : decode cX12_layHarbour 10 = .ok (.aload_n 0, 1) := by decide +kernel
theorem dX12_layHarbour_11 : decode cX12_layHarbour 11 = .ok (.getfield 33, 3) := by decide +kernel
theorem dX12_layHarbour_14 : decode cX12_layHarbour 14 = .ok (.bipush 21, 2) := by decide +kernel
theorem dX12_layHarbour_16 : decode cX12_layHarbour 16 = .ok (.iload_n 1, 1) := by decide +kernel
theorem dX12_layHarbour_17 : decode cX12_layHarbour 17 = .ok (.imul, 1) := by decide +kernel
theorem dX12_layHarbour_18 : decode cX12_layHarbour 18 = .ok (.iload_n 2, 1) := by decide +kernel
theorem dX12_layHarbour_19 : decode cX12_layHarbour 19 = .ok (.iadd, 1) := by decide +kernel
theorem dX12_layHarbour_20 : decode cX12_layHarbour 20 = .ok (.iaload, 1) := by decide +kernel
theorem dX12_layHarbour_21 : decode cX12_layHarbour 21 = .ok (.invokevirtual 160, 3) := by decide +kernel
theorem dX12_layHarbour_24 : decode cX12_layHarbour 24 = .ok (.iinc 2 1, 3) := by decide +kernel
theorem dX12_layHarbour_27 : decode cX12_layHarbour 27 = .ok (.goto (-25), 3) := by decide +kernel
theorem dX12_layHarbour_30 : decode cX12_layHarbour 30 = .ok (.return_, 1) := by decide +kernel
theorem dX12_laySea_0 : decode cX12_laySea 0 = .ok (.aload_n 0, 1) := by decide +kernel
theorem dX12_laySea_1 : decode cX12_laySea 1 = .ok (.bipush 21, 2) := by decide +kernel
theorem dX12_laySea_3 : decode cX12_laySea 3 = .ok (.aload_n 0, 1) := by decide +kernel
theorem dX12_laySea_4 : decode cX12_laySea 4 = .ok (.getfield 39, 3) := by decide +kernel
theorem dX12_laySea_7 : decode cX12_laySea 7 = .ok (.iload_n 1, 1) := by decide +kernel
theorem dX12_laySea_8 : decode cX12_laySea 8 = .ok (.iaload, 1) := by decide +kernel
theorem dX12_laySea_9 : decode cX12_laySea 9 = .ok (.invokevirtual 160, 3) := by decide +kernel
theorem dX12_laySea_12 : decode cX12_laySea 12 = .ok (.iconst 0, 1) := by decide +kernel
theorem dX12_laySea_13 : decode cX12_laySea 13 = .ok (.istore_n 2, 1) := by decide +kernel
theorem dX12_laySea_14 : decode cX12_laySea 14 = .ok (.iload_n 2, 1) := by decide +kernel
theorem dX12_laySea_15 : decode cX12_laySea 15 = .ok (.bipush 8, 2) := by decide +kernel
theorem dX12_laySea_17 : decode cX12_laySea 17 = .ok (.if_icmp .ge 28, 3) := by decide +kernel
theorem dX12_laySea_20 : decode cX12_laySea 20 = .ok (.aload_n 0, 1) := by decide +kernel
theorem dX12_laySea_21 : decode cX12_laySea 21 = .ok (.bipush 22, 2) := by decide +kernel
theorem dX12_laySea_23 : decode cX12_laySea 23 = .ok (.iload_n 2, 1) := by decide +kernel
theorem dX12_laySea_24 : decode cX12_laySea 24 = .ok (.iadd, 1) := by decide +kernel
theorem dX12_laySea_25 : decode cX12_laySea 25 = .ok (.aload_n 0, 1) := by decide +kernel
theorem dX12_laySea_26 : decode cX12_laySea 26 = .ok (.getfield 42, 3) := by decide +kernel
theorem dX12_laySea_29 : decode cX12_laySea 29 = .ok (.bipush 8, 2) := by decide +kernel
theorem dX12_laySea_31 : decode cX12_laySea 31 = .ok (.iload_n 1, 1) := by decide +kernel
theorem dX12_laySea_32 : decode cX12_laySea 32 = .ok (.imul, 1) := by decide +kernel
theorem dX12_laySea_33 : decode cX12_laySea 33 = .ok (.iload_n 2, 1) := by decide +kernel
theorem dX12_laySea_34 : decode cX12_laySea 34 = .ok (.iadd, 1) := by decide +kernel
theorem dX12_laySea_35 : decode cX12_laySea 35 = .ok (.iaload, 1) := by decide +kernel
theorem dX12_laySea_36 : decode cX12_laySea 36 = .ok (.invokevirtual 160, 3) := by decide +kernel
theorem dX12_laySea_39 : decode cX12_laySea 39 = .ok (.iinc 2 1, 3) := by decide +kernel
theorem dX12_laySea_42 : decode cX12_laySea 42 = .ok (.goto (-28), 3) := by decide +kernel
theorem dX12_laySea_45 : decode cX12_laySea 45 = .ok (.return_, 1) := by decide +kernel
theorem dX12_begins_0 : decode cX12_begins 0 = .ok (.bipush 30, 2) := by decide +kernel
theorem dX12_begins_2 : decode cX12_begins 2 = .ok (.istore_n 1, 1) := by decide +kernel
theorem dX12_begins_3 : decode cX12_begins 3 = .ok (.iload_n 1, 1) := by decide +kernel
theorem dX12_begins_4 : decode cX12_begins 4 = .ok (.bipush 125, 2) := by decide +kernel
theorem dX12_begins_6 : decode cX12_begins 6 = .ok (.if_icmp .ge 15, 3) := by decide +kernel
theorem dX12_begins_9 : decode cX12_begins 9 = .ok (.aload_n 0, 1) := by decide +kernel
theorem dX12_begins_10 : decode cX12_begins 10 = .ok (.iload_n 1, 1) := by decide +kernel
theorem dX12_begins_11 : decode cX12_begins 11 = .ok (.iconst 0, 1) := by decide +kernel
theorem dX12_begins_12 : decode cX12_begins 12 = .ok (.invokevirtual 160, 3) := by decide +kernel
theorem dX12_begins_15 : decode cX12_begins 15 = .ok (.iinc 1 1, 3) := by decide +kernel
theorem dX12_begins_18 : decode cX12_begins 18 = .ok (.goto (-15), 3) := by decide +kernel
theorem dX12_begins_21 : decode cX12_begins 21 = .ok (.return_, 1) := by decide +kernel
theorem dX12_rider_0 : decode cX12_rider 0 = .ok (.bipush 95, 2) := by decide +kernel
theorem dX12_rider_2 : decode cX12_rider 2 = .ok (.bipush 10, 2) := by decide +kernel
theorem dX12_rider_4 : decode cX12_rider 4 = .ok (.iload_n 0, 1) := by decide +kernel
theorem dX12_rider_5 : decode cX12_rider 5 = .ok (.imul, 1) := by decide +kernel
theorem dX12_rider_6 : decode cX12_rider 6 = .ok (.iadd, 1) := by decide +kernel
theorem dX12_rider_7 : decode cX12_rider 7 = .ok (.ireturn, 1) := by decide +kernel
theorem dX12_layShip_0 : decode cX12_layShip 0 = .ok (.iload_n 1, 1) := by decide +kernel
theorem dX12_layShip_1 : decode cX12_layShip 1 = .ok (.invokestatic 164, 3) := by decide +kernel
theorem dX12_layShip_4 : decode cX12_layShip 4 = .ok (.istore_n 2, 1) := by decide +kernel
theorem dX12_layShip_5 : decode cX12_layShip 5 = .ok (.aload_n 0, 1) := by decide +kernel
theorem dX12_layShip_6 : decode cX12_layShip 6 = .ok (.iload_n 2, 1) := by decide +kernel
theorem dX12_layShip_7 : decode cX12_layShip 7 = .ok (.iconst 1, 1) := by decide +kernel
theorem dX12_layShip_8 : decode cX12_layShip 8 = .ok (.invokevirtual 160, 3) := by decide +kernel
theorem dX12_layShip_11 : decode cX12_layShip 11 = .ok (.iconst 0, 1) := by decide +kernel
theorem dX12_layShip_12 : decode cX12_layShip 12 = .ok (.istore_n 3, 1) := by decide +kernel
theorem dX12_layShip_13 : decode cX12_layShip 13 = .ok (.iload_n 3, 1) := by decide +kernel
theorem dX12_layShip_14 : decode cX12_layShip 14 = .ok (.iconst 5, 1) := by decide +kernel
theorem dX12_layShip_15 : decode cX12_layShip 15 = .ok (.if_icmp .ge 28, 3) := by decide +kernel
theorem dX12_layShip_18 : decode cX12_layShip 18 = .ok (.aload_n 0, 1) := by decide +kernel
theorem dX12_layShip_19 : decode cX12_layShip 19 = .ok (.iload_n 2, 1) := by decide +kernel
theorem dX12_layShip_20 : decode cX12_layShip 20 = .ok (.iconst 1, 1) := by decide +kernel
theorem dX12_layShip_21 : decode cX12_layShip 21 = .ok (.iadd, 1) := by decide +kernel
theorem dX12_layShip_22 : decode cX12_layShip 22 = .ok (.iload_n 3, 1) := by decide +kernel
theorem dX12_layShip_23 : decode cX12_layShip 23 = .ok (.iadd, 1) := by decide +kernel
theorem dX12_layShip_24 : decode cX12_layShip 24 = .ok (.aload_n 0, 1) := by decide +kernel
theorem dX12_layShip_25 : decode cX12_layShip 25 = .ok (.getfield 54, 3) := by decide +kernel
theorem dX12_layShip_28 : decode cX12_layShip 28 = .ok (.iconst 5, 1) := by decide +kernel
theorem dX12_layShip_29 : decode cX12_layShip 29 = .ok (.iload_n 1, 1) := by decide +kernel
theorem dX12_layShip_30 : decode cX12_layShip 30 = .ok (.imul, 1) := by decide +kernel
theorem dX12_layShip_31 : decode cX12_layShip 31 = .ok (.iload_n 3, 1) := by decide +kernel
theorem dX12_layShip_32 : decode cX12_layShip 32 = .ok (.iadd, 1) := by decide +kernel
theorem dX12_layShip_33 : decode cX12_layShip 33 = .ok (.iaload, 1) := by decide +kernel
theorem dX12_layShip_34 : decode cX12_layShip 34 = .ok (.invokevirtual 160, 3) := by decide +kernel
theorem dX12_layShip_37 : decode cX12_layShip 37 = .ok (.iinc 3 1, 3) := by decide +kernel
theorem dX12_layShip_40 : decode cX12_layShip 40 = .ok (.goto (-27), 3) := by decide +kernel
theorem dX12_layShip_43 : decode cX12_layShip 43 = .ok (.aload_n 0, 1) := by decide +kernel
theorem dX12_layShip_44 : decode cX12_layShip 44 = .ok (.iload_n 2, 1) := by decide +kernel
theorem dX12_layShip_45 : decode cX12_layShip 45 = .ok (.bipush 6, 2) := by decide +kernel
theorem dX12_layShip_47 : decode cX12_layShip 47 = .ok (.iadd, 1) := by decide +kernel
theorem dX12_layShip_48 : decode cX12_layShip 48 = .ok (.iconst 0, 1) := by decide +kernel
theorem dX12_layShip_49 : decode cX12_layShip 49 = .ok (.invokevirtual 160, 3) := by decide +kernel
theorem dX12_layShip_52 : decode cX12_layShip 52 = .ok (.aload_n 0, 1) := by decide +kernel
theorem dX12_layShip_53 : decode cX12_layShip 53 = .ok (.iload_n 2, 1) := by decide +kernel
theorem dX12_layShip_54 : decode cX12_layShip 54 = .ok (.bipush 7, 2) := by decide +kernel
theorem dX12_layShip_56 : decode cX12_layShip 56 = .ok (.iadd, 1) := by decide +kernel
theorem dX12_layShip_57 : decode cX12_layShip 57 = .ok (.iconst 0, 1) := by decide +kernel
theorem dX12_layShip_58 : decode cX12_layShip 58 = .ok (.invokevirtual 160, 3) := by decide +kernel
theorem dX12_layShip_61 : decode cX12_layShip 61 = .ok (.aload_n 0, 1) := by decide +kernel
theorem dX12_layShip_62 : decode cX12_layShip 62 = .ok (.iload_n 2, 1) := by decide +kernel
theorem dX12_layShip_63 : decode cX12_layShip 63 = .ok (.bipush 8, 2) := by decide +kernel
theorem dX12_layShip_65 : decode cX12_layShip 65 = .ok (.iadd, 1) := by decide +kernel
theorem dX12_layShip_66 : decode cX12_layShip 66 = .ok (.iconst 0, 1) := by decide +kernel
theorem dX12_layShip_67 : decode cX12_layShip 67 = .ok (.invokevirtual 160, 3) := by decide +kernel
theorem dX12_layShip_70 : decode cX12_layShip 70 = .ok (.aload_n 0, 1) := by decide +kernel
theorem dX12_layShip_71 : decode cX12_layShip 71 = .ok (.iload_n 2, 1) := by decide +kernel
theorem dX12_layShip_72 : decode cX12_layShip 72 = .ok (.bipush 9, 2) := by decide +kernel
theorem dX12_layShip_74 : decode cX12_layShip 74 = .ok (.iadd, 1) := by decide +kernel
theorem dX12_layShip_75 : decode cX12_layShip 75 = .ok (.bipush (-9), 2) := by decide +kernel
theorem dX12_layShip_77 : decode cX12_layShip 77 = .ok (.invokevirtual 160, 3) := by decide +kernel
theorem dX12_layShip_80 : decode cX12_layShip 80 = .ok (.return_, 1) := by decide +kernel
theorem dX12_night_0 : decode cX12_night 0 = .ok (.iload_n 1, 1) := by decide +kernel
theorem dX12_night_1 : decode cX12_night 1 = .ok (.invokestatic 151, 3) := by decide +kernel
theorem dX12_night_4 : decode cX12_night 4 = .ok (.ifCond .eq 10, 3) := by decide +kernel
theorem dX12_night_7 : decode cX12_night 7 = .ok (.iload_n 2, 1) := by decide +kernel
theorem dX12_night_8 : decode cX12_night 8 = .ok (.invokestatic 151, 3) := by decide +kernel
theorem dX12_night_11 : decode cX12_night 11 = .ok (.ifCond .ne 5, 3) := by decide +kernel
theorem dX12_night_14 : decode cX12_night 14 = .ok (.iconst (-1), 1) := by decide +kernel
theorem dX12_night_15 : decode cX12_night 15 = .ok (.ireturn, 1) := by decide +kernel
theorem dX12_night_16 : decode cX12_night 16 = .ok (.aload_n 0, 1) := by decide +kernel
theorem dX12_night_17 : decode cX12_night 17 = .ok (.getfield 29, 3) := by decide +kernel
theorem dX12_night_20 : decode cX12_night 20 = .ok (.iload_n 1, 1) := by decide +kernel
theorem dX12_night_21 : decode cX12_night 21 = .ok (.baload, 1) := by decide +kernel
theorem dX12_night_22 : decode cX12_night 22 = .ok (.ifCond .eq 12, 3) := by decide +kernel
theorem dX12_night_25 : decode cX12_night 25 = .ok (.aload_n 0, 1) := by decide +kernel
theorem dX12_night_26 : decode cX12_night 26 = .ok (.getfield 36, 3) := by decide +kernel
theorem dX12_night_29 : decode cX12_night 29 = .ok (.iload_n 2, 1) := by decide +kernel
theorem dX12_night_30 : decode cX12_night 30 = .ok (.baload, 1) := by decide +kernel
theorem dX12_night_31 : decode cX12_night 31 = .ok (.ifCond .ne 9, 3) := by decide +kernel
theorem dX12_night_34 : decode cX12_night 34 = .ok (.aload_n 0, 1) := by decide +kernel
theorem dX12_night_35 : decode cX12_night 35 = .ok (.iconst 1, 1) := by decide +kernel
theorem dX12_night_36 : decode cX12_night 36 = .ok (.invokevirtual 100, 3) := by decide +kernel
theorem dX12_night_39 : decode cX12_night 39 = .ok (.ireturn, 1) := by decide +kernel
theorem dX12_night_40 : decode cX12_night 40 = .ok (.iconst 0, 1) := by decide +kernel
theorem dX12_night_41 : decode cX12_night 41 = .ok (.istore_n 3, 1) := by decide +kernel
theorem dX12_night_42 : decode cX12_night 42 = .ok (.iload_n 3, 1) := by decide +kernel
theorem dX12_night_43 : decode cX12_night 43 = .ok (.iconst 3, 1) := by decide +kernel
theorem dX12_night_44 : decode cX12_night 44 = .ok (.if_icmp .ge 41, 3) := by decide +kernel
theorem dX12_night_47 : decode cX12_night 47 = .ok (.aload_n 0, 1) := by decide +kernel
theorem dX12_night_48 : decode cX12_night 48 = .ok (.getfield 51, 3) := by decide +kernel
theorem dX12_night_51 : decode cX12_night 51 = .ok (.iload_n 3, 1) := by decide +kernel
theorem dX12_night_52 : decode cX12_night 52 = .ok (.baload, 1) := by decide +kernel
theorem dX12_night_53 : decode cX12_night 53 = .ok (.ifCond .eq 26, 3) := by decide +kernel
theorem dX12_night_56 : decode cX12_night 56 = .ok (.aload_n 0, 1) := by decide +kernel
theorem dX12_night_57 : decode cX12_night 57 = .ok (.getfield 54, 3) := by decide +kernel
theorem dX12_night_60 : decode cX12_night 60 = .ok (.iconst 5, 1) := by decide +kernel
theorem dX12_night_61 : decode cX12_night 61 = .ok (.iload_n 3, 1) := by decide +kernel
theorem dX12_night_62 : decode cX12_night 62 = .ok (.imul, 1) := by decide +kernel
theorem dX12_night_63 : decode cX12_night 63 = .ok (.iaload, 1) := by decide +kernel
theorem dX12_night_64 : decode cX12_night 64 = .ok (.aload_n 0, 1) := by decide +kernel
theorem dX12_night_65 : decode cX12_night 65 = .ok (.getfield 33, 3) := by decide +kernel
theorem dX12_night_68 : decode cX12_night 68 = .ok (.bipush 21, 2) := by decide +kernel
theorem dX12_night_70 : decode cX12_night 70 = .ok (.iload_n 1, 1) := by decide +kernel
theorem dX12_night_71 : decode cX12_night 71 = .ok (.imul, 1) := by decide +kernel
theorem dX12_night_72 : decode cX12_night 72 = .ok (.iaload, 1) := by decide +kernel
theorem dX12_night_73 : decode cX12_night 73 = .ok (.if_icmp .lt 6, 3) := by decide +kernel
theorem dX12_night_76 : decode cX12_night 76 = .ok (.bipush (-4), 2) := by decide +kernel
theorem dX12_night_78 : decode cX12_night 78 = .ok (.ireturn, 1) := by decide +kernel
theorem dX12_night_79 : decode cX12_night 79 = .ok (.iinc 3 1, 3) := by decide +kernel
theorem dX12_night_82 : decode cX12_night 82 = .ok (.goto (-40), 3) := by decide +kernel
theorem dX12_night_85 : decode cX12_night 85 = .ok (.aload_n 0, 1) := by decide +kernel
theorem dX12_night_86 : decode cX12_night 86 = .ok (.iconst 0, 1) := by decide +kernel
theorem dX12_night_87 : decode cX12_night 87 = .ok (.invokevirtual 167, 3) := by decide +kernel
theorem dX12_night_90 : decode cX12_night 90 = .ok (.aload_n 0, 1) := by decide +kernel
theorem dX12_night_91 : decode cX12_night 91 = .ok (.iload_n 1, 1) := by decide +kernel
theorem dX12_night_92 : decode cX12_night 92 = .ok (.invokevirtual 171, 3) := by decide +kernel
theorem dX12_night_95 : decode cX12_night 95 = .ok (.aload_n 0, 1) := by decide +kernel
theorem dX12_night_96 : decode cX12_night 96 = .ok (.iload_n 2, 1) := by decide +kernel
theorem dX12_night_97 : decode cX12_night 97 = .ok (.invokevirtual 174, 3) := by decide +kernel
theorem dX12_night_100 : decode cX12_night 100 = .ok (.aload_n 0, 1) := by decide +kernel
theorem dX12_night_101 : decode cX12_night 101 = .ok (.invokevirtual 177, 3) := by decide +kernel
theorem dX12_night_104 : decode cX12_night 104 = .ok (.iconst 0, 1) := by decide +kernel
theorem dX12_night_105 : decode cX12_night 105 = .ok (.istore_n 3, 1) := by decide +kernel
theorem dX12_night_106 : decode cX12_night 106 = .ok (.iload_n 3, 1) := by decide +kernel
theorem dX12_night_107 : decode cX12_night 107 = .ok (.iconst 3, 1) := by decide +kernel
theorem dX12_night_108 : decode cX12_night 108 = .ok (.if_icmp .ge 23, 3) := by decide +kernel
theorem dX12_night_111 : decode cX12_night 111 = .ok (.aload_n 0, 1) := by decide +kernel
theorem dX12_night_112 : decode cX12_night 112 = .ok (.getfield 51, 3) := by decide +kernel
theorem dX12_night_115 : decode cX12_night 115 = .ok (.iload_n 3, 1) := by decide +kernel
theorem dX12_night_116 : decode cX12_night 116 = .ok (.baload, 1) := by decide +kernel
theorem dX12_night_117 : decode cX12_night 117 = .ok (.ifCond .eq 8, 3) := by decide +kernel
theorem dX12_night_120 : decode cX12_night 120 = .ok (.aload_n 0, 1) := by decide +kernel
theorem dX12_night_121 : decode cX12_night 121 = .ok (.iload_n 3, 1) := by decide +kernel
theorem dX12_night_122 : decode cX12_night 122 = .ok (.invokevirtual 180, 3) := by decide +kernel
theorem dX12_night_125 : decode cX12_night 125 = .ok (.iinc 3 1, 3) := by decide +kernel
theorem dX12_night_128 : decode cX12_night 128 = .ok (.goto (-22), 3) := by decide +kernel
theorem dX12_night_131 : decode cX12_night 131 = .ok (.aload_n 0, 1) := by decide +kernel
theorem dX12_night_132 : decode cX12_night 132 = .ok (.getfield 57, 3) := by decide +kernel
theorem dX12_night_135 : decode cX12_night 135 = .ok (.iconst 0, 1) := by decide +kernel
theorem dX12_night_136 : decode cX12_night 136 = .ok (.iconst 1, 1) := by decide +kernel
theorem dX12_night_137 : decode cX12_night 137 = .ok (.bastore, 1) := by decide +kernel
theorem dX12_night_138 : decode cX12_night 138 = .ok (.aload_n 0, 1) := by decide +kernel
theorem dX12_night_139 : decode cX12_night 139 = .ok (.iconst 0, 1) := by decide +kernel
theorem dX12_night_140 : decode cX12_night 140 = .ok (.invokevirtual 183, 3) := by decide +kernel
theorem dX12_night_143 : decode cX12_night 143 = .ok (.ireturn, 1) := by decide +kernel
theorem dX12_pushAt_0 : decode cX12_pushAt 0 = .ok (.iconst 0, 1) := by decide +kernel
theorem dX12_pushAt_1 : decode cX12_pushAt 1 = .ok (.istore_n 2, 1) := by decide +kernel
theorem dX12_pushAt_2 : decode cX12_pushAt 2 = .ok (.iconst 0, 1) := by decide +kernel
theorem dX12_pushAt_3 : decode cX12_pushAt 3 = .ok (.istore_n 3, 1) := by decide +kernel
theorem dX12_pushAt_4 : decode cX12_pushAt 4 = .ok (.iload_n 3, 1) := by decide +kernel
theorem dX12_pushAt_5 : decode cX12_pushAt 5 = .ok (.aload_n 0, 1) := by decide +kernel
theorem dX12_pushAt_6 : decode cX12_pushAt 6 = .ok (.bipush 21, 2) := by decide +kernel
theorem dX12_pushAt_8 : decode cX12_pushAt 8 = .ok (.invokevirtual 183, 3) := by decide +kernel
theorem dX12_pushAt_11 : decode cX12_pushAt 11 = .ok (.if_icmp .ge 55, 3) := by decide +kernel
theorem dX12_pushAt_14 : decode cX12_pushAt 14 = .ok (.aload_n 0, 1) := by decide +kernel
theorem dX12_pushAt_15 : decode cX12_pushAt 15 = .ok (.bipush 22, 2) := by decide +kernel
theorem dX12_pushAt_17 : decode cX12_pushAt 17 = .ok (.iconst 2, 1) := by decide +kernel
theorem dX12_pushAt_18 : decode cX12_pushAt 18 = .ok (.iload_n 3, 1) := by decide +kernel
theorem dX12_pushAt_19 : decode cX12_pushAt 19 = .ok (.imul, 1) := by decide +kernel
theorem dX12_pushAt_20 : decode cX12_pushAt 20 = .ok (.iadd, 1) := by decide +kernel
theorem dX12_pushAt_21 : decode cX12_pushAt 21 = .ok (.invokevirtual 183, 3) := by decide +kernel
theorem dX12_pushAt_24 : decode cX12_pushAt 24 = .ok (.istore 4, 2) := by decide +kernel
theorem dX12_pushAt_26 : decode cX12_pushAt 26 = .ok (.aload_n 0, 1) := by decide +kernel
theorem dX12_pushAt_27 : decode cX12_pushAt 27 = .ok (.bipush 23, 2) := by decide +kernel
theorem dX12_pushAt_29 : decode cX12_pushAt 29 = .ok (.iconst 2, 1) := by decide +kernel
theorem dX12_pushAt_30 : decode cX12_pushAt 30 = .ok (.iload_n 3, 1) := by decide +kernel
theorem dX12_pushAt_31 : decode cX12_pushAt 31 = .ok (.imul, 1) := by decide +kernel
theorem dX12_pushAt_32 : decode cX12_pushAt 32 = .ok (.iadd, 1) := by decide +kernel
theorem dX12_pushAt_33 : decode cX12_pushAt 33 = .ok (.invokevirtual 183, 3) := by decide +kernel
theorem dX12_pushAt_36 : decode cX12_pushAt 36 = .ok (.istore 5, 2) := by decide +kernel
theorem dX12_pushAt_38 : decode cX12_pushAt 38 = .ok (.iload_n 2, 1) := by decide +kernel
theorem dX12_pushAt_39 : decode cX12_pushAt 39 = .ok (.iload_n 1, 1) := by decide +kernel
theorem dX12_pushAt_40 : decode cX12_pushAt 40 = .ok (.iload 4, 2) := by decide +kernel
theorem dX12_pushAt_42 : decode cX12_pushAt 42 = .ok (.irem, 1) := by decide +kernel
theorem dX12_pushAt_43 : decode cX12_pushAt 43 = .ok (.iload 4, 2) := by decide +kernel
theorem dX12_pushAt_45 : decode cX12_pushAt 45 = .ok (.iconst 2, 1) := by decide +kernel
theorem dX12_pushAt_46 : decode cX12_pushAt 46 = .ok (.idiv, 1) := by decide +kernel
theorem dX12_pushAt_47 : decode cX12_pushAt 47 = .ok (.if_icmp .ge 8, 3) := by decide +kernel
theorem dX12_pushAt_50 : decode cX12_pushAt 50 = .ok (.iload 5, 2) := by decide +kernel
theorem dX12_pushAt_52 : decode cX12_pushAt 52 = .ok (.goto 6, 3) := by decide +kernel
theorem dX12_pushAt_55 : decode cX12_pushAt 55 = .ok (.iload 5, 2) := by decide +kernel
theorem dX12_pushAt_57 : decode cX12_pushAt 57 = .ok (.ineg, 1) := by decide +kernel
theorem dX12_pushAt_58 : decode cX12_pushAt 58 = .ok (.iadd, 1) := by decide +kernel
theorem dX12_pushAt_59 : decode cX12_pushAt 59 = .ok (.istore_n 2, 1) := by decide +kernel
theorem dX12_pushAt_60 : decode cX12_pushAt 60 = .ok (.iinc 3 1, 3) := by decide +kernel
theorem dX12_pushAt_63 : decode cX12_pushAt 63 = .ok (.goto (-59), 3) := by decide +kernel
theorem dX12_pushAt_66 : decode cX12_pushAt 66 = .ok (.iload_n 2, 1) := by decide +kernel
theorem dX12_pushAt_67 : decode cX12_pushAt 67 = .ok (.ireturn, 1) := by decide +kernel
theorem dX12_flows_0 : decode cX12_flows 0 = .ok (.iconst 0, 1) := by decide +kernel
theorem dX12_flows_1 : decode cX12_flows 1 = .ok (.istore_n 1, 1) := by decide +kernel
theorem dX12_flows_2 : decode cX12_flows 2 = .ok (.iload_n 1, 1) := by decide +kernel
theorem dX12_flows_3 : decode cX12_flows 3 = .ok (.iconst 1, 1) := by decide +kernel
theorem dX12_flows_4 : decode cX12_flows 4 = .ok (.iadd, 1) := by decide +kernel
theorem dX12_flows_5 : decode cX12_flows 5 = .ok (.aload_n 0, 1) := by decide +kernel
theorem dX12_flows_6 : decode cX12_flows 6 = .ok (.iconst 0, 1) := by decide +kernel
theorem dX12_flows_7 : decode cX12_flows 7 = .ok (.invokevirtual 183, 3) := by decide +kernel
theorem dX12_flows_10 : decode cX12_flows 10 = .ok (.if_icmp .ge 97, 3) := by decide +kernel
theorem dX12_flows_13 : decode cX12_flows 13 = .ok (.iconst 0, 1) := by decide +kernel
theorem dX12_flows_14 : decode cX12_flows 14 = .ok (.istore_n 2, 1) := by decide +kernel
theorem dX12_flows_15 : decode cX12_flows 15 = .ok (.aload_n 0, 1) := by decide +kernel
theorem dX12_flows_16 : decode cX12_flows 16 = .ok (.iconst 4, 1) := by decide +kernel
theorem dX12_flows_17 : decode cX12_flows 17 = .ok (.invokevirtual 183, 3) := by decide +kernel
theorem dX12_flows_20 : decode cX12_flows 20 = .ok (.iload_n 1, 1) := by decide +kernel
theorem dX12_flows_21 : decode cX12_flows 21 = .ok (.invokestatic 186, 3) := by decide +kernel
theorem dX12_flows_24 : decode cX12_flows 24 = .ok (.ifCond .ne 68, 3) := by decide +kernel
theorem dX12_flows_27 : decode cX12_flows 27 = .ok (.aload_n 0, 1) := by decide +kernel
theorem dX12_flows_28 : decode cX12_flows 28 = .ok (.bipush 47, 2) := by decide +kernel
theorem dX12_flows_30 : decode cX12_flows 30 = .ok (.iload_n 1, 1) := by decide +kernel
theorem dX12_flows_31 : decode cX12_flows 31 = .ok (.iadd, 1) := by decide +kernel
theorem dX12_flows_32 : decode cX12_flows 32 = .ok (.invokevirtual 183, 3) := by decide +kernel
theorem dX12_flows_35 : decode cX12_flows 35 = .ok (.aload_n 0, 1) := by decide +kernel
theorem dX12_flows_36 : decode cX12_flows 36 = .ok (.bipush 31, 2) := by decide +kernel
theorem dX12_flows_38 : decode cX12_flows 38 = .ok (.iload_n 1, 1) := by decide +kernel
theorem dX12_flows_39 : decode cX12_flows 39 = .ok (.iadd, 1) := by decide +kernel
theorem dX12_flows_40 : decode cX12_flows 40 = .ok (.invokevirtual 183, 3) := by decide +kernel
theorem dX12_flows_43 : decode cX12_flows 43 = .ok (.aload_n 0, 1) := by decide +kernel
theorem dX12_flows_44 : decode cX12_flows 44 = .ok (.bipush 31, 2) := by decide +kernel
theorem dX12_flows_46 : decode cX12_flows 46 = .ok (.iload_n 1, 1) := by decide +kernel
theorem dX12_flows_47 : decode cX12_flows 47 = .ok (.iadd, 1) := by decide +kernel
theorem dX12_flows_48 : decode cX12_flows 48 = .ok (.iconst 1, 1) := by decide +kernel
theorem dX12_flows_49 : decode cX12_flows 49 = .ok (.iadd, 1) := by decide +kernel
theorem dX12_flows_50 : decode cX12_flows 50 = .ok (.invokevirtual 183, 3) := by decide +kernel
theorem dX12_flows_53 : decode cX12_flows 53 = .ok (.isub, 1) := by decide +kernel
theorem dX12_flows_54 : decode cX12_flows 54 = .ok (.aload_n 0, 1) := by decide +kernel
theorem dX12_flows_55 : decode cX12_flows 55 = .ok (.iconst 5, 1) := by decide +kernel
theorem dX12_flows_56 : decode cX12_flows 56 = .ok (.iload_n 1, 1) := by decide +kernel
theorem dX12_flows_57 : decode cX12_flows 57 = .ok (.iadd, 1) := by decide +kernel
theorem dX12_flows_58 : decode cX12_flows 58 = .ok (.invokevirtual 183, 3) := by decide +kernel
theorem dX12_flows_61 : decode cX12_flows 61 = .ok (.aload_n 0, 1) := by decide +kernel
theorem dX12_flows_62 : decode cX12_flows 62 = .ok (.iconst 5, 1) := by decide +kernel
theorem dX12_flows_63 : decode cX12_flows 63 = .ok (.iload_n 1, 1) := by decide +kernel
theorem dX12_flows_64 : decode cX12_flows 64 = .ok (.iadd, 1) := by decide +kernel
theorem dX12_flows_65 : decode cX12_flows 65 = .ok (.iconst 1, 1) := by decide +kernel
theorem dX12_flows_66 : decode cX12_flows 66 = .ok (.iadd, 1) := by decide +kernel
theorem dX12_flows_67 : decode cX12_flows 67 = .ok (.invokevirtual 183, 3) := by decide +kernel
theorem dX12_flows_70 : decode cX12_flows 70 = .ok (.invokestatic 189, 3) := by decide +kernel
theorem dX12_flows_73 : decode cX12_flows 73 = .ok (.imul, 1) := by decide +kernel
theorem dX12_flows_74 : decode cX12_flows 74 = .ok (.bipush 16, 2) := by decide +kernel
theorem dX12_flows_76 : decode cX12_flows 76 = .ok (.idiv, 1) := by decide +kernel
theorem dX12_flows_77 : decode cX12_flows 77 = .ok (.iadd, 1) := by decide +kernel
theorem dX12_flows_78 : decode cX12_flows 78 = .ok (.istore_n 2, 1) := by decide +kernel
theorem dX12_flows_79 : decode cX12_flows 79 = .ok (.iload_n 2, 1) := by decide +kernel
theorem dX12_flows_80 : decode cX12_flows 80 = .ok (.iload_n 2, 1) := by decide +kernel
theorem dX12_flows_81 : decode cX12_flows 81 = .ok (.aload_n 0, 1) := by decide +kernel
theorem dX12_flows_82 : decode cX12_flows 82 = .ok (.iconst 3, 1) := by decide +kernel
theorem dX12_flows_83 : decode cX12_flows 83 = .ok (.invokevirtual 183, 3) := by decide +kernel
theorem dX12_flows_86 : decode cX12_flows 86 = .ok (.imul, 1) := by decide +kernel
theorem dX12_flows_87 : decode cX12_flows 87 = .ok (.bipush 64, 2) := by decide +kernel
theorem dX12_flows_89 : decode cX12_flows 89 = .ok (.idiv, 1) := by decide +kernel
theorem dX12_flows_90 : decode cX12_flows 90 = .ok (.isub, 1) := by decide +kernel
theorem dX12_flows_91 : decode cX12_flows 91 = .ok (.istore_n 2, 1) := by decide +kernel
theorem dX12_flows_92 : decode cX12_flows 92 = .ok (.aload_n 0, 1) := by decide +kernel
theorem dX12_flows_93 : decode cX12_flows 93 = .ok (.bipush 47, 2) := by decide +kernel
theorem dX12_flows_95 : decode cX12_flows 95 = .ok (.iload_n 1, 1) := by decide +kernel
theorem dX12_flows_96 : decode cX12_flows 96 = .ok (.iadd, 1) := by decide +kernel
theorem dX12_flows_97 : decode cX12_flows 97 = .ok (.iload_n 2, 1) := by decide +kernel
theorem dX12_flows_98 : decode cX12_flows 98 = .ok (.invokevirtual 160, 3) := by decide +kernel
theorem dX12_flows_101 : decode cX12_flows 101 = .ok (.iinc 1 1, 3) := by decide +kernel
theorem dX12_flows_104 : decode cX12_flows 104 = .ok (.goto (-102), 3) := by decide +kernel
theorem dX12_flows_107 : decode cX12_flows 107 = .ok (.return_, 1) := by decide +kernel
theorem dX12_flowTo_0 : decode cX12_flowTo 0 = .ok (.iload_n 1, 1) := by decide +kernel
theorem dX12_flowTo_1 : decode cX12_flowTo 1 = .ok (.ifCond .le 16, 3) := by decide +kernel
theorem dX12_flowTo_4 : decode cX12_flowTo 4 = .ok (.aload_n 0, 1) := by decide +kernel
theorem dX12_flowTo_5 : decode cX12_flowTo 5 = .ok (.bipush 47, 2) := by decide +kernel
theorem dX12_flowTo_7 : decode cX12_flowTo 7 = .ok (.iload_n 1, 1) := by decide +kernel
theorem dX12_flowTo_8 : decode cX12_flowTo 8 = .ok (.iadd, 1) := by decide +kernel
theorem dX12_flowTo_9 : decode cX12_flowTo 9 = .ok (.iconst 1, 1) := by decide +kernel
theorem dX12_flowTo_10 : decode cX12_flowTo 10 = .ok (.isub, 1) := by decide +kernel
theorem dX12_flowTo_11 : decode cX12_flowTo 11 = .ok (.invokevirtual 183, 3) := by decide +kernel
theorem dX12_flowTo_14 : decode cX12_flowTo 14 = .ok (.goto 4, 3) := by decide +kernel
theorem dX12_flowTo_17 : decode cX12_flowTo 17 = .ok (.iconst 0, 1) := by decide +kernel
theorem dX12_flowTo_18 : decode cX12_flowTo 18 = .ok (.ireturn, 1) := by decide +kernel
theorem dX12_flowFrom_0 : decode cX12_flowFrom 0 = .ok (.iload_n 1, 1) := by decide +kernel
theorem dX12_flowFrom_1 : decode cX12_flowFrom 1 = .ok (.iconst 1, 1) := by decide +kernel
theorem dX12_flowFrom_2 : decode cX12_flowFrom 2 = .ok (.iadd, 1) := by decide +kernel
theorem dX12_flowFrom_3 : decode cX12_flowFrom 3 = .ok (.aload_n 0, 1) := by decide +kernel
theorem dX12_flowFrom_4 : decode cX12_flowFrom 4 = .ok (.iconst 0, 1) := by decide +kernel
theorem dX12_flowFrom_5 : decode cX12_flowFrom 5 = .ok (.invokevirtual 183, 3) := by decide +kernel
theorem dX12_flowFrom_8 : decode cX12_flowFrom 8 = .ok (.if_icmp .ge 14, 3) := by decide +kernel
theorem dX12_flowFrom_11 : decode cX12_flowFrom 11 = .ok (.aload_n 0, 1) := by decide +kernel
theorem dX12_flowFrom_12 : decode cX12_flowFrom 12 = .ok (.bipush 47, 2) := by decide +kernel
theorem dX12_flowFrom_14 : decode cX12_flowFrom 14 = .ok (.iload_n 1, 1) := by decide +kernel
theorem dX12_flowFrom_15 : decode cX12_flowFrom 15 = .ok (.iadd, 1) := by decide +kernel
theorem dX12_flowFrom_16 : decode cX12_flowFrom 16 = .ok (.invokevirtual 183, 3) := by decide +kernel
theorem dX12_flowFrom_19 : decode cX12_flowFrom 19 = .ok (.goto 4, 3) := by decide +kernel
theorem dX12_flowFrom_22 : decode cX12_flowFrom 22 = .ok (.iconst 0, 1) := by decide +kernel
theorem dX12_flowFrom_23 : decode cX12_flowFrom 23 = .ok (.ireturn, 1) := by decide +kernel
theorem dX12_heights_0 : decode cX12_heights 0 = .ok (.iconst 0, 1) := by decide +kernel
theorem dX12_heights_1 : decode cX12_heights 1 = .ok (.istore_n 2, 1) := by decide +kernel
theorem dX12_heights_2 : decode cX12_heights 2 = .ok (.iload_n 2, 1) := by decide +kernel
theorem dX12_heights_3 : decode cX12_heights 3 = .ok (.aload_n 0, 1) := by decide +kernel
theorem dX12_heights_4 : decode cX12_heights 4 = .ok (.iconst 0, 1) := by decide +kernel
theorem dX12_heights_5 : decode cX12_heights 5 = .ok (.invokevirtual 183, 3) := by decide +kernel
theorem dX12_heights_8 : decode cX12_heights 8 = .ok (.if_icmp .ge 37, 3) := by decide +kernel
theorem dX12_heights_11 : decode cX12_heights 11 = .ok (.aload_n 0, 1) := by decide +kernel
theorem dX12_heights_12 : decode cX12_heights 12 = .ok (.bipush 31, 2) := by decide +kernel
theorem dX12_heights_14 : decode cX12_heights 14 = .ok (.iload_n 2, 1) := by decide +kernel
theorem dX12_heights_15 : decode cX12_heights 15 = .ok (.iadd, 1) := by decide +kernel
theorem dX12_heights_16 : decode cX12_heights 16 = .ok (.aload_n 0, 1) := by decide +kernel
theorem dX12_heights_17 : decode cX12_heights 17 = .ok (.bipush 31, 2) := by decide +kernel
theorem dX12_heights_19 : decode cX12_heights 19 = .ok (.iload_n 2, 1) := by decide +kernel
theorem dX12_heights_20 : decode cX12_heights 20 = .ok (.iadd, 1) := by decide +kernel
theorem dX12_heights_21 : decode cX12_heights 21 = .ok (.invokevirtual 183, 3) := by decide +kernel
theorem dX12_heights_24 : decode cX12_heights 24 = .ok (.aload_n 0, 1) := by decide +kernel
theorem dX12_heights_25 : decode cX12_heights 25 = .ok (.iload_n 2, 1) := by decide +kernel
theorem dX12_heights_26 : decode cX12_heights 26 = .ok (.invokevirtual 192, 3) := by decide +kernel
theorem dX12_heights_29 : decode cX12_heights 29 = .ok (.iadd, 1) := by decide +kernel
theorem dX12_heights_30 : decode cX12_heights 30 = .ok (.aload_n 0, 1) := by decide +kernel
theorem dX12_heights_31 : decode cX12_heights 31 = .ok (.iload_n 2, 1) := by decide +kernel
theorem dX12_heights_32 : decode cX12_heights 32 = .ok (.invokevirtual 195, 3) := by decide +kernel
theorem dX12_heights_35 : decode cX12_heights 35 = .ok (.isub, 1) := by decide +kernel
theorem dX12_heights_36 : decode cX12_heights 36 = .ok (.invokevirtual 160, 3) := by decide +kernel
theorem dX12_heights_39 : decode cX12_heights 39 = .ok (.iinc 2 1, 3) := by decide +kernel
theorem dX12_heights_42 : decode cX12_heights 42 = .ok (.goto (-40), 3) := by decide +kernel
theorem dX12_heights_45 : decode cX12_heights 45 = .ok (.bipush 31, 2) := by decide +kernel
theorem dX12_heights_47 : decode cX12_heights 47 = .ok (.aload_n 0, 1) := by decide +kernel
theorem dX12_heights_48 : decode cX12_heights 48 = .ok (.iconst 1, 1) := by decide +kernel
theorem dX12_heights_49 : decode cX12_heights 49 = .ok (.invokevirtual 183, 3) := by decide +kernel
theorem dX12_heights_52 : decode cX12_heights 52 = .ok (.iadd, 1) := by decide +kernel
theorem dX12_heights_53 : decode cX12_heights 53 = .ok (.istore_n 2, 1) := by decide +kernel
theorem dX12_heights_54 : decode cX12_heights 54 = .ok (.aload_n 0, 1) := by decide +kernel
theorem dX12_heights_55 : decode cX12_heights 55 = .ok (.iload_n 2, 1) := by decide +kernel
theorem dX12_heights_56 : decode cX12_heights 56 = .ok (.aload_n 0, 1) := by decide +kernel
theorem dX12_heights_57 : decode cX12_heights 57 = .ok (.iload_n 2, 1) := by decide +kernel
theorem dX12_heights_58 : decode cX12_heights 58 = .ok (.invokevirtual 183, 3) := by decide +kernel
theorem dX12_heights_61 : decode cX12_heights 61 = .ok (.iload_n 1, 1) := by decide +kernel
theorem dX12_heights_62 : decode cX12_heights 62 = .ok (.aload_n 0, 1) := by decide +kernel
theorem dX12_heights_63 : decode cX12_heights 63 = .ok (.iload_n 2, 1) := by decide +kernel
theorem dX12_heights_64 : decode cX12_heights 64 = .ok (.invokevirtual 183, 3) := by decide +kernel
theorem dX12_heights_67 : decode cX12_heights 67 = .ok (.isub, 1) := by decide +kernel
theorem dX12_heights_68 : decode cX12_heights 68 = .ok (.aload_n 0, 1) := by decide +kernel
theorem dX12_heights_69 : decode cX12_heights 69 = .ok (.iconst 2, 1) := by decide +kernel
theorem dX12_heights_70 : decode cX12_heights 70 = .ok (.invokevirtual 183, 3) := by decide +kernel
theorem dX12_heights_73 : decode cX12_heights 73 = .ok (.imul, 1) := by decide +kernel
theorem dX12_heights_74 : decode cX12_heights 74 = .ok (.bipush 16, 2) := by decide +kernel
theorem dX12_heights_76 : decode cX12_heights 76 = .ok (.idiv, 1) := by decide +kernel
theorem dX12_heights_77 : decode cX12_heights 77 = .ok (.iadd, 1) := by decide +kernel
theorem dX12_heights_78 : decode cX12_heights 78 = .ok (.invokevirtual 160, 3) := by decide +kernel
theorem dX12_heights_81 : decode cX12_heights 81 = .ok (.return_, 1) := by decide +kernel
theorem dX12_strainOf_0 : decode cX12_strainOf 0 = .ok (.iload_n 0, 1) := by decide +kernel
theorem dX12_strainOf_1 : decode cX12_strainOf 1 = .ok (.ifCond .ge 8, 3) := by decide +kernel
theorem dX12_strainOf_4 : decode cX12_strainOf 4 = .ok (.iload_n 0, 1) := by decide +kernel
theorem dX12_strainOf_5 : decode cX12_strainOf 5 = .ok (.ineg, 1) := by decide +kernel
theorem dX12_strainOf_6 : decode cX12_strainOf 6 = .ok (.goto 4, 3) := by decide +kernel
theorem dX12_strainOf_9 : decode cX12_strainOf 9 = .ok (.iload_n 0, 1) := by decide +kernel
theorem dX12_strainOf_10 : decode cX12_strainOf 10 = .ok (.iload_n 2, 1) := by decide +kernel
theorem dX12_strainOf_11 : decode cX12_strainOf 11 = .ok (.isub, 1) := by decide +kernel
theorem dX12_strainOf_12 : decode cX12_strainOf 12 = .ok (.istore_n 3, 1) := by decide +kernel
theorem dX12_strainOf_13 : decode cX12_strainOf 13 = .ok (.iload_n 3, 1) := by decide +kernel
theorem dX12_strainOf_14 : decode cX12_strainOf 14 = .ok (.ifCond .le 9, 3) := by decide +kernel
theorem dX12_strainOf_17 : decode cX12_strainOf 17 = .ok (.iload_n 1, 1) := by decide +kernel
theorem dX12_strainOf_18 : decode cX12_strainOf 18 = .ok (.iload_n 3, 1) := by decide +kernel
theorem dX12_strainOf_19 : decode cX12_strainOf 19 = .ok (.imul, 1) := by decide +kernel
theorem dX12_strainOf_20 : decode cX12_strainOf 20 = .ok (.goto 4, 3) := by decide +kernel
theorem dX12_strainOf_23 : decode cX12_strainOf 23 = .ok (.iconst 0, 1) := by decide +kernel
theorem dX12_strainOf_24 : decode cX12_strainOf 24 = .ok (.ireturn, 1) := by decide +kernel
theorem dX12_moves_0 : decode cX12_moves 0 = .ok (.aload_n 0, 1) := by decide +kernel
theorem dX12_moves_1 : decode cX12_moves 1 = .ok (.iload_n 1, 1) := by decide +kernel
theorem dX12_moves_2 : decode cX12_moves 2 = .ok (.bipush 6, 2) := by decide +kernel
theorem dX12_moves_4 : decode cX12_moves 4 = .ok (.iadd, 1) := by decide +kernel
theorem dX12_moves_5 : decode cX12_moves 5 = .ok (.invokevirtual 183, 3) := by decide +kernel
theorem dX12_moves_8 : decode cX12_moves 8 = .ok (.istore_n 3, 1) := by decide +kernel
theorem dX12_moves_9 : decode cX12_moves 9 = .ok (.iload_n 3, 1) := by decide +kernel
theorem dX12_moves_10 : decode cX12_moves 10 = .ok (.aload_n 0, 1) := by decide +kernel
theorem dX12_moves_11 : decode cX12_moves 11 = .ok (.iload_n 1, 1) := by decide +kernel
theorem dX12_moves_12 : decode cX12_moves 12 = .ok (.iconst 3, 1) := by decide +kernel
theorem dX12_moves_13 : decode cX12_moves 13 = .ok (.iadd, 1) := by decide +kernel
theorem dX12_moves_14 : decode cX12_moves 14 = .ok (.invokevirtual 183, 3) := by decide +kernel
theorem dX12_moves_17 : decode cX12_moves 17 = .ok (.aload_n 0, 1) := by decide +kernel
theorem dX12_moves_18 : decode cX12_moves 18 = .ok (.iload_n 1, 1) := by decide +kernel
theorem dX12_moves_19 : decode cX12_moves 19 = .ok (.iconst 4, 1) := by decide +kernel
theorem dX12_moves_20 : decode cX12_moves 20 = .ok (.iadd, 1) := by decide +kernel
theorem dX12_moves_21 : decode cX12_moves 21 = .ok (.invokevirtual 183, 3) := by decide +kernel
theorem dX12_moves_24 : decode cX12_moves 24 = .ok (.invokestatic 198, 3) := by decide +kernel
theorem dX12_moves_27 : decode cX12_moves 27 = .ok (.istore 4, 2) := by decide +kernel
theorem dX12_moves_29 : decode cX12_moves 29 = .ok (.iload_n 2, 1) := by decide +kernel
theorem dX12_moves_30 : decode cX12_moves 30 = .ok (.iload_n 3, 1) := by decide +kernel
theorem dX12_moves_31 : decode cX12_moves 31 = .ok (.ifCond .le 8, 3) := by decide +kernel
theorem dX12_moves_34 : decode cX12_moves 34 = .ok (.iload 4, 2) := by decide +kernel
theorem dX12_moves_36 : decode cX12_moves 36 = .ok (.goto 6, 3) := by decide +kernel
theorem dX12_moves_39 : decode cX12_moves 39 = .ok (.iload 4, 2) := by decide +kernel
theorem dX12_moves_41 : decode cX12_moves 41 = .ok (.ineg, 1) := by decide +kernel
theorem dX12_moves_42 : decode cX12_moves 42 = .ok (.isub, 1) := by decide +kernel
theorem dX12_moves_43 : decode cX12_moves 43 = .ok (.istore 5, 2) := by decide +kernel
theorem dX12_moves_45 : decode cX12_moves 45 = .ok (.aload_n 0, 1) := by decide +kernel
theorem dX12_moves_46 : decode cX12_moves 46 = .ok (.iload_n 1, 1) := by decide +kernel
theorem dX12_moves_47 : decode cX12_moves 47 = .ok (.bipush 7, 2) := by decide +kernel
theorem dX12_moves_49 : decode cX12_moves 49 = .ok (.iadd, 1) := by decide +kernel
theorem dX12_moves_50 : decode cX12_moves 50 = .ok (.invokevirtual 183, 3) := by decide +kernel
theorem dX12_moves_53 : decode cX12_moves 53 = .ok (.iload 5, 2) := by decide +kernel
theorem dX12_moves_55 : decode cX12_moves 55 = .ok (.iconst 4, 1) := by decide +kernel
theorem dX12_moves_56 : decode cX12_moves 56 = .ok (.aload_n 0, 1) := by decide +kernel
theorem dX12_moves_57 : decode cX12_moves 57 = .ok (.iload_n 1, 1) := by decide +kernel
theorem dX12_moves_58 : decode cX12_moves 58 = .ok (.iconst 2, 1) := by decide +kernel
theorem dX12_moves_59 : decode cX12_moves 59 = .ok (.iadd, 1) := by decide +kernel
theorem dX12_moves_60 : decode cX12_moves 60 = .ok (.invokevirtual 183, 3) := by decide +kernel
theorem dX12_moves_63 : decode cX12_moves 63 = .ok (.imul, 1) := by decide +kernel
theorem dX12_moves_64 : decode cX12_moves 64 = .ok (.idiv, 1) := by decide +kernel
theorem dX12_moves_65 : decode cX12_moves 65 = .ok (.iadd, 1) := by decide +kernel
theorem dX12_moves_66 : decode cX12_moves 66 = .ok (.istore 6, 2) := by decide +kernel
theorem dX12_moves_68 : decode cX12_moves 68 = .ok (.iload 6, 2) := by decide +kernel
theorem dX12_moves_70 : decode cX12_moves 70 = .ok (.iload 6, 2) := by decide +kernel
theorem dX12_moves_72 : decode cX12_moves 72 = .ok (.bipush 16, 2) := by decide +kernel
theorem dX12_moves_74 : decode cX12_moves 74 = .ok (.idiv, 1) := by decide +kernel
theorem dX12_moves_75 : decode cX12_moves 75 = .ok (.isub, 1) := by decide +kernel
theorem dX12_moves_76 : decode cX12_moves 76 = .ok (.istore 6, 2) := by decide +kernel
theorem dX12_moves_78 : decode cX12_moves 78 = .ok (.iload_n 3, 1) := by decide +kernel
theorem dX12_moves_79 : decode cX12_moves 79 = .ok (.iload 6, 2) := by decide +kernel
theorem dX12_moves_81 : decode cX12_moves 81 = .ok (.iadd, 1) := by decide +kernel
theorem dX12_moves_82 : decode cX12_moves 82 = .ok (.istore_n 3, 1) := by decide +kernel
theorem dX12_moves_83 : decode cX12_moves 83 = .ok (.aload_n 0, 1) := by decide +kernel
theorem dX12_moves_84 : decode cX12_moves 84 = .ok (.iload_n 1, 1) := by decide +kernel
theorem dX12_moves_85 : decode cX12_moves 85 = .ok (.bipush 6, 2) := by decide +kernel
theorem dX12_moves_87 : decode cX12_moves 87 = .ok (.iadd, 1) := by decide +kernel
theorem dX12_moves_88 : decode cX12_moves 88 = .ok (.iload_n 3, 1) := by decide +kernel
theorem dX12_moves_89 : decode cX12_moves 89 = .ok (.invokevirtual 160, 3) := by decide +kernel
theorem dX12_moves_92 : decode cX12_moves 92 = .ok (.aload_n 0, 1) := by decide +kernel
theorem dX12_moves_93 : decode cX12_moves 93 = .ok (.iload_n 1, 1) := by decide +kernel
theorem dX12_moves_94 : decode cX12_moves 94 = .ok (.bipush 7, 2) := by decide +kernel
theorem dX12_moves_96 : decode cX12_moves 96 = .ok (.iadd, 1) := by decide +kernel
theorem dX12_moves_97 : decode cX12_moves 97 = .ok (.iload 6, 2) := by decide +kernel
theorem dX12_moves_99 : decode cX12_moves 99 = .ok (.invokevirtual 160, 3) := by decide +kernel
theorem dX12_moves_102 : decode cX12_moves 102 = .ok (.return_, 1) := by decide +kernel
theorem dX12_watches_0 : decode cX12_watches 0 = .ok (.aload_n 0, 1) := by decide +kernel
theorem dX12_watches_1 : decode cX12_watches 1 = .ok (.iload_n 1, 1) := by decide +kernel
theorem dX12_watches_2 : decode cX12_watches 2 = .ok (.bipush 6, 2) := by decide +kernel
theorem dX12_watches_4 : decode cX12_watches 4 = .ok (.iadd, 1) := by decide +kernel
theorem dX12_watches_5 : decode cX12_watches 5 = .ok (.invokevirtual 183, 3) := by decide +kernel
theorem dX12_watches_8 : decode cX12_watches 8 = .ok (.aload_n 0, 1) := by decide +kernel
theorem dX12_watches_9 : decode cX12_watches 9 = .ok (.iload_n 1, 1) := by decide +kernel
theorem dX12_watches_10 : decode cX12_watches 10 = .ok (.iconst 3, 1) := by decide +kernel
theorem dX12_watches_11 : decode cX12_watches 11 = .ok (.iadd, 1) := by decide +kernel
theorem dX12_watches_12 : decode cX12_watches 12 = .ok (.invokevirtual 183, 3) := by decide +kernel
theorem dX12_watches_15 : decode cX12_watches 15 = .ok (.aload_n 0, 1) := by decide +kernel
theorem dX12_watches_16 : decode cX12_watches 16 = .ok (.iload_n 1, 1) := by decide +kernel
theorem dX12_watches_17 : decode cX12_watches 17 = .ok (.iconst 4, 1) := by decide +kernel
theorem dX12_watches_18 : decode cX12_watches 18 = .ok (.iadd, 1) := by decide +kernel
theorem dX12_watches_19 : decode cX12_watches 19 = .ok (.invokevirtual 183, 3) := by decide +kernel
theorem dX12_watches_22 : decode cX12_watches 22 = .ok (.invokestatic 198, 3) := by decide +kernel
theorem dX12_watches_25 : decode cX12_watches 25 = .ok (.istore_n 2, 1) := by decide +kernel
theorem dX12_watches_26 : decode cX12_watches 26 = .ok (.aload_n 0, 1) := by decide +kernel
theorem dX12_watches_27 : decode cX12_watches 27 = .ok (.iload_n 1, 1) := by decide +kernel
theorem dX12_watches_28 : decode cX12_watches 28 = .ok (.bipush 8, 2) := by decide +kernel
theorem dX12_watches_30 : decode cX12_watches 30 = .ok (.iadd, 1) := by decide +kernel
theorem dX12_watches_31 : decode cX12_watches 31 = .ok (.aload_n 0, 1) := by decide +kernel
theorem dX12_watches_32 : decode cX12_watches 32 = .ok (.iload_n 1, 1) := by decide +kernel
theorem dX12_watches_33 : decode cX12_watches 33 = .ok (.bipush 8, 2) := by decide +kernel
theorem dX12_watches_35 : decode cX12_watches 35 = .ok (.iadd, 1) := by decide +kernel
theorem dX12_watches_36 : decode cX12_watches 36 = .ok (.invokevirtual 183, 3) := by decide +kernel
theorem dX12_watches_39 : decode cX12_watches 39 = .ok (.iload_n 2, 1) := by decide +kernel
theorem dX12_watches_40 : decode cX12_watches 40 = .ok (.invokestatic 202, 3) := by decide +kernel
theorem dX12_watches_43 : decode cX12_watches 43 = .ok (.invokevirtual 160, 3) := by decide +kernel
theorem dX12_watches_46 : decode cX12_watches 46 = .ok (.aload_n 0, 1) := by decide +kernel
theorem dX12_watches_47 : decode cX12_watches 47 = .ok (.iload_n 1, 1) := by decide +kernel
theorem dX12_watches_48 : decode cX12_watches 48 = .ok (.bipush 9, 2) := by decide +kernel
theorem dX12_watches_50 : decode cX12_watches 50 = .ok (.iadd, 1) := by decide +kernel
theorem dX12_watches_51 : decode cX12_watches 51 = .ok (.invokevirtual 183, 3) := by decide +kernel
theorem dX12_watches_54 : decode cX12_watches 54 = .ok (.bipush (-9), 2) := by decide +kernel
theorem dX12_watches_56 : decode cX12_watches 56 = .ok (.if_icmp .ne 28, 3) := by decide +kernel
theorem dX12_watches_59 : decode cX12_watches 59 = .ok (.iload_n 2, 1) := by decide +kernel
theorem dX12_watches_60 : decode cX12_watches 60 = .ok (.aload_n 0, 1) := by decide +kernel
theorem dX12_watches_61 : decode cX12_watches 61 = .ok (.iload_n 1, 1) := by decide +kernel
theorem dX12_watches_62 : decode cX12_watches 62 = .ok (.iconst 5, 1) := by decide +kernel
theorem dX12_watches_63 : decode cX12_watches 63 = .ok (.iadd, 1) := by decide +kernel
theorem dX12_watches_64 : decode cX12_watches 64 = .ok (.invokevirtual 183, 3) := by decide +kernel
theorem dX12_watches_67 : decode cX12_watches 67 = .ok (.if_icmp .le 17, 3) := by decide +kernel
theorem dX12_watches_70 : decode cX12_watches 70 = .ok (.aload_n 0, 1) := by decide +kernel
theorem dX12_watches_71 : decode cX12_watches 71 = .ok (.iload_n 1, 1) := by decide +kernel
theorem dX12_watches_72 : decode cX12_watches 72 = .ok (.bipush 9, 2) := by decide +kernel
theorem dX12_watches_74 : decode cX12_watches 74 = .ok (.iadd, 1) := by decide +kernel
theorem dX12_watches_75 : decode cX12_watches 75 = .ok (.aload_n 0, 1) := by decide +kernel
theorem dX12_watches_76 : decode cX12_watches 76 = .ok (.bipush 30, 2) := by decide +kernel
theorem dX12_watches_78 : decode cX12_watches 78 = .ok (.invokevirtual 183, 3) := by decide +kernel
