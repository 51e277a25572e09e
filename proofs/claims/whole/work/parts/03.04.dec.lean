theorem dX11_since_145 : decode cX11_since 145 = .ok (.sipush 10000, 3) := by decide +kernel
theorem dX11_since_148 : decode cX11_since 148 = .ok (.invokevirtual 455, 3) := by decide +kernel
theorem dX11_since_151 : decode cX11_since 151 = .ok (.ifCond .ne 9, 3) := by decide +kernel
theorem dX11_since_154 : decode cX11_since 154 = .ok (.aload_n 0, 1) := by decide +kernel
theorem dX11_since_155 : decode cX11_since 155 = .ok (.iconst 3, 1) := by decide +kernel
theorem dX11_since_156 : decode cX11_since 156 = .ok (.invokevirtual 129, 3) := by decide +kernel
theorem dX11_since_159 : decode cX11_since 159 = .ok (.ireturn, 1) := by decide +kernel
theorem dX11_since_160 : decode cX11_since 160 = .ok (.aload_n 0, 1) := by decide +kernel
theorem dX11_since_161 : decode cX11_since 161 = .ok (.aload_n 0, 1) := by decide +kernel
theorem dX11_since_162 : decode cX11_since 162 = .ok (.getfield 23, 3) := by decide +kernel
theorem dX11_since_165 : decode cX11_since 165 = .ok (.iload_n 1, 1) := by decide +kernel
theorem dX11_since_166 : decode cX11_since 166 = .ok (.aaload, 1) := by decide +kernel
theorem dX11_since_167 : decode cX11_since 167 = .ok (.aload_n 0, 1) := by decide +kernel
theorem dX11_since_168 : decode cX11_since 168 = .ok (.getfield 29, 3) := by decide +kernel
theorem dX11_since_171 : decode cX11_since 171 = .ok (.iload_n 2, 1) := by decide +kernel
theorem dX11_since_172 : decode cX11_since 172 = .ok (.aaload, 1) := by decide +kernel
theorem dX11_since_173 : decode cX11_since 173 = .ok (.iload_n 3, 1) := by decide +kernel
theorem dX11_since_174 : decode cX11_since 174 = .ok (.aload_n 0, 1) := by decide +kernel
theorem dX11_since_175 : decode cX11_since 175 = .ok (.getfield 11, 3) := by decide +kernel
theorem dX11_since_178 : decode cX11_since 178 = .ok (.iload 5, 2) := by decide +kernel
theorem dX11_since_180 : decode cX11_since 180 = .ok (.aaload, 1) := by decide +kernel
theorem dX11_since_181 : decode cX11_since 181 = .ok (.invokevirtual 458, 3) := by decide +kernel
theorem dX11_since_184 : decode cX11_since 184 = .ok (.istore 6, 2) := by decide +kernel
theorem dX11_since_186 : decode cX11_since 186 = .ok (.aload_n 0, 1) := by decide +kernel
theorem dX11_since_187 : decode cX11_since 187 = .ok (.getfield 69, 3) := by decide +kernel
theorem dX11_since_190 : decode cX11_since 190 = .ok (.aload_n 0, 1) := by decide +kernel
theorem dX11_since_191 : decode cX11_since 191 = .ok (.getfield 23, 3) := by decide +kernel
theorem dX11_since_194 : decode cX11_since 194 = .ok (.iload_n 1, 1) := by decide +kernel
theorem dX11_since_195 : decode cX11_since 195 = .ok (.aaload, 1) := by decide +kernel
theorem dX11_since_196 : decode cX11_since 196 = .ok (.invokevirtual 187, 3) := by decide +kernel
theorem dX11_since_199 : decode cX11_since 199 = .ok (.aload_n 0, 1) := by decide +kernel
theorem dX11_since_200 : decode cX11_since 200 = .ok (.getfield 69, 3) := by decide +kernel
theorem dX11_since_203 : decode cX11_since 203 = .ok (.iload 4, 2) := by decide +kernel
theorem dX11_since_205 : decode cX11_since 205 = .ok (.invokevirtual 462, 3) := by decide +kernel
theorem dX11_since_208 : decode cX11_since 208 = .ok (.aload_n 0, 1) := by decide +kernel
theorem dX11_since_209 : decode cX11_since 209 = .ok (.aload_n 0, 1) := by decide +kernel
theorem dX11_since_210 : decode cX11_since 210 = .ok (.getfield 69, 3) := by decide +kernel
theorem dX11_since_213 : decode cX11_since 213 = .ok (.aload_n 0, 1) := by decide +kernel
theorem dX11_since_214 : decode cX11_since 214 = .ok (.getfield 29, 3) := by decide +kernel
theorem dX11_since_217 : decode cX11_since 217 = .ok (.iload_n 2, 1) := by decide +kernel
theorem dX11_since_218 : decode cX11_since 218 = .ok (.aaload, 1) := by decide +kernel
theorem dX11_since_219 : decode cX11_since 219 = .ok (.iload_n 3, 1) := by decide +kernel
theorem dX11_since_220 : decode cX11_since 220 = .ok (.aload_n 0, 1) := by decide +kernel
theorem dX11_since_221 : decode cX11_since 221 = .ok (.getfield 11, 3) := by decide +kernel
theorem dX11_since_224 : decode cX11_since 224 = .ok (.iload 5, 2) := by decide +kernel
theorem dX11_since_226 : decode cX11_since 226 = .ok (.aaload, 1) := by decide +kernel
theorem dX11_since_227 : decode cX11_since 227 = .ok (.invokevirtual 458, 3) := by decide +kernel
theorem dX11_since_230 : decode cX11_since 230 = .ok (.istore 7, 2) := by decide +kernel
theorem dX11_since_232 : decode cX11_since 232 = .ok (.aload_n 0, 1) := by decide +kernel
theorem dX11_since_233 : decode cX11_since 233 = .ok (.iload 6, 2) := by decide +kernel
theorem dX11_since_235 : decode cX11_since 235 = .ok (.iload 7, 2) := by decide +kernel
theorem dX11_since_237 : decode cX11_since 237 = .ok (.isub, 1) := by decide +kernel
theorem dX11_since_238 : decode cX11_since 238 = .ok (.invokestatic 318, 3) := by decide +kernel
theorem dX11_since_241 : decode cX11_since 241 = .ok (.iload 6, 2) := by decide +kernel
theorem dX11_since_243 : decode cX11_since 243 = .ok (.iload 7, 2) := by decide +kernel
theorem dX11_since_245 : decode cX11_since 245 = .ok (.if_icmp .le 7, 3) := by decide +kernel
theorem dX11_since_248 : decode cX11_since 248 = .ok (.iconst 1, 1) := by decide +kernel
theorem dX11_since_249 : decode cX11_since 249 = .ok (.goto 4, 3) := by decide +kernel
theorem dX11_since_252 : decode cX11_since 252 = .ok (.iconst 0, 1) := by decide +kernel
theorem dX11_since_253 : decode cX11_since 253 = .ok (.invokevirtual 143, 3) := by decide +kernel
theorem dX11_since_256 : decode cX11_since 256 = .ok (.ireturn, 1) := by decide +kernel
theorem dX11_which_0 : decode cX11_which 0 = .ok (.iload_n 1, 1) := by decide +kernel
theorem dX11_which_1 : decode cX11_which 1 = .ok (.invokestatic 181, 3) := by decide +kernel
theorem dX11_which_4 : decode cX11_which 4 = .ok (.ifCond .eq 17, 3) := by decide +kernel
theorem dX11_which_7 : decode cX11_which 7 = .ok (.iload_n 2, 1) := by decide +kernel
theorem dX11_which_8 : decode cX11_which 8 = .ok (.invokestatic 225, 3) := by decide +kernel
theorem dX11_which_11 : decode cX11_which 11 = .ok (.ifCond .eq 10, 3) := by decide +kernel
theorem dX11_which_14 : decode cX11_which 14 = .ok (.iload_n 3, 1) := by decide +kernel
theorem dX11_which_15 : decode cX11_which 15 = .ok (.invokestatic 125, 3) := by decide +kernel
theorem dX11_which_18 : decode cX11_which 18 = .ok (.ifCond .ne 5, 3) := by decide +kernel
theorem dX11_which_21 : decode cX11_which 21 = .ok (.iconst (-1), 1) := by decide +kernel
theorem dX11_which_22 : decode cX11_which 22 = .ok (.ireturn, 1) := by decide +kernel
theorem dX11_which_23 : decode cX11_which 23 = .ok (.aload_n 0, 1) := by decide +kernel
theorem dX11_which_24 : decode cX11_which 24 = .ok (.getfield 23, 3) := by decide +kernel
theorem dX11_which_27 : decode cX11_which 27 = .ok (.iload_n 1, 1) := by decide +kernel
theorem dX11_which_28 : decode cX11_which 28 = .ok (.aaload, 1) := by decide +kernel
theorem dX11_which_29 : decode cX11_which 29 = .ok (.getfield 206, 3) := by decide +kernel
theorem dX11_which_32 : decode cX11_which 32 = .ok (.ifCond .eq 22, 3) := by decide +kernel
theorem dX11_which_35 : decode cX11_which 35 = .ok (.aload_n 0, 1) := by decide +kernel
theorem dX11_which_36 : decode cX11_which 36 = .ok (.getfield 11, 3) := by decide +kernel
theorem dX11_which_39 : decode cX11_which 39 = .ok (.iload_n 3, 1) := by decide +kernel
theorem dX11_which_40 : decode cX11_which 40 = .ok (.aaload, 1) := by decide +kernel
theorem dX11_which_41 : decode cX11_which 41 = .ok (.getfield 136, 3) := by decide +kernel
theorem dX11_which_44 : decode cX11_which 44 = .ok (.ifCond .eq 10, 3) := by decide +kernel
theorem dX11_which_47 : decode cX11_which 47 = .ok (.aload_n 0, 1) := by decide +kernel
theorem dX11_which_48 : decode cX11_which 48 = .ok (.invokevirtual 390, 3) := by decide +kernel
theorem dX11_which_51 : decode cX11_which 51 = .ok (.ifCond .ne 9, 3) := by decide +kernel
theorem dX11_which_54 : decode cX11_which 54 = .ok (.aload_n 0, 1) := by decide +kernel
theorem dX11_which_55 : decode cX11_which 55 = .ok (.iconst 1, 1) := by decide +kernel
theorem dX11_which_56 : decode cX11_which 56 = .ok (.invokevirtual 129, 3) := by decide +kernel
theorem dX11_which_59 : decode cX11_which 59 = .ok (.ireturn, 1) := by decide +kernel
theorem dX11_which_60 : decode cX11_which 60 = .ok (.aload_n 0, 1) := by decide +kernel
theorem dX11_which_61 : decode cX11_which 61 = .ok (.getfield 11, 3) := by decide +kernel
theorem dX11_which_64 : decode cX11_which 64 = .ok (.iload_n 3, 1) := by decide +kernel
theorem dX11_which_65 : decode cX11_which 65 = .ok (.aaload, 1) := by decide +kernel
theorem dX11_which_66 : decode cX11_which 66 = .ok (.getfield 157, 3) := by decide +kernel
theorem dX11_which_69 : decode cX11_which 69 = .ok (.iconst 1, 1) := by decide +kernel
theorem dX11_which_70 : decode cX11_which 70 = .ok (.if_icmp .ge 9, 3) := by decide +kernel
theorem dX11_which_73 : decode cX11_which 73 = .ok (.aload_n 0, 1) := by decide +kernel
theorem dX11_which_74 : decode cX11_which 74 = .ok (.iconst 5, 1) := by decide +kernel
theorem dX11_which_75 : decode cX11_which 75 = .ok (.invokevirtual 129, 3) := by decide +kernel
theorem dX11_which_78 : decode cX11_which 78 = .ok (.ireturn, 1) := by decide +kernel
theorem dX11_which_79 : decode cX11_which 79 = .ok (.aload_n 0, 1) := by decide +kernel
theorem dX11_which_80 : decode cX11_which 80 = .ok (.getfield 23, 3) := by decide +kernel
theorem dX11_which_83 : decode cX11_which 83 = .ok (.iload_n 1, 1) := by decide +kernel
theorem dX11_which_84 : decode cX11_which 84 = .ok (.aaload, 1) := by decide +kernel
theorem dX11_which_85 : decode cX11_which 85 = .ok (.iload_n 2, 1) := by decide +kernel
theorem dX11_which_86 : decode cX11_which 86 = .ok (.invokevirtual 207, 3) := by decide +kernel
theorem dX11_which_89 : decode cX11_which 89 = .ok (.ifCond .ne 9, 3) := by decide +kernel
theorem dX11_which_92 : decode cX11_which 92 = .ok (.aload_n 0, 1) := by decide +kernel
theorem dX11_which_93 : decode cX11_which 93 = .ok (.iconst 2, 1) := by decide +kernel
theorem dX11_which_94 : decode cX11_which 94 = .ok (.invokevirtual 129, 3) := by decide +kernel
theorem dX11_which_97 : decode cX11_which 97 = .ok (.ireturn, 1) := by decide +kernel
theorem dX11_which_98 : decode cX11_which 98 = .ok (.aload_n 0, 1) := by decide +kernel
theorem dX11_which_99 : decode cX11_which 99 = .ok (.getfield 11, 3) := by decide +kernel
theorem dX11_which_102 : decode cX11_which 102 = .ok (.iload_n 3, 1) := by decide +kernel
theorem dX11_which_103 : decode cX11_which 103 = .ok (.aaload, 1) := by decide +kernel
theorem dX11_which_104 : decode cX11_which 104 = .ok (.sipush (-10000), 3) := by decide +kernel
theorem dX11_which_107 : decode cX11_which 107 = .ok (.sipush 10000, 3) := by decide +kernel
theorem dX11_which_110 : decode cX11_which 110 = .ok (.invokevirtual 455, 3) := by decide +kernel
theorem dX11_which_113 : decode cX11_which 113 = .ok (.ifCond .ne 9, 3) := by decide +kernel
theorem dX11_which_116 : decode cX11_which 116 = .ok (.aload_n 0, 1) := by decide +kernel
theorem dX11_which_117 : decode cX11_which 117 = .ok (.iconst 3, 1) := by decide +kernel
theorem dX11_which_118 : decode cX11_which 118 = .ok (.invokevirtual 129, 3) := by decide +kernel
theorem dX11_which_121 : decode cX11_which 121 = .ok (.ireturn, 1) := by decide +kernel
theorem dX11_which_122 : decode cX11_which 122 = .ok (.iconst (-1), 1) := by decide +kernel
theorem dX11_which_123 : decode cX11_which 123 = .ok (.istore 4, 2) := by decide +kernel
theorem dX11_which_125 : decode cX11_which 125 = .ok (.iconst 0, 1) := by decide +kernel
theorem dX11_which_126 : decode cX11_which 126 = .ok (.istore 5, 2) := by decide +kernel
theorem dX11_which_128 : decode cX11_which 128 = .ok (.iconst 0, 1) := by decide +kernel
theorem dX11_which_129 : decode cX11_which 129 = .ok (.istore 6, 2) := by decide +kernel
theorem dX11_which_131 : decode cX11_which 131 = .ok (.iload 6, 2) := by decide +kernel
theorem dX11_which_133 : decode cX11_which 133 = .ok (.iconst 4, 1) := by decide +kernel
theorem dX11_which_134 : decode cX11_which 134 = .ok (.if_icmp .ge 68, 3) := by decide +kernel
theorem dX11_which_137 : decode cX11_which 137 = .ok (.aload_n 0, 1) := by decide +kernel
theorem dX11_which_138 : decode cX11_which 138 = .ok (.getfield 29, 3) := by decide +kernel
theorem dX11_which_141 : decode cX11_which 141 = .ok (.iload 6, 2) := by decide +kernel
theorem dX11_which_143 : decode cX11_which 143 = .ok (.aaload, 1) := by decide +kernel
theorem dX11_which_144 : decode cX11_which 144 = .ok (.getfield 121, 3) := by decide +kernel
theorem dX11_which_147 : decode cX11_which 147 = .ok (.ifCond .eq 49, 3) := by decide +kernel
theorem dX11_which_150 : decode cX11_which 150 = .ok (.aload_n 0, 1) := by decide +kernel
theorem dX11_which_151 : decode cX11_which 151 = .ok (.aload_n 0, 1) := by decide +kernel
theorem dX11_which_152 : decode cX11_which 152 = .ok (.getfield 23, 3) := by decide +kernel
theorem dX11_which_155 : decode cX11_which 155 = .ok (.iload_n 1, 1) := by decide +kernel
theorem dX11_which_156 : decode cX11_which 156 = .ok (.aaload, 1) := by decide +kernel
theorem dX11_which_157 : decode cX11_which 157 = .ok (.aload_n 0, 1) := by decide +kernel
theorem dX11_which_158 : decode cX11_which 158 = .ok (.getfield 29, 3) := by decide +kernel
theorem dX11_which_161 : decode cX11_which 161 = .ok (.iload 6, 2) := by decide +kernel
theorem dX11_which_163 : decode cX11_which 163 = .ok (.aaload, 1) := by decide +kernel
theorem dX11_which_164 : decode cX11_which 164 = .ok (.iload_n 2, 1) := by decide +kernel
theorem dX11_which_165 : decode cX11_which 165 = .ok (.aload_n 0, 1) := by decide +kernel
theorem dX11_which_166 : decode cX11_which 166 = .ok (.getfield 11, 3) := by decide +kernel
theorem dX11_which_169 : decode cX11_which 169 = .ok (.iload_n 3, 1) := by decide +kernel
theorem dX11_which_170 : decode cX11_which 170 = .ok (.aaload, 1) := by decide +kernel
theorem dX11_which_171 : decode cX11_which 171 = .ok (.invokevirtual 458, 3) := by decide +kernel
theorem dX11_which_174 : decode cX11_which 174 = .ok (.istore 7, 2) := by decide +kernel
theorem dX11_which_176 : decode cX11_which 176 = .ok (.iload 4, 2) := by decide +kernel
theorem dX11_which_178 : decode cX11_which 178 = .ok (.ifCond .lt 10, 3) := by decide +kernel
theorem dX11_which_181 : decode cX11_which 181 = .ok (.iload 7, 2) := by decide +kernel
theorem dX11_which_183 : decode cX11_which 183 = .ok (.iload 5, 2) := by decide +kernel
theorem dX11_which_185 : decode cX11_which 185 = .ok (.if_icmp .ge 11, 3) := by decide +kernel
theorem dX11_which_188 : decode cX11_which 188 = .ok (.iload 6, 2) := by decide +kernel
theorem dX11_which_190 : decode cX11_which 190 = .ok (.istore 4, 2) := by decide +kernel
theorem dX11_which_192 : decode cX11_which 192 = .ok (.iload 7, 2) := by decide +kernel
theorem dX11_which_194 : decode cX11_which 194 = .ok (.istore 5, 2) := by decide +kernel
theorem dX11_which_196 : decode cX11_which 196 = .ok (.iinc 6 1, 3) := by decide +kernel
theorem dX11_which_199 : decode cX11_which 199 = .ok (.goto (-68), 3) := by decide +kernel
theorem dX11_which_202 : decode cX11_which 202 = .ok (.aload_n 0, 1) := by decide +kernel
theorem dX11_which_203 : decode cX11_which 203 = .ok (.iload 5, 2) := by decide +kernel
theorem dX11_which_205 : decode cX11_which 205 = .ok (.iload 4, 2) := by decide +kernel
theorem dX11_which_207 : decode cX11_which 207 = .ok (.invokevirtual 143, 3) := by decide +kernel
theorem dX11_which_210 : decode cX11_which 210 = .ok (.ireturn, 1) := by decide +kernel
theorem dX11_allWorks_0 : decode cX11_allWorks 0 = .ok (.iconst 1, 1) := by decide +kernel
theorem dX11_allWorks_1 : decode cX11_allWorks 1 = .ok (.aload_n 0, 1) := by decide +kernel
theorem dX11_allWorks_2 : decode cX11_allWorks 2 = .ok (.getfield 97, 3) := by decide +kernel
theorem dX11_allWorks_5 : decode cX11_allWorks 5 = .ok (.ishl, 1) := by decide +kernel
theorem dX11_allWorks_6 : decode cX11_allWorks 6 = .ok (.iconst 1, 1) := by decide +kernel
theorem dX11_allWorks_7 : decode cX11_allWorks 7 = .ok (.isub, 1) := by decide +kernel
theorem dX11_allWorks_8 : decode cX11_allWorks 8 = .ok (.ireturn, 1) := by decide +kernel
theorem dX11_costOf_0 : decode cX11_costOf 0 = .ok (.iconst 0, 1) := by decide +kernel
theorem dX11_costOf_1 : decode cX11_costOf 1 = .ok (.istore_n 2, 1) := by decide +kernel
theorem dX11_costOf_2 : decode cX11_costOf 2 = .ok (.iconst 0, 1) := by decide +kernel
theorem dX11_costOf_3 : decode cX11_costOf 3 = .ok (.istore_n 3, 1) := by decide +kernel
theorem dX11_costOf_4 : decode cX11_costOf 4 = .ok (.iload_n 3, 1) := by decide +kernel
theorem dX11_costOf_5 : decode cX11_costOf 5 = .ok (.aload_n 0, 1) := by decide +kernel
theorem dX11_costOf_6 : decode cX11_costOf 6 = .ok (.getfield 97, 3) := by decide +kernel
theorem dX11_costOf_9 : decode cX11_costOf 9 = .ok (.if_icmp .ge 34, 3) := by decide +kernel
theorem dX11_costOf_12 : decode cX11_costOf 12 = .ok (.iload_n 2, 1) := by decide +kernel
theorem dX11_costOf_13 : decode cX11_costOf 13 = .ok (.iload_n 1, 1) := by decide +kernel
theorem dX11_costOf_14 : decode cX11_costOf 14 = .ok (.iload_n 3, 1) := by decide +kernel
theorem dX11_costOf_15 : decode cX11_costOf 15 = .ok (.ishr, 1) := by decide +kernel
theorem dX11_costOf_16 : decode cX11_costOf 16 = .ok (.iconst 1, 1) := by decide +kernel
theorem dX11_costOf_17 : decode cX11_costOf 17 = .ok (.iand, 1) := by decide +kernel
theorem dX11_costOf_18 : decode cX11_costOf 18 = .ok (.iconst 1, 1) := by decide +kernel
theorem dX11_costOf_19 : decode cX11_costOf 19 = .ok (.if_icmp .ne 15, 3) := by decide +kernel
theorem dX11_costOf_22 : decode cX11_costOf 22 = .ok (.aload_n 0, 1) := by decide +kernel
theorem dX11_costOf_23 : decode cX11_costOf 23 = .ok (.getfield 41, 3) := by decide +kernel
theorem dX11_costOf_26 : decode cX11_costOf 26 = .ok (.iload_n 3, 1) := by decide +kernel
theorem dX11_costOf_27 : decode cX11_costOf 27 = .ok (.aaload, 1) := by decide +kernel
theorem dX11_costOf_28 : decode cX11_costOf 28 = .ok (.getfield 465, 3) := by decide +kernel
theorem dX11_costOf_31 : decode cX11_costOf 31 = .ok (.goto 4, 3) := by decide +kernel
theorem dX11_costOf_34 : decode cX11_costOf 34 = .ok (.iconst 0, 1) := by decide +kernel
theorem dX11_costOf_35 : decode cX11_costOf 35 = .ok (.iadd, 1) := by decide +kernel
theorem dX11_costOf_36 : decode cX11_costOf 36 = .ok (.istore_n 2, 1) := by decide +kernel
theorem dX11_costOf_37 : decode cX11_costOf 37 = .ok (.iinc 3 1, 3) := by decide +kernel
theorem dX11_costOf_40 : decode cX11_costOf 40 = .ok (.goto (-36), 3) := by decide +kernel
theorem dX11_costOf_43 : decode cX11_costOf 43 = .ok (.iload_n 2, 1) := by decide +kernel
theorem dX11_costOf_44 : decode cX11_costOf 44 = .ok (.ireturn, 1) := by decide +kernel
theorem dX11_quietWith_0 : decode cX11_quietWith 0 = .ok (.aload_n 0, 1) := by decide +kernel
theorem dX11_quietWith_1 : decode cX11_quietWith 1 = .ok (.getfield 69, 3) := by decide +kernel
theorem dX11_quietWith_4 : decode cX11_quietWith 4 = .ok (.aload_n 1, 1) := by decide +kernel
theorem dX11_quietWith_5 : decode cX11_quietWith 5 = .ok (.invokevirtual 187, 3) := by decide +kernel
theorem dX11_quietWith_8 : decode cX11_quietWith 8 = .ok (.iconst 0, 1) := by decide +kernel
theorem dX11_quietWith_9 : decode cX11_quietWith 9 = .ok (.istore 4, 2) := by decide +kernel
theorem dX11_quietWith_11 : decode cX11_quietWith 11 = .ok (.iload 4, 2) := by decide +kernel
theorem dX11_quietWith_13 : decode cX11_quietWith 13 = .ok (.aload_n 0, 1) := by decide +kernel
theorem dX11_quietWith_14 : decode cX11_quietWith 14 = .ok (.getfield 97, 3) := by decide +kernel
theorem dX11_quietWith_17 : decode cX11_quietWith 17 = .ok (.if_icmp .ge 33, 3) := by decide +kernel
theorem dX11_quietWith_20 : decode cX11_quietWith 20 = .ok (.iload_n 3, 1) := by decide +kernel
theorem dX11_quietWith_21 : decode cX11_quietWith 21 = .ok (.iload 4, 2) := by decide +kernel
theorem dX11_quietWith_23 : decode cX11_quietWith 23 = .ok (.ishr, 1) := by decide +kernel
theorem dX11_quietWith_24 : decode cX11_quietWith 24 = .ok (.iconst 1, 1) := by decide +kernel
theorem dX11_quietWith_25 : decode cX11_quietWith 25 = .ok (.iand, 1) := by decide +kernel
theorem dX11_quietWith_26 : decode cX11_quietWith 26 = .ok (.iconst 1, 1) := by decide +kernel
theorem dX11_quietWith_27 : decode cX11_quietWith 27 = .ok (.if_icmp .ne 17, 3) := by decide +kernel
theorem dX11_quietWith_30 : decode cX11_quietWith 30 = .ok (.aload_n 0, 1) := by decide +kernel
theorem dX11_quietWith_31 : decode cX11_quietWith 31 = .ok (.getfield 41, 3) := by decide +kernel
theorem dX11_quietWith_34 : decode cX11_quietWith 34 = .ok (.iload 4, 2) := by decide +kernel
theorem dX11_quietWith_36 : decode cX11_quietWith 36 = .ok (.aaload, 1) := by decide +kernel
theorem dX11_quietWith_37 : decode cX11_quietWith 37 = .ok (.aload_n 0, 1) := by decide +kernel
theorem dX11_quietWith_38 : decode cX11_quietWith 38 = .ok (.getfield 69, 3) := by decide +kernel
theorem dX11_quietWith_41 : decode cX11_quietWith 41 = .ok (.invokevirtual 468, 3) := by decide +kernel
theorem dX11_quietWith_44 : decode cX11_quietWith 44 = .ok (.iinc 4 1, 3) := by decide +kernel
theorem dX11_quietWith_47 : decode cX11_quietWith 47 = .ok (.goto (-36), 3) := by decide +kernel
theorem dX11_quietWith_50 : decode cX11_quietWith 50 = .ok (.aload_n 0, 1) := by decide +kernel
theorem dX11_quietWith_51 : decode cX11_quietWith 51 = .ok (.aload_n 0, 1) := by decide +kernel
theorem dX11_quietWith_52 : decode cX11_quietWith 52 = .ok (.getfield 69, 3) := by decide +kernel
theorem dX11_quietWith_55 : decode cX11_quietWith 55 = .ok (.aload_n 2, 1) := by decide +kernel
theorem dX11_quietWith_56 : decode cX11_quietWith 56 = .ok (.invokevirtual 374, 3) := by decide +kernel
theorem dX11_quietWith_59 : decode cX11_quietWith 59 = .ok (.ireturn, 1) := by decide +kernel
theorem dX11_offOf_0 : decode cX11_offOf 0 = .ok (.aload_n 0, 1) := by decide +kernel
theorem dX11_offOf_1 : decode cX11_offOf 1 = .ok (.getfield 58, 3) := by decide +kernel
theorem dX11_offOf_4 : decode cX11_offOf 4 = .ok (.getfield 251, 3) := by decide +kernel
theorem dX11_offOf_7 : decode cX11_offOf 7 = .ok (.astore 5, 2) := by decide +kernel
theorem dX11_offOf_9 : decode cX11_offOf 9 = .ok (.aload 5, 2) := by decide +kernel
theorem dX11_offOf_11 : decode cX11_offOf 11 = .ok (.aload_n 1, 1) := by decide +kernel
theorem dX11_offOf_12 : decode cX11_offOf 12 = .ok (.aload_n 2, 1) := by decide +kernel
theorem dX11_offOf_13 : decode cX11_offOf 13 = .ok (.invokevirtual 338, 3) := by decide +kernel
theorem dX11_offOf_16 : decode cX11_offOf 16 = .ok (.iconst 0, 1) := by decide +kernel
theorem dX11_offOf_17 : decode cX11_offOf 17 = .ok (.istore 6, 2) := by decide +kernel
theorem dX11_offOf_19 : decode cX11_offOf 19 = .ok (.iconst 0, 1) := by decide +kernel
theorem dX11_offOf_20 : decode cX11_offOf 20 = .ok (.istore 7, 2) := by decide +kernel
theorem dX11_offOf_22 : decode cX11_offOf 22 = .ok (.iload 7, 2) := by decide +kernel
theorem dX11_offOf_24 : decode cX11_offOf 24 = .ok (.aload 4, 2) := by decide +kernel
theorem dX11_offOf_26 : decode cX11_offOf 26 = .ok (.getfield 157, 3) := by decide +kernel
theorem dX11_offOf_29 : decode cX11_offOf 29 = .ok (.if_icmp .ge 38, 3) := by decide +kernel
theorem dX11_offOf_32 : decode cX11_offOf 32 = .ok (.aload 5, 2) := by decide +kernel
theorem dX11_offOf_34 : decode cX11_offOf 34 = .ok (.invokevirtual 342, 3) := by decide +kernel
theorem dX11_offOf_37 : decode cX11_offOf 37 = .ok (.iload 6, 2) := by decide +kernel
theorem dX11_offOf_39 : decode cX11_offOf 39 = .ok (.aload 4, 2) := by decide +kernel
theorem dX11_offOf_41 : decode cX11_offOf 41 = .ok (.getfield 140, 3) := by decide +kernel
theorem dX11_offOf_44 : decode cX11_offOf 44 = .ok (.iload 7, 2) := by decide +kernel
theorem dX11_offOf_46 : decode cX11_offOf 46 = .ok (.iaload, 1) := by decide +kernel
theorem dX11_offOf_47 : decode cX11_offOf 47 = .ok (.aload 5, 2) := by decide +kernel
theorem dX11_offOf_49 : decode cX11_offOf 49 = .ok (.getfield 273, 3) := by decide +kernel
theorem dX11_offOf_52 : decode cX11_offOf 52 = .ok (.iload_n 3, 1) := by decide +kernel
theorem dX11_offOf_53 : decode cX11_offOf 53 = .ok (.iaload, 1) := by decide +kernel
theorem dX11_offOf_54 : decode cX11_offOf 54 = .ok (.isub, 1) := by decide +kernel
theorem dX11_offOf_55 : decode cX11_offOf 55 = .ok (.invokestatic 318, 3) := by decide +kernel
theorem dX11_offOf_58 : decode cX11_offOf 58 = .ok (.iadd, 1) := by decide +kernel
theorem dX11_offOf_59 : decode cX11_offOf 59 = .ok (.istore 6, 2) := by decide +kernel
theorem dX11_offOf_61 : decode cX11_offOf 61 = .ok (.iinc 7 1, 3) := by decide +kernel
theorem dX11_offOf_64 : decode cX11_offOf 64 = .ok (.goto (-42), 3) := by decide +kernel
theorem dX11_offOf_67 : decode cX11_offOf 67 = .ok (.iload 6, 2) := by decide +kernel
theorem dX11_offOf_69 : decode cX11_offOf 69 = .ok (.ireturn, 1) := by decide +kernel
theorem dX11_asked_0 : decode cX11_asked 0 = .ok (.aload_n 0, 1) := by decide +kernel
theorem dX11_asked_1 : decode cX11_asked 1 = .ok (.getfield 104, 3) := by decide +kernel
theorem dX11_asked_4 : decode cX11_asked 4 = .ok (.ireturn, 1) := by decide +kernel
theorem dX11_upper_0 : decode cX11_upper 0 = .ok (.aload_n 0, 1) := by decide +kernel
theorem dX11_upper_1 : decode cX11_upper 1 = .ok (.getfield 110, 3) := by decide +kernel
theorem dX11_upper_4 : decode cX11_upper 4 = .ok (.getfield 471, 3) := by decide +kernel
theorem dX11_upper_7 : decode cX11_upper 7 = .ok (.lreturn, 1) := by decide +kernel
theorem dX11_lower_0 : decode cX11_lower 0 = .ok (.aload_n 0, 1) := by decide +kernel
theorem dX11_lower_1 : decode cX11_lower 1 = .ok (.getfield 110, 3) := by decide +kernel
theorem dX11_lower_4 : decode cX11_lower 4 = .ok (.getfield 475, 3) := by decide +kernel
theorem dX11_lower_7 : decode cX11_lower 7 = .ok (.lreturn, 1) := by decide +kernel
theorem dX11_count_0 : decode cX11_count 0 = .ok (.iload_n 1, 1) := by decide +kernel
theorem dX11_count_1 : decode cX11_count 1 = .ok (.tableswitch 107 0 7 #[47, 52, 57, 62, 67, 92, 97, 102], 47) := by decide +kernel
theorem dX11_count_48 : decode cX11_count 48 = .ok (.aload_n 0, 1) := by decide +kernel
theorem dX11_count_49 : decode cX11_count 49 = .ok (.invokevirtual 478, 3) := by decide +kernel
theorem dX11_count_52 : decode cX11_count 52 = .ok (.ireturn, 1) := by decide +kernel
theorem dX11_count_53 : decode cX11_count 53 = .ok (.aload_n 0, 1) := by decide +kernel
theorem dX11_count_54 : decode cX11_count 54 = .ok (.invokevirtual 481, 3) := by decide +kernel
theorem dX11_count_57 : decode cX11_count 57 = .ok (.ireturn, 1) := by decide +kernel
theorem dX11_count_58 : decode cX11_count 58 = .ok (.aload_n 0, 1) := by decide +kernel
theorem dX11_count_59 : decode cX11_count 59 = .ok (.invokevirtual 484, 3) := by decide +kernel
theorem dX11_count_62 : decode cX11_count 62 = .ok (.ireturn, 1) := by decide +kernel
theorem dX11_count_63 : decode cX11_count 63 = .ok (.aload_n 0, 1) := by decide +kernel
theorem dX11_count_64 : decode cX11_count 64 = .ok (.getfield 97, 3) := by decide +kernel
theorem dX11_count_67 : decode cX11_count 67 = .ok (.ireturn, 1) := by decide +kernel
theorem dX11_count_68 : decode cX11_count 68 = .ok (.aload_n 0, 1) := by decide +kernel
theorem dX11_count_69 : decode cX11_count 69 = .ok (.getfield 54, 3) := by decide +kernel
theorem dX11_count_72 : decode cX11_count 72 = .ok (.getfield 250, 3) := by decide +kernel
theorem dX11_count_75 : decode cX11_count 75 = .ok (.ifCond .eq 16, 3) := by decide +kernel
theorem dX11_count_78 : decode cX11_count 78 = .ok (.aload_n 0, 1) := by decide +kernel
theorem dX11_count_79 : decode cX11_count 79 = .ok (.getfield 54, 3) := by decide +kernel
theorem dX11_count_82 : decode cX11_count 82 = .ok (.getfield 251, 3) := by decide +kernel
theorem dX11_count_85 : decode cX11_count 85 = .ok (.getfield 255, 3) := by decide +kernel
theorem dX11_count_88 : decode cX11_count 88 = .ok (.goto 4, 3) := by decide +kernel
theorem dX11_count_91 : decode cX11_count 91 = .ok (.iconst 0, 1) := by decide +kernel
theorem dX11_count_92 : decode cX11_count 92 = .ok (.ireturn, 1) := by decide +kernel
theorem dX11_count_93 : decode cX11_count 93 = .ok (.aload_n 0, 1) := by decide +kernel
theorem dX11_count_94 : decode cX11_count 94 = .ok (.invokevirtual 487, 3) := by decide +kernel
theorem dX11_count_97 : decode cX11_count 97 = .ok (.ireturn, 1) := by decide +kernel
theorem dX11_count_98 : decode cX11_count 98 = .ok (.aload_n 0, 1) := by decide +kernel
theorem dX11_count_99 : decode cX11_count 99 = .ok (.invokevirtual 490, 3) := by decide +kernel
theorem dX11_count_102 : decode cX11_count 102 = .ok (.ireturn, 1) := by decide +kernel
theorem dX11_count_103 : decode cX11_count 103 = .ok (.aload_n 0, 1) := by decide +kernel
theorem dX11_count_104 : decode cX11_count 104 = .ok (.invokevirtual 493, 3) := by decide +kernel
theorem dX11_count_107 : decode cX11_count 107 = .ok (.ireturn, 1) := by decide +kernel
theorem dX11_count_108 : decode cX11_count 108 = .ok (.iconst (-1), 1) := by decide +kernel
theorem dX11_count_109 : decode cX11_count 109 = .ok (.ireturn, 1) := by decide +kernel
theorem dX11_finding_0 : decode cX11_finding 0 = .ok (.aload_n 0, 1) := by decide +kernel
theorem dX11_finding_1 : decode cX11_finding 1 = .ok (.getfield 101, 3) := by decide +kernel
theorem dX11_finding_4 : decode cX11_finding 4 = .ok (.ireturn, 1) := by decide +kernel
theorem dX11_findings_0 : decode cX11_findings 0 = .ok (.iload_n 1, 1) := by decide +kernel
theorem dX11_findings_1 : decode cX11_findings 1 = .ok (.iconst 1, 1) := by decide +kernel
theorem dX11_findings_2 : decode cX11_findings 2 = .ok (.iconst 5, 1) := by decide +kernel
theorem dX11_findings_3 : decode cX11_findings 3 = .ok (.invokestatic 117, 3) := by decide +kernel
theorem dX11_findings_6 : decode cX11_findings 6 = .ok (.ifCond .eq 12, 3) := by decide +kernel
theorem dX11_findings_9 : decode cX11_findings 9 = .ok (.aload_n 0, 1) := by decide +kernel
theorem dX11_findings_10 : decode cX11_findings 10 = .ok (.getfield 94, 3) := by decide +kernel
theorem dX11_findings_13 : decode cX11_findings 13 = .ok (.iload_n 1, 1) := by decide +kernel
theorem dX11_findings_14 : decode cX11_findings 14 = .ok (.iaload, 1) := by decide +kernel
theorem dX11_findings_15 : decode cX11_findings 15 = .ok (.goto 4, 3) := by decide +kernel
theorem dX11_findings_18 : decode cX11_findings 18 = .ok (.iconst (-1), 1) := by decide +kernel
theorem dX11_findings_19 : decode cX11_findings 19 = .ok (.ireturn, 1) := by decide +kernel
theorem dX11_digest_0 : decode cX11_digest 0 = .ok (.ldc2_w 496, 3) := by decide +kernel
theorem dX11_digest_3 : decode cX11_digest 3 = .ok (.lstore_n 1, 1) := by decide +kernel
theorem dX11_digest_4 : decode cX11_digest 4 = .ok (.iconst 0, 1) := by decide +kernel
theorem dX11_digest_5 : decode cX11_digest 5 = .ok (.istore_n 3, 1) := by decide +kernel
theorem dX11_digest_6 : decode cX11_digest 6 = .ok (.iload_n 3, 1) := by decide +kernel
theorem dX11_digest_7 : decode cX11_digest 7 = .ok (.bipush 8, 2) := by decide +kernel
theorem dX11_digest_9 : decode cX11_digest 9 = .ok (.if_icmp .ge 20, 3) := by decide +kernel
theorem dX11_digest_12 : decode cX11_digest 12 = .ok (.lload_n 1, 1) := by decide +kernel
theorem dX11_digest_13 : decode cX11_digest 13 = .ok (.aload_n 0, 1) := by decide +kernel
theorem dX11_digest_14 : decode cX11_digest 14 = .ok (.iload_n 3, 1) := by decide +kernel
theorem dX11_digest_15 : decode cX11_digest 15 = .ok (.invokevirtual 413, 3) := by decide +kernel
theorem dX11_digest_18 : decode cX11_digest 18 = .ok (.i2l, 1) := by decide +kernel
theorem dX11_digest_19 : decode cX11_digest 19 = .ok (.invokestatic 498, 3) := by decide +kernel
theorem dX11_digest_22 : decode cX11_digest 22 = .ok (.lstore_n 1, 1) := by decide +kernel
theorem dX11_digest_23 : decode cX11_digest 23 = .ok (.iinc 3 1, 3) := by decide +kernel
theorem dX11_digest_26 : decode cX11_digest 26 = .ok (.goto (-20), 3) := by decide +kernel
theorem dX11_digest_29 : decode cX11_digest 29 = .ok (.iconst 0, 1) := by decide +kernel
theorem dX11_digest_30 : decode cX11_digest 30 = .ok (.istore_n 3, 1) := by decide +kernel
theorem dX11_digest_31 : decode cX11_digest 31 = .ok (.iload_n 3, 1) := by decide +kernel
theorem dX11_digest_32 : decode cX11_digest 32 = .ok (.iconst 4, 1) := by decide +kernel
theorem dX11_digest_33 : decode cX11_digest 33 = .ok (.if_icmp .ge 20, 3) := by decide +kernel
theorem dX11_digest_36 : decode cX11_digest 36 = .ok (.aload_n 0, 1) := by decide +kernel
theorem dX11_digest_37 : decode cX11_digest 37 = .ok (.getfield 23, 3) := by decide +kernel
theorem dX11_digest_40 : decode cX11_digest 40 = .ok (.iload_n 3, 1) := by decide +kernel
theorem dX11_digest_41 : decode cX11_digest 41 = .ok (.aaload, 1) := by decide +kernel
theorem dX11_digest_42 : decode cX11_digest 42 = .ok (.lload_n 1, 1) := by decide +kernel
theorem dX11_digest_43 : decode cX11_digest 43 = .ok (.invokevirtual 502, 3) := by decide +kernel
theorem dX11_digest_46 : decode cX11_digest 46 = .ok (.lstore_n 1, 1) := by decide +kernel
theorem dX11_digest_47 : decode cX11_digest 47 = .ok (.iinc 3 1, 3) := by decide +kernel
theorem dX11_digest_50 : decode cX11_digest 50 = .ok (.goto (-19), 3) := by decide +kernel
theorem dX11_digest_53 : decode cX11_digest 53 = .ok (.iconst 0, 1) := by decide +kernel
theorem dX11_digest_54 : decode cX11_digest 54 = .ok (.istore_n 3, 1) := by decide +kernel
theorem dX11_digest_55 : decode cX11_digest 55 = .ok (.iload_n 3, 1) := by decide +kernel
theorem dX11_digest_56 : decode cX11_digest 56 = .ok (.iconst 4, 1) := by decide +kernel
theorem dX11_digest_57 : decode cX11_digest 57 = .ok (.if_icmp .ge 20, 3) := by decide +kernel
theorem dX11_digest_60 : decode cX11_digest 60 = .ok (.aload_n 0, 1) := by decide +kernel
theorem dX11_digest_61 : decode cX11_digest 61 = .ok (.getfield 29, 3) := by decide +kernel
theorem dX11_digest_64 : decode cX11_digest 64 = .ok (.iload_n 3, 1) := by decide +kernel
theorem dX11_digest_65 : decode cX11_digest 65 = .ok (.aaload, 1) := by decide +kernel
theorem dX11_digest_66 : decode cX11_digest 66 = .ok (.lload_n 1, 1) := by decide +kernel
theorem dX11_digest_67 : decode cX11_digest 67 = .ok (.invokevirtual 506, 3) := by decide +kernel
theorem dX11_digest_70 : decode cX11_digest 70 = .ok (.lstore_n 1, 1) := by decide +kernel
theorem dX11_digest_71 : decode cX11_digest 71 = .ok (.iinc 3 1, 3) := by decide +kernel
theorem dX11_digest_74 : decode cX11_digest 74 = .ok (.goto (-19), 3) := by decide +kernel
theorem dX11_digest_77 : decode cX11_digest 77 = .ok (.iconst 0, 1) := by decide +kernel
theorem dX11_digest_78 : decode cX11_digest 78 = .ok (.istore_n 3, 1) := by decide +kernel
theorem dX11_digest_79 : decode cX11_digest 79 = .ok (.iload_n 3, 1) := by decide +kernel
theorem dX11_digest_80 : decode cX11_digest 80 = .ok (.iconst 3, 1) := by decide +kernel
theorem dX11_digest_81 : decode cX11_digest 81 = .ok (.if_icmp .ge 20, 3) := by decide +kernel
theorem dX11_digest_84 : decode cX11_digest 84 = .ok (.aload_n 0, 1) := by decide +kernel
theorem dX11_digest_85 : decode cX11_digest 85 = .ok (.getfield 35, 3) := by decide +kernel
theorem dX11_digest_88 : decode cX11_digest 88 = .ok (.iload_n 3, 1) := by decide +kernel
theorem dX11_digest_89 : decode cX11_digest 89 = .ok (.aaload, 1) := by decide +kernel
theorem dX11_digest_90 : decode cX11_digest 90 = .ok (.lload_n 1, 1) := by decide +kernel
theorem dX11_digest_91 : decode cX11_digest 91 = .ok (.invokevirtual 507, 3) := by decide +kernel
theorem dX11_digest_94 : decode cX11_digest 94 = .ok (.lstore_n 1, 1) := by decide +kernel
theorem dX11_digest_95 : decode cX11_digest 95 = .ok (.iinc 3 1, 3) := by decide +kernel
theorem dX11_digest_98 : decode cX11_digest 98 = .ok (.goto (-19), 3) := by decide +kernel
theorem dX11_digest_101 : decode cX11_digest 101 = .ok (.iconst 0, 1) := by decide +kernel
theorem dX11_digest_102 : decode cX11_digest 102 = .ok (.istore_n 3, 1) := by decide +kernel
theorem dX11_digest_103 : decode cX11_digest 103 = .ok (.iload_n 3, 1) := by decide +kernel
theorem dX11_digest_104 : decode cX11_digest 104 = .ok (.aload_n 0, 1) := by decide +kernel
theorem dX11_digest_105 : decode cX11_digest 105 = .ok (.getfield 97, 3) := by decide +kernel
theorem dX11_digest_108 : decode cX11_digest 108 = .ok (.if_icmp .ge 20, 3) := by decide +kernel
theorem dX11_digest_111 : decode cX11_digest 111 = .ok (.aload_n 0, 1) := by decide +kernel
theorem dX11_digest_112 : decode cX11_digest 112 = .ok (.getfield 41, 3) := by decide +kernel
theorem dX11_digest_115 : decode cX11_digest 115 = .ok (.iload_n 3, 1) := by decide +kernel
theorem dX11_digest_116 : decode cX11_digest 116 = .ok (.aaload, 1) := by decide +kernel
theorem dX11_digest_117 : decode cX11_digest 117 = .ok (.lload_n 1, 1) := by decide +kernel
theorem dX11_digest_118 : decode cX11_digest 118 = .ok (.invokevirtual 508, 3) := by decide +kernel
theorem dX11_digest_121 : decode cX11_digest 121 = .ok (.lstore_n 1, 1) := by decide +kernel
theorem dX11_digest_122 : decode cX11_digest 122 = .ok (.iinc 3 1, 3) := by decide +kernel
theorem dX11_digest_125 : decode cX11_digest 125 = .ok (.goto (-22), 3) := by decide +kernel
theorem dX11_digest_128 : decode cX11_digest 128 = .ok (.aload_n 0, 1) := by decide +kernel
theorem dX11_digest_129 : decode cX11_digest 129 = .ok (.getfield 54, 3) := by decide +kernel
theorem dX11_digest_132 : decode cX11_digest 132 = .ok (.lload_n 1, 1) := by decide +kernel
theorem dX11_digest_133 : decode cX11_digest 133 = .ok (.invokevirtual 509, 3) := by decide +kernel
theorem dX11_digest_136 : decode cX11_digest 136 = .ok (.lstore_n 1, 1) := by decide +kernel
theorem dX11_digest_137 : decode cX11_digest 137 = .ok (.iconst 0, 1) := by decide +kernel
theorem dX11_digest_138 : decode cX11_digest 138 = .ok (.istore_n 3, 1) := by decide +kernel
theorem dX11_digest_139 : decode cX11_digest 139 = .ok (.iload_n 3, 1) := by decide +kernel
theorem dX11_digest_140 : decode cX11_digest 140 = .ok (.bipush 6, 2) := by decide +kernel
theorem dX11_digest_142 : decode cX11_digest 142 = .ok (.if_icmp .ge 20, 3) := by decide +kernel
theorem dX11_digest_145 : decode cX11_digest 145 = .ok (.aload_n 0, 1) := by decide +kernel
theorem dX11_digest_146 : decode cX11_digest 146 = .ok (.getfield 11, 3) := by decide +kernel
theorem dX11_digest_149 : decode cX11_digest 149 = .ok (.iload_n 3, 1) := by decide +kernel
theorem dX11_digest_150 : decode cX11_digest 150 = .ok (.aaload, 1) := by decide +kernel
theorem dX11_digest_151 : decode cX11_digest 151 = .ok (.lload_n 1, 1) := by decide +kernel
theorem dX11_digest_152 : decode cX11_digest 152 = .ok (.invokevirtual 510, 3) := by decide +kernel
theorem dX11_digest_155 : decode cX11_digest 155 = .ok (.lstore_n 1, 1) := by decide +kernel
theorem dX11_digest_156 : decode cX11_digest 156 = .ok (.iinc 3 1, 3) := by decide +kernel
theorem dX11_digest_159 : decode cX11_digest 159 = .ok (.goto (-20), 3) := by decide +kernel
theorem dX11_digest_162 : decode cX11_digest 162 = .ok (.iconst 0, 1) := by decide +kernel
theorem dX11_digest_163 : decode cX11_digest 163 = .ok (.istore_n 3, 1) := by decide +kernel
theorem dX11_digest_164 : decode cX11_digest 164 = .ok (.iload_n 3, 1) := by decide +kernel
theorem dX11_digest_165 : decode cX11_digest 165 = .ok (.iconst 4, 1) := by decide +kernel
theorem dX11_digest_166 : decode cX11_digest 166 = .ok (.if_icmp .ge 20, 3) := by decide +kernel
theorem dX11_digest_169 : decode cX11_digest 169 = .ok (.aload_n 0, 1) := by decide +kernel
theorem dX11_digest_170 : decode cX11_digest 170 = .ok (.getfield 17, 3) := by decide +kernel
theorem dX11_digest_173 : decode cX11_digest 173 = .ok (.iload_n 3, 1) := by decide +kernel
theorem dX11_digest_174 : decode cX11_digest 174 = .ok (.aaload, 1) := by decide +kernel
theorem dX11_digest_175 : decode cX11_digest 175 = .ok (.lload_n 1, 1) := by decide +kernel
theorem dX11_digest_176 : decode cX11_digest 176 = .ok (.invokevirtual 511, 3) := by decide +kernel
theorem dX11_digest_179 : decode cX11_digest 179 = .ok (.lstore_n 1, 1) := by decide +kernel
theorem dX11_digest_180 : decode cX11_digest 180 = .ok (.iinc 3 1, 3) := by decide +kernel
theorem dX11_digest_183 : decode cX11_digest 183 = .ok (.goto (-19), 3) := by decide +kernel
theorem dX11_digest_186 : decode cX11_digest 186 = .ok (.lload_n 1, 1) := by decide +kernel
theorem dX11_digest_187 : decode cX11_digest 187 = .ok (.lreturn, 1) := by decide +kernel
theorem dX11_mix_0 : decode cX11_mix 0 = .ok (.ldc2_w 512, 3) := by decide +kernel
theorem dX11_mix_3 : decode cX11_mix 3 = .ok (.lload_n 0, 1) := by decide +kernel
theorem dX11_mix_4 : decode cX11_mix 4 = .ok (.lmul, 1) := by decide +kernel
theorem dX11_mix_5 : decode cX11_mix 5 = .ok (.lload_n 2, 1) := by decide +kernel
theorem dX11_mix_6 : decode cX11_mix 6 = .ok (.ladd, 1) := by decide +kernel
theorem dX11_mix_7 : decode cX11_mix 7 = .ok (.lreturn, 1) := by decide +kernel
theorem dX11_harboursThere_0 : decode cX11_harboursThere 0 = .ok (.iconst 0, 1) := by decide +kernel
theorem dX11_harboursThere_1 : decode cX11_harboursThere 1 = .ok (.istore_n 1, 1) := by decide +kernel
theorem dX11_harboursThere_2 : decode cX11_harboursThere 2 = .ok (.iconst 0, 1) := by decide +kernel
theorem dX11_harboursThere_3 : decode cX11_harboursThere 3 = .ok (.istore_n 2, 1) := by decide +kernel
theorem dX11_harboursThere_4 : decode cX11_harboursThere 4 = .ok (.iload_n 2, 1) := by decide +kernel
theorem dX11_harboursThere_5 : decode cX11_harboursThere 5 = .ok (.iconst 4, 1) := by decide +kernel
theorem dX11_harboursThere_6 : decode cX11_harboursThere 6 = .ok (.if_icmp .ge 29, 3) := by decide +kernel
theorem dX11_harboursThere_9 : decode cX11_harboursThere 9 = .ok (.iload_n 1, 1) := by decide +kernel
theorem dX11_harboursThere_10 : decode cX11_harboursThere 10 = .ok (.aload_n 0, 1) := by decide +kernel
theorem dX11_harboursThere_11 : decode cX11_harboursThere 11 = .ok (.getfield 23, 3) := by decide +kernel
theorem dX11_harboursThere_14 : decode cX11_harboursThere 14 = .ok (.iload_n 2, 1) := by decide +kernel
theorem dX11_harboursThere_15 : decode cX11_harboursThere 15 = .ok (.aaload, 1) := by decide +kernel
theorem dX11_harboursThere_16 : decode cX11_harboursThere 16 = .ok (.getfield 206, 3) := by decide +kernel
theorem dX11_harboursThere_19 : decode cX11_harboursThere 19 = .ok (.ifCond .eq 7, 3) := by decide +kernel
theorem dX11_harboursThere_22 : decode cX11_harboursThere 22 = .ok (.iconst 1, 1) := by decide +kernel
theorem dX11_harboursThere_23 : decode cX11_harboursThere 23 = .ok (.goto 4, 3) := by decide +kernel
theorem dX11_harboursThere_26 : decode cX11_harboursThere 26 = .ok (.iconst 0, 1) := by decide +kernel
theorem dX11_harboursThere_27 : decode cX11_harboursThere 27 = .ok (.iadd, 1) := by decide +kernel
theorem dX11_harboursThere_28 : decode cX11_harboursThere 28 = .ok (.istore_n 1, 1) := by decide +kernel
theorem dX11_harboursThere_29 : decode cX11_harboursThere 29 = .ok (.iinc 2 1, 3) := by decide +kernel
theorem dX11_harboursThere_32 : decode cX11_harboursThere 32 = .ok (.goto (-28), 3) := by decide +kernel
theorem dX11_harboursThere_35 : decode cX11_harboursThere 35 = .ok (.iload_n 1, 1) := by decide +kernel
theorem dX11_harboursThere_36 : decode cX11_harboursThere 36 = .ok (.ireturn, 1) := by decide +kernel
theorem dX11_seasThere_0 : decode cX11_seasThere 0 = .ok (.iconst 0, 1) := by decide +kernel
theorem dX11_seasThere_1 : decode cX11_seasThere 1 = .ok (.istore_n 1, 1) := by decide +kernel
theorem dX11_seasThere_2 : decode cX11_seasThere 2 = .ok (.iconst 0, 1) := by decide +kernel
theorem dX11_seasThere_3 : decode cX11_seasThere 3 = .ok (.istore_n 2, 1) := by decide +kernel
theorem dX11_seasThere_4 : decode cX11_seasThere 4 = .ok (.iload_n 2, 1) := by decide +kernel
theorem dX11_seasThere_5 : decode cX11_seasThere 5 = .ok (.iconst 4, 1) := by decide +kernel
theorem dX11_seasThere_6 : decode cX11_seasThere 6 = .ok (.if_icmp .ge 29, 3) := by decide +kernel
theorem dX11_seasThere_9 : decode cX11_seasThere 9 = .ok (.iload_n 1, 1) := by decide +kernel
theorem dX11_seasThere_10 : decode cX11_seasThere 10 = .ok (.aload_n 0, 1) := by decide +kernel
theorem dX11_seasThere_11 : decode cX11_seasThere 11 = .ok (.getfield 29, 3) := by decide +kernel
theorem dX11_seasThere_14 : decode cX11_seasThere 14 = .ok (.iload_n 2, 1) := by decide +kernel
theorem dX11_seasThere_15 : decode cX11_seasThere 15 = .ok (.aaload, 1) := by decide +kernel
theorem dX11_seasThere_16 : decode cX11_seasThere 16 = .ok (.getfield 121, 3) := by decide +kernel
theorem dX11_seasThere_19 : decode cX11_seasThere 19 = .ok (.ifCond .eq 7, 3) := by decide +kernel
theorem dX11_seasThere_22 : decode cX11_seasThere 22 = .ok (.iconst 1, 1) := by decide +kernel
theorem dX11_seasThere_23 : decode cX11_seasThere 23 = .ok (.goto 4, 3) := by decide +kernel
theorem dX11_seasThere_26 : decode cX11_seasThere 26 = .ok (.iconst 0, 1) := by decide +kernel
theorem dX11_seasThere_27 : decode cX11_seasThere 27 = .ok (.iadd, 1) := by decide +kernel
theorem dX11_seasThere_28 : decode cX11_seasThere 28 = .ok (.istore_n 1, 1) := by decide +kernel
theorem dX11_seasThere_29 : decode cX11_seasThere 29 = .ok (.iinc 2 1, 3) := by decide +kernel
theorem dX11_seasThere_32 : decode cX11_seasThere 32 = .ok (.goto (-28), 3) := by decide +kernel
theorem dX11_seasThere_35 : decode cX11_seasThere 35 = .ok (.iload_n 1, 1) := by decide +kernel
theorem dX11_seasThere_36 : decode cX11_seasThere 36 = .ok (.ireturn, 1) := by decide +kernel
theorem dX11_shipsThere_0 : decode cX11_shipsThere 0 = .ok (.iconst 0, 1) := by decide +kernel
theorem dX11_shipsThere_1 : decode cX11_shipsThere 1 = .ok (.istore_n 1, 1) := by decide +kernel
theorem dX11_shipsThere_2 : decode cX11_shipsThere 2 = .ok (.iconst 0, 1) := by decide +kernel
theorem dX11_shipsThere_3 : decode cX11_shipsThere 3 = .ok (.istore_n 2, 1) := by decide +kernel
theorem dX11_shipsThere_4 : decode cX11_shipsThere 4 = .ok (.iload_n 2, 1) := by decide +kernel
theorem dX11_shipsThere_5 : decode cX11_shipsThere 5 = .ok (.iconst 3, 1) := by decide +kernel
theorem dX11_shipsThere_6 : decode cX11_shipsThere 6 = .ok (.if_icmp .ge 29, 3) := by decide +kernel
theorem dX11_shipsThere_9 : decode cX11_shipsThere 9 = .ok (.iload_n 1, 1) := by decide +kernel
theorem dX11_shipsThere_10 : decode cX11_shipsThere 10 = .ok (.aload_n 0, 1) := by decide +kernel
theorem dX11_shipsThere_11 : decode cX11_shipsThere 11 = .ok (.getfield 35, 3) := by decide +kernel
theorem dX11_shipsThere_14 : decode cX11_shipsThere 14 = .ok (.iload_n 2, 1) := by decide +kernel
theorem dX11_shipsThere_15 : decode cX11_shipsThere 15 = .ok (.aaload, 1) := by decide +kernel
theorem dX11_shipsThere_16 : decode cX11_shipsThere 16 = .ok (.getfield 232, 3) := by decide +kernel
theorem dX11_shipsThere_19 : decode cX11_shipsThere 19 = .ok (.ifCond .eq 7, 3) := by decide +kernel
theorem dX11_shipsThere_22 : decode cX11_shipsThere 22 = .ok (.iconst 1, 1) := by decide +kernel
theorem dX11_shipsThere_23 : decode cX11_shipsThere 23 = .ok (.goto 4, 3) := by decide +kernel
theorem dX11_shipsThere_26 : decode cX11_shipsThere 26 = .ok (.iconst 0, 1) := by decide +kernel
theorem dX11_shipsThere_27 : decode cX11_shipsThere 27 = .ok (.iadd, 1) := by decide +kernel
theorem dX11_shipsThere_28 : decode cX11_shipsThere 28 = .ok (.istore_n 1, 1) := by decide +kernel
theorem dX11_shipsThere_29 : decode cX11_shipsThere 29 = .ok (.iinc 2 1, 3) := by decide +kernel
theorem dX11_shipsThere_32 : decode cX11_shipsThere 32 = .ok (.goto (-28), 3) := by decide +kernel
theorem dX11_shipsThere_35 : decode cX11_shipsThere 35 = .ok (.iload_n 1, 1) := by decide +kernel
theorem dX11_shipsThere_36 : decode cX11_shipsThere 36 = .ok (.ireturn, 1) := by decide +kernel
theorem dX11_keptThere_0 : decode cX11_keptThere 0 = .ok (.iconst 0, 1) := by decide +kernel
theorem dX11_keptThere_1 : decode cX11_keptThere 1 = .ok (.istore_n 1, 1) := by decide +kernel
theorem dX11_keptThere_2 : decode cX11_keptThere 2 = .ok (.iconst 0, 1) := by decide +kernel
theorem dX11_keptThere_3 : decode cX11_keptThere 3 = .ok (.istore_n 2, 1) := by decide +kernel
theorem dX11_keptThere_4 : decode cX11_keptThere 4 = .ok (.iload_n 2, 1) := by decide +kernel
theorem dX11_keptThere_5 : decode cX11_keptThere 5 = .ok (.iconst 3, 1) := by decide +kernel
theorem dX11_keptThere_6 : decode cX11_keptThere 6 = .ok (.if_icmp .ge 29, 3) := by decide +kernel
theorem dX11_keptThere_9 : decode cX11_keptThere 9 = .ok (.iload_n 1, 1) := by decide +kernel
theorem dX11_keptThere_10 : decode cX11_keptThere 10 = .ok (.aload_n 0, 1) := by decide +kernel
theorem dX11_keptThere_11 : decode cX11_keptThere 11 = .ok (.getfield 47, 3) := by decide +kernel
theorem dX11_keptThere_14 : decode cX11_keptThere 14 = .ok (.iload_n 2, 1) := by decide +kernel
theorem dX11_keptThere_15 : decode cX11_keptThere 15 = .ok (.aaload, 1) := by decide +kernel
theorem dX11_keptThere_16 : decode cX11_keptThere 16 = .ok (.getfield 250, 3) := by decide +kernel
theorem dX11_keptThere_19 : decode cX11_keptThere 19 = .ok (.ifCond .eq 7, 3) := by decide +kernel
theorem dX11_keptThere_22 : decode cX11_keptThere 22 = .ok (.iconst 1, 1) := by decide +kernel
theorem dX11_keptThere_23 : decode cX11_keptThere 23 = .ok (.goto 4, 3) := by decide +kernel
theorem dX11_keptThere_26 : decode cX11_keptThere 26 = .ok (.iconst 0, 1) := by decide +kernel
theorem dX11_keptThere_27 : decode cX11_keptThere 27 = .ok (.iadd, 1) := by decide +kernel
theorem dX11_keptThere_28 : decode cX11_keptThere 28 = .ok (.istore_n 1, 1) := by decide +kernel
theorem dX11_keptThere_29 : decode cX11_keptThere 29 = .ok (.iinc 2 1, 3) := by decide +kernel
theorem dX11_keptThere_32 : decode cX11_keptThere 32 = .ok (.goto (-28), 3) := by decide +kernel
theorem dX11_keptThere_35 : decode cX11_keptThere 35 = .ok (.iload_n 1, 1) := by decide +kernel
theorem dX11_keptThere_36 : decode cX11_keptThere 36 = .ok (.ireturn, 1) := by decide +kernel
theorem dX11_rowsThere_0 : decode cX11_rowsThere 0 = .ok (.iconst 0, 1) := by decide +kernel
theorem dX11_rowsThere_1 : decode cX11_rowsThere 1 = .ok (.istore_n 1, 1) := by decide +kernel
theorem dX11_rowsThere_2 : decode cX11_rowsThere 2 = .ok (.iconst 0, 1) := by decide +kernel
theorem dX11_rowsThere_3 : decode cX11_rowsThere 3 = .ok (.istore_n 2, 1) := by decide +kernel
theorem dX11_rowsThere_4 : decode cX11_rowsThere 4 = .ok (.iload_n 2, 1) := by decide +kernel
theorem dX11_rowsThere_5 : decode cX11_rowsThere 5 = .ok (.bipush 6, 2) := by decide +kernel
theorem dX11_rowsThere_7 : decode cX11_rowsThere 7 = .ok (.if_icmp .ge 29, 3) := by decide +kernel
theorem dX11_rowsThere_10 : decode cX11_rowsThere 10 = .ok (.iload_n 1, 1) := by decide +kernel
theorem dX11_rowsThere_11 : decode cX11_rowsThere 11 = .ok (.aload_n 0, 1) := by decide +kernel
theorem dX11_rowsThere_12 : decode cX11_rowsThere 12 = .ok (.getfield 11, 3) := by decide +kernel
theorem dX11_rowsThere_15 : decode cX11_rowsThere 15 = .ok (.iload_n 2, 1) := by decide +kernel
theorem dX11_rowsThere_16 : decode cX11_rowsThere 16 = .ok (.aaload, 1) := by decide +kernel
theorem dX11_rowsThere_17 : decode cX11_rowsThere 17 = .ok (.getfield 136, 3) := by decide +kernel
theorem dX11_rowsThere_20 : decode cX11_rowsThere 20 = .ok (.ifCond .eq 7, 3) := by decide +kernel
theorem dX11_rowsThere_23 : decode cX11_rowsThere 23 = .ok (.iconst 1, 1) := by decide +kernel
theorem dX11_rowsThere_24 : decode cX11_rowsThere 24 = .ok (.goto 4, 3) := by decide +kernel
theorem dX11_rowsThere_27 : decode cX11_rowsThere 27 = .ok (.iconst 0, 1) := by decide +kernel
theorem dX11_rowsThere_28 : decode cX11_rowsThere 28 = .ok (.iadd, 1) := by decide +kernel
theorem dX11_rowsThere_29 : decode cX11_rowsThere 29 = .ok (.istore_n 1, 1) := by decide +kernel
theorem dX11_rowsThere_30 : decode cX11_rowsThere 30 = .ok (.iinc 2 1, 3) := by decide +kernel
theorem dX11_rowsThere_33 : decode cX11_rowsThere 33 = .ok (.goto (-29), 3) := by decide +kernel
theorem dX11_rowsThere_36 : decode cX11_rowsThere 36 = .ok (.iload_n 1, 1) := by decide +kernel
theorem dX11_rowsThere_37 : decode cX11_rowsThere 37 = .ok (.ireturn, 1) := by decide +kernel
theorem dX11_textsThere_0 : decode cX11_textsThere 0 = .ok (.iconst 0, 1) := by decide +kernel
theorem dX11_textsThere_1 : decode cX11_textsThere 1 = .ok (.istore_n 1, 1) := by decide +kernel
theorem dX11_textsThere_2 : decode cX11_textsThere 2 = .ok (.iconst 0, 1) := by decide +kernel
theorem dX11_textsThere_3 : decode cX11_textsThere 3 = .ok (.istore_n 2, 1) := by decide +kernel
theorem dX11_textsThere_4 : decode cX11_textsThere 4 = .ok (.iload_n 2, 1) := by decide +kernel
theorem dX11_textsThere_5 : decode cX11_textsThere 5 = .ok (.iconst 4, 1) := by decide +kernel
theorem dX11_textsThere_6 : decode cX11_textsThere 6 = .ok (.if_icmp .ge 29, 3) := by decide +kernel
theorem dX11_textsThere_9 : decode cX11_textsThere 9 = .ok (.iload_n 1, 1) := by decide +kernel
theorem dX11_textsThere_10 : decode cX11_textsThere 10 = .ok (.aload_n 0, 1) := by decide +kernel
theorem dX11_textsThere_11 : decode cX11_textsThere 11 = .ok (.getfield 17, 3) := by decide +kernel
theorem dX11_textsThere_14 : decode cX11_textsThere 14 = .ok (.iload_n 2, 1) := by decide +kernel
theorem dX11_textsThere_15 : decode cX11_textsThere 15 = .ok (.aaload, 1) := by decide +kernel
theorem dX11_textsThere_16 : decode cX11_textsThere 16 = .ok (.getfield 168, 3) := by decide +kernel
theorem dX11_textsThere_19 : decode cX11_textsThere 19 = .ok (.ifCond .eq 7, 3) := by decide +kernel
theorem dX11_textsThere_22 : decode cX11_textsThere 22 = .ok (.iconst 1, 1) := by decide +kernel
theorem dX11_textsThere_23 : decode cX11_textsThere 23 = .ok (.goto 4, 3) := by decide +kernel
theorem dX11_textsThere_26 : decode cX11_textsThere 26 = .ok (.iconst 0, 1) := by decide +kernel
theorem dX11_textsThere_27 : decode cX11_textsThere 27 = .ok (.iadd, 1) := by decide +kernel
theorem dX11_textsThere_28 : decode cX11_textsThere 28 = .ok (.istore_n 1, 1) := by decide +kernel
theorem dX11_textsThere_29 : decode cX11_textsThere 29 = .ok (.iinc 2 1, 3) := by decide +kernel
theorem dX11_textsThere_32 : decode cX11_textsThere 32 = .ok (.goto (-28), 3) := by decide +kernel
theorem dX11_textsThere_35 : decode cX11_textsThere 35 = .ok (.iload_n 1, 1) := by decide +kernel
theorem dX11_textsThere_36 : decode cX11_textsThere 36 = .ok (.ireturn, 1) := by decide +kernel
theorem dX12_init_0 : decode cX12_init 0 = .ok (.aload_n 0, 1) := by decide +kernel
theorem dX12_init_1 : decode cX12_init 1 = .ok (.invokespecial 1, 3) := by decide +kernel
theorem dX12_init_4 : decode cX12_init 4 = .ok (.aload_n 0, 1) := by decide +kernel
theorem dX12_init_5 : decode cX12_init 5 = .ok (.bipush 6, 2) := by decide +kernel
theorem dX12_init_7 : decode cX12_init 7 = .ok (.newarray .int, 2) := by decide +kernel
theorem dX12_init_9 : decode cX12_init 9 = .ok (.putfield 7, 3) := by decide +kernel
theorem dX12_init_12 : decode cX12_init 12 = .ok (.aload_n 0, 1) := by decide +kernel
theorem dX12_init_13 : decode cX12_init 13 = .ok (.bipush 6, 2) := by decide +kernel
theorem dX12_init_15 : decode cX12_init 15 = .ok (.newarray .int, 2) := by decide +kernel
theorem dX12_init_17 : decode cX12_init 17 = .ok (.putfield 13, 3) := by decide +kernel
theorem dX12_init_20 : decode cX12_init 20 = .ok (.aload_n 0, 1) := by decide +kernel
theorem dX12_init_21 : decode cX12_init 21 = .ok (.sipush 360, 3) := by decide +kernel
theorem dX12_init_24 : decode cX12_init 24 = .ok (.newarray .int, 2) := by decide +kernel
theorem dX12_init_26 : decode cX12_init 26 = .ok (.putfield 16, 3) := by decide +kernel
theorem dX12_init_29 : decode cX12_init 29 = .ok (.aload_n 0, 1) := by decide +kernel
theorem dX12_init_30 : decode cX12_init 30 = .ok (.bipush 60, 2) := by decide +kernel
theorem dX12_init_32 : decode cX12_init 32 = .ok (.newarray .int, 2) := by decide +kernel
theorem dX12_init_34 : decode cX12_init 34 = .ok (.putfield 19, 3) := by decide +kernel
theorem dX12_init_37 : decode cX12_init 37 = .ok (.aload_n 0, 1) := by decide +kernel
theorem dX12_init_38 : decode cX12_init 38 = .ok (.iconst 4, 1) := by decide +kernel
theorem dX12_init_39 : decode cX12_init 39 = .ok (.newarray .int, 2) := by decide +kernel
theorem dX12_init_41 : decode cX12_init 41 = .ok (.putfield 22, 3) := by decide +kernel
theorem dX12_init_44 : decode cX12_init 44 = .ok (.aload_n 0, 1) := by decide +kernel
theorem dX12_init_45 : decode cX12_init 45 = .ok (.sipush 400, 3) := by decide +kernel
theorem dX12_init_48 : decode cX12_init 48 = .ok (.newarray .byte, 2) := by decide +kernel
theorem dX12_init_50 : decode cX12_init 50 = .ok (.putfield 25, 3) := by decide +kernel
theorem dX12_init_53 : decode cX12_init 53 = .ok (.aload_n 0, 1) := by decide +kernel
theorem dX12_init_54 : decode cX12_init 54 = .ok (.iconst 4, 1) := by decide +kernel
theorem dX12_init_55 : decode cX12_init 55 = .ok (.newarray .boolean, 2) := by decide +kernel
theorem dX12_init_57 : decode cX12_init 57 = .ok (.putfield 29, 3) := by decide +kernel
theorem dX12_init_60 : decode cX12_init 60 = .ok (.aload_n 0, 1) := by decide +kernel
theorem dX12_init_61 : decode cX12_init 61 = .ok (.bipush 84, 2) := by decide +kernel
theorem dX12_init_63 : decode cX12_init 63 = .ok (.newarray .int, 2) := by decide +kernel
theorem dX12_init_65 : decode cX12_init 65 = .ok (.putfield 33, 3) := by decide +kernel
theorem dX12_init_68 : decode cX12_init 68 = .ok (.aload_n 0, 1) := by decide +kernel
theorem dX12_init_69 : decode cX12_init 69 = .ok (.iconst 4, 1) := by decide +kernel
theorem dX12_init_70 : decode cX12_init 70 = .ok (.newarray .boolean, 2) := by decide +kernel
theorem dX12_init_72 : decode cX12_init 72 = .ok (.putfield 36, 3) := by decide +kernel
theorem dX12_init_75 : decode cX12_init 75 = .ok (.aload_n 0, 1) := by decide +kernel
theorem dX12_init_76 : decode cX12_init 76 = .ok (.iconst 4, 1) := by decide +kernel
theorem dX12_init_77 : decode cX12_init 77 = .ok (.newarray .int, 2) := by decide +kernel
theorem dX12_init_79 : decode cX12_init 79 = .ok (.putfield 39, 3) := by decide +kernel
theorem dX12_init_82 : decode cX12_init 82 = .ok (.aload_n 0, 1) := by decide +kernel
theorem dX12_init_83 : decode cX12_init 83 = .ok (.bipush 32, 2) := by decide +kernel
theorem dX12_init_85 : decode cX12_init 85 = .ok (.newarray .int, 2) := by decide +kernel
theorem dX12_init_87 : decode cX12_init 87 = .ok (.putfield 42, 3) := by decide +kernel
theorem dX12_init_90 : decode cX12_init 90 = .ok (.aload_n 0, 1) := by decide +kernel
theorem dX12_init_91 : decode cX12_init 91 = .ok (.bipush 21, 2) := by decide +kernel
theorem dX12_init_93 : decode cX12_init 93 = .ok (.newarray .int, 2) := by decide +kernel
theorem dX12_init_95 : decode cX12_init 95 = .ok (.putfield 45, 3) := by decide +kernel
theorem dX12_init_98 : decode cX12_init 98 = .ok (.aload_n 0, 1) := by decide +kernel
theorem dX12_init_99 : decode cX12_init 99 = .ok (.bipush 8, 2) := by decide +kernel
theorem dX12_init_101 : decode cX12_init 101 = .ok (.newarray .int, 2) := by decide +kernel
theorem dX12_init_103 : decode cX12_init 103 = .ok (.putfield 48, 3) := by decide +kernel
theorem dX12_init_106 : decode cX12_init 106 = .ok (.aload_n 0, 1) := by decide +kernel
theorem dX12_init_107 : decode cX12_init 107 = .ok (.iconst 3, 1) := by decide +kernel
theorem dX12_init_108 : decode cX12_init 108 = .ok (.newarray .boolean, 2) := by decide +kernel
theorem dX12_init_110 : decode cX12_init 110 = .ok (.putfield 51, 3) := by decide +kernel
theorem dX12_init_113 : decode cX12_init 113 = .ok (.aload_n 0, 1) := by decide +kernel
theorem dX12_init_114 : decode cX12_init 114 = .ok (.bipush 15, 2) := by decide +kernel
theorem dX12_init_116 : decode cX12_init 116 = .ok (.newarray .int, 2) := by decide +kernel
theorem dX12_init_118 : decode cX12_init 118 = .ok (.putfield 54, 3) := by decide +kernel
theorem dX12_init_121 : decode cX12_init 121 = .ok (.aload_n 0, 1) := by decide +kernel
theorem dX12_init_122 : decode cX12_init 122 = .ok (.iconst 4, 1) := by decide +kernel
theorem dX12_init_123 : decode cX12_init 123 = .ok (.newarray .boolean, 2) := by decide +kernel
theorem dX12_init_125 : decode cX12_init 125 = .ok (.putfield 57, 3) := by decide +kernel
theorem dX12_init_128 : decode cX12_init 128 = .ok (.aload_n 0, 1) := by decide +kernel
theorem dX12_init_129 : decode cX12_init 129 = .ok (.sipush 625, 3) := by decide +kernel
theorem dX12_init_132 : decode cX12_init 132 = .ok (.newarray .int, 2) := by decide +kernel
theorem dX12_init_134 : decode cX12_init 134 = .ok (.putfield 60, 3) := by decide +kernel
theorem dX12_init_137 : decode cX12_init 137 = .ok (.aload_n 0, 1) := by decide +kernel
theorem dX12_init_138 : decode cX12_init 138 = .ok (.sipush 400, 3) := by decide +kernel
theorem dX12_init_141 : decode cX12_init 141 = .ok (.newarray .int, 2) := by decide +kernel
theorem dX12_init_143 : decode cX12_init 143 = .ok (.putfield 63, 3) := by decide +kernel
theorem dX12_init_146 : decode cX12_init 146 = .ok (.aload_n 0, 1) := by decide +kernel
theorem dX12_init_147 : decode cX12_init 147 = .ok (.bipush 48, 2) := by decide +kernel
theorem dX12_init_149 : decode cX12_init 149 = .ok (.newarray .int, 2) := by decide +kernel
theorem dX12_init_151 : decode cX12_init 151 = .ok (.putfield 66, 3) := by decide +kernel
theorem dX12_init_154 : decode cX12_init 154 = .ok (.aload_n 0, 1) := by decide +kernel
theorem dX12_init_155 : decode cX12_init 155 = .ok (.bipush 48, 2) := by decide +kernel
theorem dX12_init_157 : decode cX12_init 157 = .ok (.newarray .boolean, 2) := by decide +kernel
theorem dX12_init_159 : decode cX12_init 159 = .ok (.putfield 69, 3) := by decide +kernel
theorem dX12_init_162 : decode cX12_init 162 = .ok (.aload_n 0, 1) := by decide +kernel
theorem dX12_init_163 : decode cX12_init 163 = .ok (.iconst 3, 1) := by decide +kernel
theorem dX12_init_164 : decode cX12_init 164 = .ok (.newarray .int, 2) := by decide +kernel
theorem dX12_init_166 : decode cX12_init 166 = .ok (.putfield 72, 3) := by decide +kernel
theorem dX12_init_169 : decode cX12_init 169 = .ok (.aload_n 0, 1) := by decide +kernel
theorem dX12_init_170 : decode cX12_init 170 = .ok (.bipush 20, 2) := by decide +kernel
theorem dX12_init_172 : decode cX12_init 172 = .ok (.newarray .int, 2) := by decide +kernel
theorem dX12_init_174 : decode cX12_init 174 = .ok (.putfield 75, 3) := by decide +kernel
theorem dX12_init_177 : decode cX12_init 177 = .ok (.aload_n 0, 1) := by decide +kernel
theorem dX12_init_178 : decode cX12_init 178 = .ok (.lconst 1, 1) := by decide +kernel
theorem dX12_init_179 : decode cX12_init 179 = .ok (.putfield 78, 3) := by decide +kernel
theorem dX12_init_182 : decode cX12_init 182 = .ok (.iconst 0, 1) := by decide +kernel
theorem dX12_init_183 : decode cX12_init 183 = .ok (.istore_n 1, 1) := by decide +kernel
theorem dX12_init_184 : decode cX12_init 184 = .ok (.iload_n 1, 1) := by decide +kernel
theorem dX12_init_185 : decode cX12_init 185 = .ok (.bipush 6, 2) := by decide +kernel
theorem dX12_init_187 : decode cX12_init 187 = .ok (.if_icmp .ge 16, 3) := by decide +kernel
theorem dX12_init_190 : decode cX12_init 190 = .ok (.aload_n 0, 1) := by decide +kernel
theorem dX12_init_191 : decode cX12_init 191 = .ok (.getfield 13, 3) := by decide +kernel
theorem dX12_init_194 : decode cX12_init 194 = .ok (.iload_n 1, 1) := by decide +kernel
theorem dX12_init_195 : decode cX12_init 195 = .ok (.iconst (-1), 1) := by decide +kernel
theorem dX12_init_196 : decode cX12_init 196 = .ok (.iastore, 1) := by decide +kernel
theorem dX12_init_197 : decode cX12_init 197 = .ok (.iinc 1 1, 3) := by decide +kernel
theorem dX12_init_200 : decode cX12_init 200 = .ok (.goto (-16), 3) := by decide +kernel
theorem dX12_init_203 : decode cX12_init 203 = .ok (.iconst 0, 1) := by decide +kernel
theorem dX12_init_204 : decode cX12_init 204 = .ok (.istore_n 1, 1) := by decide +kernel
theorem dX12_init_205 : decode cX12_init 205 = .ok (.iload_n 1, 1) := by decide +kernel
theorem dX12_init_206 : decode cX12_init 206 = .ok (.iconst 4, 1) := by decide +kernel
theorem dX12_init_207 : decode cX12_init 207 = .ok (.if_icmp .ge 16, 3) := by decide +kernel
theorem dX12_init_210 : decode cX12_init 210 = .ok (.aload_n 0, 1) := by decide +kernel
theorem dX12_init_211 : decode cX12_init 211 = .ok (.getfield 22, 3) := by decide +kernel
theorem dX12_init_214 : decode cX12_init 214 = .ok (.iload_n 1, 1) := by decide +kernel
theorem dX12_init_215 : decode cX12_init 215 = .ok (.iconst (-1), 1) := by decide +kernel
theorem dX12_init_216 : decode cX12_init 216 = .ok (.iastore, 1) := by decide +kernel
theorem dX12_init_217 : decode cX12_init 217 = .ok (.iinc 1 1, 3) := by decide +kernel
theorem dX12_init_220 : decode cX12_init 220 = .ok (.goto (-15), 3) := by decide +kernel
theorem dX12_init_223 : decode cX12_init 223 = .ok (.return_, 1) := by decide +kernel
theorem dX12_in_0 : decode cX12_in 0 = .ok (.iload_n 0, 1) := by decide +kernel
theorem dX12_in_1 : decode cX12_in 1 = .ok (.iload_n 1, 1) := by decide +kernel
theorem dX12_in_2 : decode cX12_in 2 = .ok (.if_icmp .lt 12, 3) := by decide +kernel
theorem dX12_in_5 : decode cX12_in 5 = .ok (.iload_n 0, 1) := by decide +kernel
theorem dX12_in_6 : decode cX12_in 6 = .ok (.iload_n 2, 1) := by decide +kernel
theorem dX12_in_7 : decode cX12_in 7 = .ok (.if_icmp .gt 7, 3) := by decide +kernel
theorem dX12_in_10 : decode cX12_in 10 = .ok (.iconst 1, 1) := by decide +kernel
theorem dX12_in_11 : decode cX12_in 11 = .ok (.goto 4, 3) := by decide +kernel
theorem dX12_in_14 : decode cX12_in 14 = .ok (.iconst 0, 1) := by decide +kernel
theorem dX12_in_15 : decode cX12_in 15 = .ok (.ireturn, 1) := by decide +kernel
theorem dX12_has_0 : decode cX12_has 0 = .ok (.iload_n 0, 1) := by decide +kernel
theorem dX12_has_1 : decode cX12_has 1 = .ok (.iload_n 1, 1) := by decide +kernel
theorem dX12_has_2 : decode cX12_has 2 = .ok (.ishr, 1) := by decide +kernel
theorem dX12_has_3 : decode cX12_has 3 = .ok (.iconst 1, 1) := by decide +kernel
theorem dX12_has_4 : decode cX12_has 4 = .ok (.iand, 1) := by decide +kernel
theorem dX12_has_5 : decode cX12_has 5 = .ok (.iconst 1, 1) := by decide +kernel
theorem dX12_has_6 : decode cX12_has 6 = .ok (.if_icmp .ne 7, 3) := by decide +kernel
theorem dX12_has_9 : decode cX12_has 9 = .ok (.iconst 1, 1) := by decide +kernel
theorem dX12_has_10 : decode cX12_has 10 = .ok (.goto 4, 3) := by decide +kernel
theorem dX12_has_13 : decode cX12_has 13 = .ok (.iconst 0, 1) := by decide +kernel
theorem dX12_has_14 : decode cX12_has 14 = .ok (.ireturn, 1) := by decide +kernel
theorem dX12_lesser_0 : decode cX12_lesser 0 = .ok (.iload_n 0, 1) := by decide +kernel
theorem dX12_lesser_1 : decode cX12_lesser 1 = .ok (.iload_n 1, 1) := by decide +kernel
theorem dX12_lesser_2 : decode cX12_lesser 2 = .ok (.if_icmp .ge 7, 3) := by decide +kernel
theorem dX12_lesser_5 : decode cX12_lesser 5 = .ok (.iload_n 0, 1) := by decide +kernel
theorem dX12_lesser_6 : decode cX12_lesser 6 = .ok (.goto 4, 3) := by decide +kernel
theorem dX12_lesser_9 : decode cX12_lesser 9 = .ok (.iload_n 1, 1) := by decide +kernel
theorem dX12_lesser_10 : decode cX12_lesser 10 = .ok (.ireturn, 1) := by decide +kernel
theorem dX12_greater_0 : decode cX12_greater 0 = .ok (.iload_n 0, 1) := by decide +kernel
theorem dX12_greater_1 : decode cX12_greater 1 = .ok (.iload_n 1, 1) := by decide +kernel
theorem dX12_greater_2 : decode cX12_greater 2 = .ok (.if_icmp .le 7, 3) := by decide +kernel
theorem dX12_greater_5 : decode cX12_greater 5 = .ok (.iload_n 0, 1) := by decide +kernel
theorem dX12_greater_6 : decode cX12_greater 6 = .ok (.goto 4, 3) := by decide +kernel
theorem dX12_greater_9 : decode cX12_greater 9 = .ok (.iload_n 1, 1) := by decide +kernel
theorem dX12_greater_10 : decode cX12_greater 10 = .ok (.ireturn, 1) := by decide +kernel
theorem dX12_far_0 : decode cX12_far 0 = .ok (.iload_n 0, 1) := by decide +kernel
theorem dX12_far_1 : decode cX12_far 1 = .ok (.iload_n 1, 1) := by decide +kernel
theorem dX12_far_2 : decode cX12_far 2 = .ok (.if_icmp .ge 9, 3) := by decide +kernel
theorem dX12_far_5 : decode cX12_far 5 = .ok (.iload_n 1, 1) := by decide +kernel
theorem dX12_far_6 : decode cX12_far 6 = .ok (.iload_n 0, 1) := by decide +kernel
theorem dX12_far_7 : decode cX12_far 7 = .ok (.isub, 1) := by decide +kernel
theorem dX12_far_8 : decode cX12_far 8 = .ok (.goto 6, 3) := by decide +kernel
theorem dX12_far_11 : decode cX12_far 11 = .ok (.iload_n 0, 1) := by decide +kernel
theorem dX12_far_12 : decode cX12_far 12 = .ok (.iload_n 1, 1) := by decide +kernel
theorem dX12_far_13 : decode cX12_far 13 = .ok (.isub, 1) := by decide +kernel
theorem dX12_far_14 : decode cX12_far 14 = .ok (.ireturn, 1) := by decide +kernel
theorem dX12_meets_0 : decode cX12_meets 0 = .ok (.aload_n 0, 1) := by decide +kernel
theorem dX12_meets_1 : decode cX12_meets 1 = .ok (.iload_n 1, 1) := by decide +kernel
theorem dX12_meets_2 : decode cX12_meets 2 = .ok (.putfield 82, 3) := by decide +kernel
theorem dX12_meets_5 : decode cX12_meets 5 = .ok (.aload_n 0, 1) := by decide +kernel
theorem dX12_meets_6 : decode cX12_meets 6 = .ok (.getfield 7, 3) := by decide +kernel
theorem dX12_meets_9 : decode cX12_meets 9 = .ok (.iload_n 1, 1) := by decide +kernel
theorem dX12_meets_10 : decode cX12_meets 10 = .ok (.dup2, 1) := by decide +kernel
theorem dX12_meets_11 : decode cX12_meets 11 = .ok (.iaload, 1) := by decide +kernel
theorem dX12_meets_12 : decode cX12_meets 12 = .ok (.iconst 1, 1) := by decide +kernel
theorem dX12_meets_13 : decode cX12_meets 13 = .ok (.iadd, 1) := by decide +kernel
theorem dX12_meets_14 : decode cX12_meets 14 = .ok (.iastore, 1) := by decide +kernel
theorem dX12_meets_15 : decode cX12_meets 15 = .ok (.bipush (-3), 2) := by decide +kernel
theorem dX12_meets_17 : decode cX12_meets 17 = .ok (.ireturn, 1) := by decide +kernel
theorem dX12_finding_0 : decode cX12_finding 0 = .ok (.aload_n 0, 1) := by decide +kernel
theorem dX12_finding_1 : decode cX12_finding 1 = .ok (.getfield 82, 3) := by decide +kernel
theorem dX12_finding_4 : decode cX12_finding 4 = .ok (.ireturn, 1) := by decide +kernel
theorem dX12_findings_0 : decode cX12_findings 0 = .ok (.iload_n 1, 1) := by decide +kernel
theorem dX12_findings_1 : decode cX12_findings 1 = .ok (.iconst 1, 1) := by decide +kernel
theorem dX12_findings_2 : decode cX12_findings 2 = .ok (.iconst 5, 1) := by decide +kernel
theorem dX12_findings_3 : decode cX12_findings 3 = .ok (.invokestatic 86, 3) := by decide +kernel
theorem dX12_findings_6 : decode cX12_findings 6 = .ok (.ifCond .eq 12, 3) := by decide +kernel
theorem dX12_findings_9 : decode cX12_findings 9 = .ok (.aload_n 0, 1) := by decide +kernel
theorem dX12_findings_10 : decode cX12_findings 10 = .ok (.getfield 7, 3) := by decide +kernel
theorem dX12_findings_13 : decode cX12_findings 13 = .ok (.iload_n 1, 1) := by decide +kernel
theorem dX12_findings_14 : decode cX12_findings 14 = .ok (.iaload, 1) := by decide +kernel
theorem dX12_findings_15 : decode cX12_findings 15 = .ok (.goto 4, 3) := by decide +kernel
theorem dX12_findings_18 : decode cX12_findings 18 = .ok (.iconst (-1), 1) := by decide +kernel
theorem dX12_findings_19 : decode cX12_findings 19 = .ok (.ireturn, 1) := by decide +kernel
theorem dX12_tells_0 : decode cX12_tells 0 = .ok (.aload_n 0, 1) := by decide +kernel
theorem dX12_tells_1 : decode cX12_tells 1 = .ok (.iload_n 1, 1) := by decide +kernel
theorem dX12_tells_2 : decode cX12_tells 2 = .ok (.putfield 90, 3) := by decide +kernel
theorem dX12_tells_5 : decode cX12_tells 5 = .ok (.iload_n 2, 1) := by decide +kernel
theorem dX12_tells_6 : decode cX12_tells 6 = .ok (.ireturn, 1) := by decide +kernel
theorem dX12_asked_0 : decode cX12_asked 0 = .ok (.aload_n 0, 1) := by decide +kernel
theorem dX12_asked_1 : decode cX12_asked 1 = .ok (.getfield 90, 3) := by decide +kernel
theorem dX12_asked_4 : decode cX12_asked 4 = .ok (.ireturn, 1) := by decide +kernel
theorem dX12_fraction_0 : decode cX12_fraction 0 = .ok (.lload_n 1, 1) := by decide +kernel
theorem dX12_fraction_1 : decode cX12_fraction 1 = .ok (.lconst 0, 1) := by decide +kernel
theorem dX12_fraction_2 : decode cX12_fraction 2 = .ok (.lcmp, 1) := by decide +kernel
theorem dX12_fraction_3 : decode cX12_fraction 3 = .ok (.ifCond .ge 8, 3) := by decide +kernel
theorem dX12_fraction_6 : decode cX12_fraction 6 = .ok (.lload_n 1, 1) := by decide +kernel
theorem dX12_fraction_7 : decode cX12_fraction 7 = .ok (.lneg, 1) := by decide +kernel
theorem dX12_fraction_8 : decode cX12_fraction 8 = .ok (.goto 4, 3) := by decide +kernel
theorem dX12_fraction_11 : decode cX12_fraction 11 = .ok (.lload_n 1, 1) := by decide +kernel
theorem dX12_fraction_12 : decode cX12_fraction 12 = .ok (.lstore 6, 2) := by decide +kernel
theorem dX12_fraction_14 : decode cX12_fraction 14 = .ok (.lload_n 3, 1) := by decide +kernel
theorem dX12_fraction_15 : decode cX12_fraction 15 = .ok (.lstore 8, 2) := by decide +kernel
theorem dX12_fraction_17 : decode cX12_fraction 17 = .ok (.lload 8, 2) := by decide +kernel
theorem dX12_fraction_19 : decode cX12_fraction 19 = .ok (.lconst 0, 1) := by decide +kernel
theorem dX12_fraction_20 : decode cX12_fraction 20 = .ok (.lcmp, 1) := by decide +kernel
theorem dX12_fraction_21 : decode cX12_fraction 21 = .ok (.ifCond .eq 21, 3) := by decide +kernel
theorem dX12_fraction_24 : decode cX12_fraction 24 = .ok (.lload 6, 2) := by decide +kernel
theorem dX12_fraction_26 : decode cX12_fraction 26 = .ok (.lload 8, 2) := by decide +kernel
theorem dX12_fraction_28 : decode cX12_fraction 28 = .ok (.lrem, 1) := by decide +kernel
theorem dX12_fraction_29 : decode cX12_fraction 29 = .ok (.lstore 10, 2) := by decide +kernel
theorem dX12_fraction_31 : decode cX12_fraction 31 = .ok (.lload 8, 2) := by decide +kernel
theorem dX12_fraction_33 : decode cX12_fraction 33 = .ok (.lstore 6, 2) := by decide +kernel
theorem dX12_fraction_35 : decode cX12_fraction 35 = .ok (.lload 10, 2) := by decide +kernel
theorem dX12_fraction_37 : decode cX12_fraction 37 = .ok (.lstore 8, 2) := by decide +kernel
theorem dX12_fraction_39 : decode cX12_fraction 39 = .ok (.goto (-22), 3) := by decide +kernel
theorem dX12_fraction_42 : decode cX12_fraction 42 = .ok (.aload_n 0, 1) := by decide +kernel
theorem dX12_fraction_43 : decode cX12_fraction 43 = .ok (.lload_n 1, 1) := by decide +kernel
theorem dX12_fraction_44 : decode cX12_fraction 44 = .ok (.lload 6, 2) := by decide +kernel
theorem dX12_fraction_46 : decode cX12_fraction 46 = .ok (.ldiv, 1) := by decide +kernel
theorem dX12_fraction_47 : decode cX12_fraction 47 = .ok (.putfield 93, 3) := by decide +kernel
theorem dX12_fraction_50 : decode cX12_fraction 50 = .ok (.aload_n 0, 1) := by decide +kernel
theorem dX12_fraction_51 : decode cX12_fraction 51 = .ok (.lload_n 3, 1) := by decide +kernel
theorem dX12_fraction_52 : decode cX12_fraction 52 = .ok (.lload 6, 2) := by decide +kernel
theorem dX12_fraction_54 : decode cX12_fraction 54 = .ok (.ldiv, 1) := by decide +kernel
theorem dX12_fraction_55 : decode cX12_fraction 55 = .ok (.putfield 78, 3) := by decide +kernel
theorem dX12_fraction_58 : decode cX12_fraction 58 = .ok (.iload 5, 2) := by decide +kernel
theorem dX12_fraction_60 : decode cX12_fraction 60 = .ok (.ireturn, 1) := by decide +kernel
theorem dX12_upper_0 : decode cX12_upper 0 = .ok (.aload_n 0, 1) := by decide +kernel
theorem dX12_upper_1 : decode cX12_upper 1 = .ok (.getfield 93, 3) := by decide +kernel
theorem dX12_upper_4 : decode cX12_upper 4 = .ok (.lreturn, 1) := by decide +kernel
theorem dX12_lower_0 : decode cX12_lower 0 = .ok (.aload_n 0, 1) := by decide +kernel
theorem dX12_lower_1 : decode cX12_lower 1 = .ok (.getfield 78, 3) := by decide +kernel
theorem dX12_lower_4 : decode cX12_lower 4 = .ok (.lreturn, 1) := by decide +kernel
theorem dX12_isRow_0 : decode cX12_isRow 0 = .ok (.iload_n 0, 1) := by decide +kernel
theorem dX12_isRow_1 : decode cX12_isRow 1 = .ok (.iconst 0, 1) := by decide +kernel
theorem dX12_isRow_2 : decode cX12_isRow 2 = .ok (.iconst 5, 1) := by decide +kernel
theorem dX12_isRow_3 : decode cX12_isRow 3 = .ok (.invokestatic 86, 3) := by decide +kernel
theorem dX12_isRow_6 : decode cX12_isRow 6 = .ok (.ireturn, 1) := by decide +kernel
theorem dX12_rowAt_0 : decode cX12_rowAt 0 = .ok (.aload_n 0, 1) := by decide +kernel
theorem dX12_rowAt_1 : decode cX12_rowAt 1 = .ok (.getfield 16, 3) := by decide +kernel
theorem dX12_rowAt_4 : decode cX12_rowAt 4 = .ok (.bipush 60, 2) := by decide +kernel
theorem dX12_rowAt_6 : decode cX12_rowAt 6 = .ok (.iload_n 1, 1) := by decide +kernel
theorem dX12_rowAt_7 : decode cX12_rowAt 7 = .ok (.imul, 1) := by decide +kernel
theorem dX12_rowAt_8 : decode cX12_rowAt 8 = .ok (.iload_n 2, 1) := by decide +kernel
theorem dX12_rowAt_9 : decode cX12_rowAt 9 = .ok (.iadd, 1) := by decide +kernel
theorem dX12_rowAt_10 : decode cX12_rowAt 10 = .ok (.iaload, 1) := by decide +kernel
theorem dX12_rowAt_11 : decode cX12_rowAt 11 = .ok (.ireturn, 1) := by decide +kernel
theorem dX12_row_0 : decode cX12_row 0 = .ok (.iload_n 1, 1) := by decide +kernel
theorem dX12_row_1 : decode cX12_row 1 = .ok (.invokestatic 96, 3) := by decide +kernel
theorem dX12_row_4 : decode cX12_row 4 = .ok (.ifCond .eq 9, 3) := by decide +kernel
theorem dX12_row_7 : decode cX12_row 7 = .ok (.iload_n 2, 1) := by decide +kernel
theorem dX12_row_8 : decode cX12_row 8 = .ok (.bipush 60, 2) := by decide +kernel
theorem dX12_row_10 : decode cX12_row 10 = .ok (.if_icmp .le 5, 3) := by decide +kernel
theorem dX12_row_13 : decode cX12_row 13 = .ok (.iconst (-1), 1) := by decide +kernel
theorem dX12_row_14 : decode cX12_row 14 = .ok (.ireturn, 1) := by decide +kernel
theorem dX12_row_15 : decode cX12_row 15 = .ok (.iload_n 2, 1) := by decide +kernel
theorem dX12_row_16 : decode cX12_row 16 = .ok (.ifCond .ge 9, 3) := by decide +kernel
theorem dX12_row_19 : decode cX12_row 19 = .ok (.aload_n 0, 1) := by decide +kernel
theorem dX12_row_20 : decode cX12_row 20 = .ok (.iconst 5, 1) := by decide +kernel
theorem dX12_row_21 : decode cX12_row 21 = .ok (.invokevirtual 100, 3) := by decide +kernel
theorem dX12_row_24 : decode cX12_row 24 = .ok (.ireturn, 1) := by decide +kernel
theorem dX12_row_25 : decode cX12_row 25 = .ok (.aload_n 0, 1) := by decide +kernel
theorem dX12_row_26 : decode cX12_row 26 = .ok (.getfield 13, 3) := by decide +kernel
theorem dX12_row_29 : decode cX12_row 29 = .ok (.iload_n 1, 1) := by decide +kernel
theorem dX12_row_30 : decode cX12_row 30 = .ok (.iload_n 2, 1) := by decide +kernel
theorem dX12_row_31 : decode cX12_row 31 = .ok (.iastore, 1) := by decide +kernel
theorem dX12_row_32 : decode cX12_row 32 = .ok (.iconst 0, 1) := by decide +kernel
theorem dX12_row_33 : decode cX12_row 33 = .ok (.istore_n 3, 1) := by decide +kernel
theorem dX12_row_34 : decode cX12_row 34 = .ok (.iload_n 3, 1) := by decide +kernel
theorem dX12_row_35 : decode cX12_row 35 = .ok (.bipush 60, 2) := by decide +kernel
theorem dX12_row_37 : decode cX12_row 37 = .ok (.if_icmp .ge 21, 3) := by decide +kernel
theorem dX12_row_40 : decode cX12_row 40 = .ok (.aload_n 0, 1) := by decide +kernel
theorem dX12_row_41 : decode cX12_row 41 = .ok (.getfield 16, 3) := by decide +kernel
theorem dX12_row_44 : decode cX12_row 44 = .ok (.bipush 60, 2) := by decide +kernel
theorem dX12_row_46 : decode cX12_row 46 = .ok (.iload_n 1, 1) := by decide +kernel
theorem dX12_row_47 : decode cX12_row 47 = .ok (.imul, 1) := by decide +kernel
theorem dX12_row_48 : decode cX12_row 48 = .ok (.iload_n 3, 1) := by decide +kernel
theorem dX12_row_49 : decode cX12_row 49 = .ok (.iadd, 1) := by decide +kernel
theorem dX12_row_50 : decode cX12_row 50 = .ok (.iconst 0, 1) := by decide +kernel
theorem dX12_row_51 : decode cX12_row 51 = .ok (.iastore, 1) := by decide +kernel
theorem dX12_row_52 : decode cX12_row 52 = .ok (.iinc 3 1, 3) := by decide +kernel
theorem dX12_row_55 : decode cX12_row 55 = .ok (.goto (-21), 3) := by decide +kernel
theorem dX12_row_58 : decode cX12_row 58 = .ok (.iload_n 2, 1) := by decide +kernel
theorem dX12_row_59 : decode cX12_row 59 = .ok (.ireturn, 1) := by decide +kernel
theorem dX12_lay_0 : decode cX12_lay 0 = .ok (.iload_n 1, 1) := by decide +kernel
theorem dX12_lay_1 : decode cX12_lay 1 = .ok (.invokestatic 96, 3) := by decide +kernel
theorem dX12_lay_4 : decode cX12_lay 4 = .ok (.ifCond .ne 5, 3) := by decide +kernel
theorem dX12_lay_7 : decode cX12_lay 7 = .ok (.iconst (-1), 1) := by decide +kernel
theorem dX12_lay_8 : decode cX12_lay 8 = .ok (.ireturn, 1) := by decide +kernel
theorem dX12_lay_9 : decode cX12_lay 9 = .ok (.aload_n 0, 1) := by decide +kernel
theorem dX12_lay_10 : decode cX12_lay 10 = .ok (.getfield 13, 3) := by decide +kernel
theorem dX12_lay_13 : decode cX12_lay 13 = .ok (.iload_n 1, 1) := by decide +kernel
theorem dX12_lay_14 : decode cX12_lay 14 = .ok (.iaload, 1) := by decide +kernel
theorem dX12_lay_15 : decode cX12_lay 15 = .ok (.ifCond .ge 9, 3) := by decide +kernel
theorem dX12_lay_18 : decode cX12_lay 18 = .ok (.aload_n 0, 1) := by decide +kernel
theorem dX12_lay_19 : decode cX12_lay 19 = .ok (.iconst 1, 1) := by decide +kernel
theorem dX12_lay_20 : decode cX12_lay 20 = .ok (.invokevirtual 100, 3) := by decide +kernel
theorem dX12_lay_23 : decode cX12_lay 23 = .ok (.ireturn, 1) := by decide +kernel
theorem dX12_lay_24 : decode cX12_lay 24 = .ok (.iload_n 2, 1) := by decide +kernel
theorem dX12_lay_25 : decode cX12_lay 25 = .ok (.iconst 0, 1) := by decide +kernel
theorem dX12_lay_26 : decode cX12_lay 26 = .ok (.aload_n 0, 1) := by decide +kernel
theorem dX12_lay_27 : decode cX12_lay 27 = .ok (.getfield 13, 3) := by decide +kernel
theorem dX12_lay_30 : decode cX12_lay 30 = .ok (.iload_n 1, 1) := by decide +kernel
theorem dX12_lay_31 : decode cX12_lay 31 = .ok (.iaload, 1) := by decide +kernel
theorem dX12_lay_32 : decode cX12_lay 32 = .ok (.iconst 1, 1) := by decide +kernel
theorem dX12_lay_33 : decode cX12_lay 33 = .ok (.isub, 1) := by decide +kernel
theorem dX12_lay_34 : decode cX12_lay 34 = .ok (.invokestatic 86, 3) := by decide +kernel
theorem dX12_lay_37 : decode cX12_lay 37 = .ok (.ifCond .ne 9, 3) := by decide +kernel
theorem dX12_lay_40 : decode cX12_lay 40 = .ok (.aload_n 0, 1) := by decide +kernel
theorem dX12_lay_41 : decode cX12_lay 41 = .ok (.iconst 2, 1) := by decide +kernel
theorem dX12_lay_42 : decode cX12_lay 42 = .ok (.invokevirtual 100, 3) := by decide +kernel
theorem dX12_lay_45 : decode cX12_lay 45 = .ok (.ireturn, 1) := by decide +kernel
theorem dX12_lay_46 : decode cX12_lay 46 = .ok (.aload_n 0, 1) := by decide +kernel
theorem dX12_lay_47 : decode cX12_lay 47 = .ok (.iload_n 1, 1) := by decide +kernel
theorem dX12_lay_48 : decode cX12_lay 48 = .ok (.iload_n 2, 1) := by decide +kernel
theorem dX12_lay_49 : decode cX12_lay 49 = .ok (.invokevirtual 104, 3) := by decide +kernel
theorem dX12_lay_52 : decode cX12_lay 52 = .ok (.istore 4, 2) := by decide +kernel
theorem dX12_lay_54 : decode cX12_lay 54 = .ok (.aload_n 0, 1) := by decide +kernel
theorem dX12_lay_55 : decode cX12_lay 55 = .ok (.getfield 16, 3) := by decide +kernel
theorem dX12_lay_58 : decode cX12_lay 58 = .ok (.bipush 60, 2) := by decide +kernel
theorem dX12_lay_60 : decode cX12_lay 60 = .ok (.iload_n 1, 1) := by decide +kernel
theorem dX12_lay_61 : decode cX12_lay 61 = .ok (.imul, 1) := by decide +kernel
theorem dX12_lay_62 : decode cX12_lay 62 = .ok (.iload_n 2, 1) := by decide +kernel
theorem dX12_lay_63 : decode cX12_lay 63 = .ok (.iadd, 1) := by decide +kernel
theorem dX12_lay_64 : decode cX12_lay 64 = .ok (.iload_n 3, 1) := by decide +kernel
theorem dX12_lay_65 : decode cX12_lay 65 = .ok (.iastore, 1) := by decide +kernel
theorem dX12_lay_66 : decode cX12_lay 66 = .ok (.aload_n 0, 1) := by decide +kernel
theorem dX12_lay_67 : decode cX12_lay 67 = .ok (.iload 4, 2) := by decide +kernel
theorem dX12_lay_69 : decode cX12_lay 69 = .ok (.iconst 1, 1) := by decide +kernel
theorem dX12_lay_70 : decode cX12_lay 70 = .ok (.invokevirtual 108, 3) := by decide +kernel
theorem dX12_lay_73 : decode cX12_lay 73 = .ok (.ireturn, 1) := by decide +kernel
theorem dX12_at_0 : decode cX12_at 0 = .ok (.iload_n 1, 1) := by decide +kernel
theorem dX12_at_1 : decode cX12_at 1 = .ok (.invokestatic 96, 3) := by decide +kernel
theorem dX12_at_4 : decode cX12_at 4 = .ok (.ifCond .ne 5, 3) := by decide +kernel
theorem dX12_at_7 : decode cX12_at 7 = .ok (.iconst (-1), 1) := by decide +kernel
theorem dX12_at_8 : decode cX12_at 8 = .ok (.ireturn, 1) := by decide +kernel
theorem dX12_at_9 : decode cX12_at 9 = .ok (.aload_n 0, 1) := by decide +kernel
theorem dX12_at_10 : decode cX12_at 10 = .ok (.getfield 13, 3) := by decide +kernel
theorem dX12_at_13 : decode cX12_at 13 = .ok (.iload_n 1, 1) := by decide +kernel
theorem dX12_at_14 : decode cX12_at 14 = .ok (.iaload, 1) := by decide +kernel
theorem dX12_at_15 : decode cX12_at 15 = .ok (.ifCond .ge 9, 3) := by decide +kernel
theorem dX12_at_18 : decode cX12_at 18 = .ok (.aload_n 0, 1) := by decide +kernel
theorem dX12_at_19 : decode cX12_at 19 = .ok (.iconst 1, 1) := by decide +kernel
theorem dX12_at_20 : decode cX12_at 20 = .ok (.invokevirtual 100, 3) := by decide +kernel
theorem dX12_at_23 : decode cX12_at 23 = .ok (.ireturn, 1) := by decide +kernel
theorem dX12_at_24 : decode cX12_at 24 = .ok (.iload_n 2, 1) := by decide +kernel
theorem dX12_at_25 : decode cX12_at 25 = .ok (.iconst 0, 1) := by decide +kernel
theorem dX12_at_26 : decode cX12_at 26 = .ok (.aload_n 0, 1) := by decide +kernel
theorem dX12_at_27 : decode cX12_at 27 = .ok (.getfield 13, 3) := by decide +kernel
theorem dX12_at_30 : decode cX12_at 30 = .ok (.iload_n 1, 1) := by decide +kernel
theorem dX12_at_31 : decode cX12_at 31 = .ok (.iaload, 1) := by decide +kernel
theorem dX12_at_32 : decode cX12_at 32 = .ok (.iconst 1, 1) := by decide +kernel
theorem dX12_at_33 : decode cX12_at 33 = .ok (.isub, 1) := by decide +kernel
theorem dX12_at_34 : decode cX12_at 34 = .ok (.invokestatic 86, 3) := by decide +kernel
theorem dX12_at_37 : decode cX12_at 37 = .ok (.ifCond .eq 17, 3) := by decide +kernel
theorem dX12_at_40 : decode cX12_at 40 = .ok (.aload_n 0, 1) := by decide +kernel
theorem dX12_at_41 : decode cX12_at 41 = .ok (.aload_n 0, 1) := by decide +kernel
theorem dX12_at_42 : decode cX12_at 42 = .ok (.iload_n 1, 1) := by decide +kernel
theorem dX12_at_43 : decode cX12_at 43 = .ok (.iload_n 2, 1) := by decide +kernel
theorem dX12_at_44 : decode cX12_at 44 = .ok (.invokevirtual 104, 3) := by decide +kernel
theorem dX12_at_47 : decode cX12_at 47 = .ok (.iconst 1, 1) := by decide +kernel
theorem dX12_at_48 : decode cX12_at 48 = .ok (.invokevirtual 108, 3) := by decide +kernel
theorem dX12_at_51 : decode cX12_at 51 = .ok (.goto 8, 3) := by decide +kernel
theorem dX12_at_54 : decode cX12_at 54 = .ok (.aload_n 0, 1) := by decide +kernel
theorem dX12_at_55 : decode cX12_at 55 = .ok (.iconst 2, 1) := by decide +kernel
theorem dX12_at_56 : decode cX12_at 56 = .ok (.invokevirtual 100, 3) := by decide +kernel
theorem dX12_at_59 : decode cX12_at 59 = .ok (.ireturn, 1) := by decide +kernel
theorem dX12_tear_0 : decode cX12_tear 0 = .ok (.iload_n 1, 1) := by decide +kernel
theorem dX12_tear_1 : decode cX12_tear 1 = .ok (.invokestatic 96, 3) := by decide +kernel
theorem dX12_tear_4 : decode cX12_tear 4 = .ok (.ifCond .ne 5, 3) := by decide +kernel
theorem dX12_tear_7 : decode cX12_tear 7 = .ok (.iconst (-1), 1) := by decide +kernel
theorem dX12_tear_8 : decode cX12_tear 8 = .ok (.ireturn, 1) := by decide +kernel
theorem dX12_tear_9 : decode cX12_tear 9 = .ok (.aload_n 0, 1) := by decide +kernel
theorem dX12_tear_10 : decode cX12_tear 10 = .ok (.getfield 13, 3) := by decide +kernel
theorem dX12_tear_13 : decode cX12_tear 13 = .ok (.iload_n 1, 1) := by decide +kernel
theorem dX12_tear_14 : decode cX12_tear 14 = .ok (.iaload, 1) := by decide +kernel
theorem dX12_tear_15 : decode cX12_tear 15 = .ok (.ifCond .ge 9, 3) := by decide +kernel
theorem dX12_tear_18 : decode cX12_tear 18 = .ok (.aload_n 0, 1) := by decide +kernel
theorem dX12_tear_19 : decode cX12_tear 19 = .ok (.iconst 1, 1) := by decide +kernel
theorem dX12_tear_20 : decode cX12_tear 20 = .ok (.invokevirtual 100, 3) := by decide +kernel
theorem dX12_tear_23 : decode cX12_tear 23 = .ok (.ireturn, 1) := by decide +kernel
theorem dX12_tear_24 : decode cX12_tear 24 = .ok (.aload_n 0, 1) := by decide +kernel
theorem dX12_tear_25 : decode cX12_tear 25 = .ok (.getfield 13, 3) := by decide +kernel
theorem dX12_tear_28 : decode cX12_tear 28 = .ok (.iload_n 1, 1) := by decide +kernel
theorem dX12_tear_29 : decode cX12_tear 29 = .ok (.iconst (-1), 1) := by decide +kernel
theorem dX12_tear_30 : decode cX12_tear 30 = .ok (.iastore, 1) := by decide +kernel
theorem dX12_tear_31 : decode cX12_tear 31 = .ok (.iconst 1, 1) := by decide +kernel
theorem dX12_tear_32 : decode cX12_tear 32 = .ok (.ireturn, 1) := by decide +kernel
theorem dX12_copy_0 : decode cX12_copy 0 = .ok (.iload_n 1, 1) := by decide +kernel
theorem dX12_copy_1 : decode cX12_copy 1 = .ok (.invokestatic 96, 3) := by decide +kernel
theorem dX12_copy_4 : decode cX12_copy 4 = .ok (.ifCond .eq 10, 3) := by decide +kernel
theorem dX12_copy_7 : decode cX12_copy 7 = .ok (.iload_n 3, 1) := by decide +kernel
theorem dX12_copy_8 : decode cX12_copy 8 = .ok (.invokestatic 96, 3) := by decide +kernel
theorem dX12_copy_11 : decode cX12_copy 11 = .ok (.ifCond .ne 5, 3) := by decide +kernel
theorem dX12_copy_14 : decode cX12_copy 14 = .ok (.iconst (-1), 1) := by decide +kernel
theorem dX12_copy_15 : decode cX12_copy 15 = .ok (.ireturn, 1) := by decide +kernel
theorem dX12_copy_16 : decode cX12_copy 16 = .ok (.iload 5, 2) := by decide +kernel
theorem dX12_copy_18 : decode cX12_copy 18 = .ok (.ifCond .ge 9, 3) := by decide +kernel
theorem dX12_copy_21 : decode cX12_copy 21 = .ok (.aload_n 0, 1) := by decide +kernel
theorem dX12_copy_22 : decode cX12_copy 22 = .ok (.iconst 5, 1) := by decide +kernel
theorem dX12_copy_23 : decode cX12_copy 23 = .ok (.invokevirtual 100, 3) := by decide +kernel
theorem dX12_copy_26 : decode cX12_copy 26 = .ok (.ireturn, 1) := by decide +kernel
theorem dX12_copy_27 : decode cX12_copy 27 = .ok (.aload_n 0, 1) := by decide +kernel
theorem dX12_copy_28 : decode cX12_copy 28 = .ok (.getfield 13, 3) := by decide +kernel
theorem dX12_copy_31 : decode cX12_copy 31 = .ok (.iload_n 1, 1) := by decide +kernel
theorem dX12_copy_32 : decode cX12_copy 32 = .ok (.iaload, 1) := by decide +kernel
theorem dX12_copy_33 : decode cX12_copy 33 = .ok (.ifCond .lt 12, 3) := by decide +kernel
theorem dX12_copy_36 : decode cX12_copy 36 = .ok (.aload_n 0, 1) := by decide +kernel
theorem dX12_copy_37 : decode cX12_copy 37 = .ok (.getfield 13, 3) := by decide +kernel
theorem dX12_copy_40 : decode cX12_copy 40 = .ok (.iload_n 3, 1) := by decide +kernel
theorem dX12_copy_41 : decode cX12_copy 41 = .ok (.iaload, 1) := by decide +kernel
theorem dX12_copy_42 : decode cX12_copy 42 = .ok (.ifCond .ge 9, 3) := by decide +kernel
theorem dX12_copy_45 : decode cX12_copy 45 = .ok (.aload_n 0, 1) := by decide +kernel
theorem dX12_copy_46 : decode cX12_copy 46 = .ok (.iconst 1, 1) := by decide +kernel
theorem dX12_copy_47 : decode cX12_copy 47 = .ok (.invokevirtual 100, 3) := by decide +kernel
theorem dX12_copy_50 : decode cX12_copy 50 = .ok (.ireturn, 1) := by decide +kernel
theorem dX12_copy_51 : decode cX12_copy 51 = .ok (.iload_n 2, 1) := by decide +kernel
theorem dX12_copy_52 : decode cX12_copy 52 = .ok (.ifCond .lt 43, 3) := by decide +kernel
theorem dX12_copy_55 : decode cX12_copy 55 = .ok (.iload 4, 2) := by decide +kernel
theorem dX12_copy_57 : decode cX12_copy 57 = .ok (.ifCond .lt 38, 3) := by decide +kernel
theorem dX12_copy_60 : decode cX12_copy 60 = .ok (.iload_n 2, 1) := by decide +kernel
theorem dX12_copy_61 : decode cX12_copy 61 = .ok (.i2l, 1) := by decide +kernel
theorem dX12_copy_62 : decode cX12_copy 62 = .ok (.iload 5, 2) := by decide +kernel
theorem dX12_copy_64 : decode cX12_copy 64 = .ok (.i2l, 1) := by decide +kernel
theorem dX12_copy_65 : decode cX12_copy 65 = .ok (.ladd, 1) := by decide +kernel
theorem dX12_copy_66 : decode cX12_copy 66 = .ok (.aload_n 0, 1) := by decide +kernel
theorem dX12_copy_67 : decode cX12_copy 67 = .ok (.getfield 13, 3) := by decide +kernel
theorem dX12_copy_70 : decode cX12_copy 70 = .ok (.iload_n 1, 1) := by decide +kernel
theorem dX12_copy_71 : decode cX12_copy 71 = .ok (.iaload, 1) := by decide +kernel
theorem dX12_copy_72 : decode cX12_copy 72 = .ok (.i2l, 1) := by decide +kernel
theorem dX12_copy_73 : decode cX12_copy 73 = .ok (.lcmp, 1) := by decide +kernel
theorem dX12_copy_74 : decode cX12_copy 74 = .ok (.ifCond .gt 21, 3) := by decide +kernel
theorem dX12_copy_77 : decode cX12_copy 77 = .ok (.iload 4, 2) := by decide +kernel
theorem dX12_copy_79 : decode cX12_copy 79 = .ok (.i2l, 1) := by decide +kernel
theorem dX12_copy_80 : decode cX12_copy 80 = .ok (.iload 5, 2) := by decide +kernel
theorem dX12_copy_82 : decode cX12_copy 82 = .ok (.i2l, 1) := by decide +kernel
theorem dX12_copy_83 : decode cX12_copy 83 = .ok (.ladd, 1) := by decide +kernel
theorem dX12_copy_84 : decode cX12_copy 84 = .ok (.aload_n 0, 1) := by decide +kernel
theorem dX12_copy_85 : decode cX12_copy 85 = .ok (.getfield 13, 3) := by decide +kernel
theorem dX12_copy_88 : decode cX12_copy 88 = .ok (.iload_n 3, 1) := by decide +kernel
theorem dX12_copy_89 : decode cX12_copy 89 = .ok (.iaload, 1) := by decide +kernel
theorem dX12_copy_90 : decode cX12_copy 90 = .ok (.i2l, 1) := by decide +kernel
theorem dX12_copy_91 : decode cX12_copy 91 = .ok (.lcmp, 1) := by decide +kernel
theorem dX12_copy_92 : decode cX12_copy 92 = .ok (.ifCond .le 9, 3) := by decide +kernel
theorem dX12_copy_95 : decode cX12_copy 95 = .ok (.aload_n 0, 1) := by decide +kernel
theorem dX12_copy_96 : decode cX12_copy 96 = .ok (.iconst 2, 1) := by decide +kernel
theorem dX12_copy_97 : decode cX12_copy 97 = .ok (.invokevirtual 100, 3) := by decide +kernel
theorem dX12_copy_100 : decode cX12_copy 100 = .ok (.ireturn, 1) := by decide +kernel
theorem dX12_copy_101 : decode cX12_copy 101 = .ok (.iconst 0, 1) := by decide +kernel
theorem dX12_copy_102 : decode cX12_copy 102 = .ok (.istore 6, 2) := by decide +kernel
theorem dX12_copy_104 : decode cX12_copy 104 = .ok (.iload 6, 2) := by decide +kernel
theorem dX12_copy_106 : decode cX12_copy 106 = .ok (.iload 5, 2) := by decide +kernel
theorem dX12_copy_108 : decode cX12_copy 108 = .ok (.if_icmp .ge 25, 3) := by decide +kernel
theorem dX12_copy_111 : decode cX12_copy 111 = .ok (.aload_n 0, 1) := by decide +kernel
theorem dX12_copy_112 : decode cX12_copy 112 = .ok (.getfield 19, 3) := by decide +kernel
theorem dX12_copy_115 : decode cX12_copy 115 = .ok (.iload 6, 2) := by decide +kernel
theorem dX12_copy_117 : decode cX12_copy 117 = .ok (.aload_n 0, 1) := by decide +kernel
theorem dX12_copy_118 : decode cX12_copy 118 = .ok (.iload_n 1, 1) := by decide +kernel
theorem dX12_copy_119 : decode cX12_copy 119 = .ok (.iload_n 2, 1) := by decide +kernel
theorem dX12_copy_120 : decode cX12_copy 120 = .ok (.iload 6, 2) := by decide +kernel
theorem dX12_copy_122 : decode cX12_copy 122 = .ok (.iadd, 1) := by decide +kernel
theorem dX12_copy_123 : decode cX12_copy 123 = .ok (.invokevirtual 104, 3) := by decide +kernel
theorem dX12_copy_126 : decode cX12_copy 126 = .ok (.iastore, 1) := by decide +kernel
theorem dX12_copy_127 : decode cX12_copy 127 = .ok (.iinc 6 1, 3) := by decide +kernel
theorem dX12_copy_130 : decode cX12_copy 130 = .ok (.goto (-26), 3) := by decide +kernel
theorem dX12_copy_133 : decode cX12_copy 133 = .ok (.iconst 0, 1) := by decide +kernel
theorem dX12_copy_134 : decode cX12_copy 134 = .ok (.istore 6, 2) := by decide +kernel
theorem dX12_copy_136 : decode cX12_copy 136 = .ok (.iload 6, 2) := by decide +kernel
theorem dX12_copy_138 : decode cX12_copy 138 = .ok (.iload 5, 2) := by decide +kernel
theorem dX12_copy_140 : decode cX12_copy 140 = .ok (.if_icmp .ge 31, 3) := by decide +kernel
theorem dX12_copy_143 : decode cX12_copy 143 = .ok (.aload_n 0, 1) := by decide +kernel
theorem dX12_copy_144 : decode cX12_copy 144 = .ok (.getfield 16, 3) := by decide +kernel
theorem dX12_copy_147 : decode cX12_copy 147 = .ok (.bipush 60, 2) := by decide +kernel
theorem dX12_copy_149 : decode cX12_copy 149 = .ok (.iload_n 3, 1) := by decide +kernel
theorem dX12_copy_150 : decode cX12_copy 150 = .ok (.imul, 1) := by decide +kernel
theorem dX12_copy_151 : decode cX12_copy 151 = .ok (.iload 4, 2) := by decide +kernel
theorem dX12_copy_153 : decode cX12_copy 153 = .ok (.iadd, 1) := by decide +kernel
theorem dX12_copy_154 : decode cX12_copy 154 = .ok (.iload 6, 2) := by decide +kernel
theorem dX12_copy_156 : decode cX12_copy 156 = .ok (.iadd, 1) := by decide +kernel
theorem dX12_copy_157 : decode cX12_copy 157 = .ok (.aload_n 0, 1) := by decide +kernel
theorem dX12_copy_158 : decode cX12_copy 158 = .ok (.getfield 19, 3) := by decide +kernel
theorem dX12_copy_161 : decode cX12_copy 161 = .ok (.iload 6, 2) := by decide +kernel
theorem dX12_copy_163 : decode cX12_copy 163 = .ok (.iaload, 1) := by decide +kernel
theorem dX12_copy_164 : decode cX12_copy 164 = .ok (.iastore, 1) := by decide +kernel
theorem dX12_copy_165 : decode cX12_copy 165 = .ok (.iinc 6 1, 3) := by decide +kernel
theorem dX12_copy_168 : decode cX12_copy 168 = .ok (.goto (-32), 3) := by decide +kernel
theorem dX12_copy_171 : decode cX12_copy 171 = .ok (.iconst 1, 1) := by decide +kernel
theorem dX12_copy_172 : decode cX12_copy 172 = .ok (.ireturn, 1) := by decide +kernel
theorem dX12_mean_0 : decode cX12_mean 0 = .ok (.iload_n 1, 1) := by decide +kernel
theorem dX12_mean_1 : decode cX12_mean 1 = .ok (.invokestatic 96, 3) := by decide +kernel
theorem dX12_mean_4 : decode cX12_mean 4 = .ok (.ifCond .ne 5, 3) := by decide +kernel
theorem dX12_mean_7 : decode cX12_mean 7 = .ok (.iconst (-1), 1) := by decide +kernel
theorem dX12_mean_8 : decode cX12_mean 8 = .ok (.ireturn, 1) := by decide +kernel
theorem dX12_mean_9 : decode cX12_mean 9 = .ok (.aload_n 0, 1) := by decide +kernel
theorem dX12_mean_10 : decode cX12_mean 10 = .ok (.getfield 13, 3) := by decide +kernel
theorem dX12_mean_13 : decode cX12_mean 13 = .ok (.iload_n 1, 1) := by decide +kernel
theorem dX12_mean_14 : decode cX12_mean 14 = .ok (.iaload, 1) := by decide +kernel
theorem dX12_mean_15 : decode cX12_mean 15 = .ok (.ifCond .ge 9, 3) := by decide +kernel
theorem dX12_mean_18 : decode cX12_mean 18 = .ok (.aload_n 0, 1) := by decide +kernel
theorem dX12_mean_19 : decode cX12_mean 19 = .ok (.iconst 1, 1) := by decide +kernel
theorem dX12_mean_20 : decode cX12_mean 20 = .ok (.invokevirtual 100, 3) := by decide +kernel
theorem dX12_mean_23 : decode cX12_mean 23 = .ok (.ireturn, 1) := by decide +kernel
theorem dX12_mean_24 : decode cX12_mean 24 = .ok (.aload_n 0, 1) := by decide +kernel
theorem dX12_mean_25 : decode cX12_mean 25 = .ok (.getfield 13, 3) := by decide +kernel
theorem dX12_mean_28 : decode cX12_mean 28 = .ok (.iload_n 1, 1) := by decide +kernel
theorem dX12_mean_29 : decode cX12_mean 29 = .ok (.iaload, 1) := by decide +kernel
theorem dX12_mean_30 : decode cX12_mean 30 = .ok (.ifCond .ne 9, 3) := by decide +kernel
theorem dX12_mean_33 : decode cX12_mean 33 = .ok (.aload_n 0, 1) := by decide +kernel
theorem dX12_mean_34 : decode cX12_mean 34 = .ok (.iconst 4, 1) := by decide +kernel
theorem dX12_mean_35 : decode cX12_mean 35 = .ok (.invokevirtual 100, 3) := by decide +kernel
theorem dX12_mean_38 : decode cX12_mean 38 = .ok (.ireturn, 1) := by decide +kernel
theorem dX12_mean_39 : decode cX12_mean 39 = .ok (.lconst 0, 1) := by decide +kernel
theorem dX12_mean_40 : decode cX12_mean 40 = .ok (.lstore_n 2, 1) := by decide +kernel
theorem dX12_mean_41 : decode cX12_mean 41 = .ok (.iconst 0, 1) := by decide +kernel
theorem dX12_mean_42 : decode cX12_mean 42 = .ok (.istore 4, 2) := by decide +kernel
theorem dX12_mean_44 : decode cX12_mean 44 = .ok (.iload 4, 2) := by decide +kernel
theorem dX12_mean_46 : decode cX12_mean 46 = .ok (.aload_n 0, 1) := by decide +kernel
theorem dX12_mean_47 : decode cX12_mean 47 = .ok (.getfield 13, 3) := by decide +kernel
theorem dX12_mean_50 : decode cX12_mean 50 = .ok (.iload_n 1, 1) := by decide +kernel
theorem dX12_mean_51 : decode cX12_mean 51 = .ok (.iaload, 1) := by decide +kernel
theorem dX12_mean_52 : decode cX12_mean 52 = .ok (.if_icmp .ge 20, 3) := by decide +kernel
theorem dX12_mean_55 : decode cX12_mean 55 = .ok (.lload_n 2, 1) := by decide +kernel
theorem dX12_mean_56 : decode cX12_mean 56 = .ok (.aload_n 0, 1) := by decide +kernel
theorem dX12_mean_57 : decode cX12_mean 57 = .ok (.iload_n 1, 1) := by decide +kernel
theorem dX12_mean_58 : decode cX12_mean 58 = .ok (.iload 4, 2) := by decide +kernel
theorem dX12_mean_60 : decode cX12_mean 60 = .ok (.invokevirtual 104, 3) := by decide +kernel
theorem dX12_mean_63 : decode cX12_mean 63 = .ok (.i2l, 1) := by decide +kernel
theorem dX12_mean_64 : decode cX12_mean 64 = .ok (.ladd, 1) := by decide +kernel
theorem dX12_mean_65 : decode cX12_mean 65 = .ok (.lstore_n 2, 1) := by decide +kernel
theorem dX12_mean_66 : decode cX12_mean 66 = .ok (.iinc 4 1, 3) := by decide +kernel
theorem dX12_mean_69 : decode cX12_mean 69 = .ok (.goto (-25), 3) := by decide +kernel
theorem dX12_mean_72 : decode cX12_mean 72 = .ok (.aload_n 0, 1) := by decide +kernel
theorem dX12_mean_73 : decode cX12_mean 73 = .ok (.lload_n 2, 1) := by decide +kernel
theorem dX12_mean_74 : decode cX12_mean 74 = .ok (.aload_n 0, 1) := by decide +kernel
theorem dX12_mean_75 : decode cX12_mean 75 = .ok (.getfield 13, 3) := by decide +kernel
theorem dX12_mean_78 : decode cX12_mean 78 = .ok (.iload_n 1, 1) := by decide +kernel
theorem dX12_mean_79 : decode cX12_mean 79 = .ok (.iaload, 1) := by decide +kernel
theorem dX12_mean_80 : decode cX12_mean 80 = .ok (.i2l, 1) := by decide +kernel
theorem dX12_mean_81 : decode cX12_mean 81 = .ok (.ldiv, 1) := by decide +kernel
theorem dX12_mean_82 : decode cX12_mean 82 = .ok (.l2i, 1) := by decide +kernel
theorem dX12_mean_83 : decode cX12_mean 83 = .ok (.iconst 1, 1) := by decide +kernel
theorem dX12_mean_84 : decode cX12_mean 84 = .ok (.invokevirtual 108, 3) := by decide +kernel
theorem dX12_mean_87 : decode cX12_mean 87 = .ok (.ireturn, 1) := by decide +kernel
theorem dX12_isText_0 : decode cX12_isText 0 = .ok (.iload_n 0, 1) := by decide +kernel
theorem dX12_isText_1 : decode cX12_isText 1 = .ok (.iconst 0, 1) := by decide +kernel
theorem dX12_isText_2 : decode cX12_isText 2 = .ok (.iconst 3, 1) := by decide +kernel
theorem dX12_isText_3 : decode cX12_isText 3 = .ok (.invokestatic 86, 3) := by decide +kernel
theorem dX12_isText_6 : decode cX12_isText 6 = .ok (.ireturn, 1) := by decide +kernel
theorem dX12_text_0 : decode cX12_text 0 = .ok (.iload_n 1, 1) := by decide +kernel
theorem dX12_text_1 : decode cX12_text 1 = .ok (.invokestatic 111, 3) := by decide +kernel
theorem dX12_text_4 : decode cX12_text 4 = .ok (.ifCond .eq 9, 3) := by decide +kernel
theorem dX12_text_7 : decode cX12_text 7 = .ok (.iload_n 2, 1) := by decide +kernel
theorem dX12_text_8 : decode cX12_text 8 = .ok (.bipush 100, 2) := by decide +kernel
theorem dX12_text_10 : decode cX12_text 10 = .ok (.if_icmp .le 5, 3) := by decide +kernel
theorem dX12_text_13 : decode cX12_text 13 = .ok (.iconst (-1), 1) := by decide +kernel
theorem dX12_text_14 : decode cX12_text 14 = .ok (.ireturn, 1) := by decide +kernel
theorem dX12_text_15 : decode cX12_text 15 = .ok (.iload_n 2, 1) := by decide +kernel
theorem dX12_text_16 : decode cX12_text 16 = .ok (.ifCond .ge 9, 3) := by decide +kernel
theorem dX12_text_19 : decode cX12_text 19 = .ok (.aload_n 0, 1) := by decide +kernel
theorem dX12_text_20 : decode cX12_text 20 = .ok (.iconst 5, 1) := by decide +kernel
theorem dX12_text_21 : decode cX12_text 21 = .ok (.invokevirtual 100, 3) := by decide +kernel
theorem dX12_text_24 : decode cX12_text 24 = .ok (.ireturn, 1) := by decide +kernel
theorem dX12_text_25 : decode cX12_text 25 = .ok (.aload_n 0, 1) := by decide +kernel
theorem dX12_text_26 : decode cX12_text 26 = .ok (.getfield 22, 3) := by decide +kernel
theorem dX12_text_29 : decode cX12_text 29 = .ok (.iload_n 1, 1) := by decide +kernel
theorem dX12_text_30 : decode cX12_text 30 = .ok (.iload_n 2, 1) := by decide +kernel
theorem dX12_text_31 : decode cX12_text 31 = .ok (.iastore, 1) := by decide +kernel
theorem dX12_text_32 : decode cX12_text 32 = .ok (.iconst 0, 1) := by decide +kernel
theorem dX12_text_33 : decode cX12_text 33 = .ok (.istore_n 3, 1) := by decide +kernel
theorem dX12_text_34 : decode cX12_text 34 = .ok (.iload_n 3, 1) := by decide +kernel
theorem dX12_text_35 : decode cX12_text 35 = .ok (.bipush 100, 2) := by decide +kernel
theorem dX12_text_37 : decode cX12_text 37 = .ok (.if_icmp .ge 22, 3) := by decide +kernel
theorem dX12_text_40 : decode cX12_text 40 = .ok (.aload_n 0, 1) := by decide +kernel
theorem dX12_text_41 : decode cX12_text 41 = .ok (.getfield 25, 3) := by decide +kernel
theorem dX12_text_44 : decode cX12_text 44 = .ok (.bipush 100, 2) := by decide +kernel
theorem dX12_text_46 : decode cX12_text 46 = .ok (.iload_n 1, 1) := by decide +kernel
theorem dX12_text_47 : decode cX12_text 47 = .ok (.imul, 1) := by decide +kernel
theorem dX12_text_48 : decode cX12_text 48 = .ok (.iload_n 3, 1) := by decide +kernel
theorem dX12_text_49 : decode cX12_text 49 = .ok (.iadd, 1) := by decide +kernel
theorem dX12_text_50 : decode cX12_text 50 = .ok (.bipush 32, 2) := by decide +kernel
theorem dX12_text_52 : decode cX12_text 52 = .ok (.bastore, 1) := by decide +kernel
theorem dX12_text_53 : decode cX12_text 53 = .ok (.iinc 3 1, 3) := by decide +kernel
theorem dX12_text_56 : decode cX12_text 56 = .ok (.goto (-22), 3) := by decide +kernel
theorem dX12_text_59 : decode cX12_text 59 = .ok (.iload_n 2, 1) := by decide +kernel
theorem dX12_text_60 : decode cX12_text 60 = .ok (.ireturn, 1) := by decide +kernel
theorem dX12_put_0 : decode cX12_put 0 = .ok (.iload_n 1, 1) := by decide +kernel
theorem dX12_put_1 : decode cX12_put 1 = .ok (.invokestatic 111, 3) := by decide +kernel
theorem dX12_put_4 : decode cX12_put 4 = .ok (.ifCond .ne 5, 3) := by decide +kernel
theorem dX12_put_7 : decode cX12_put 7 = .ok (.iconst (-1), 1) := by decide +kernel
theorem dX12_put_8 : decode cX12_put 8 = .ok (.ireturn, 1) := by decide +kernel
theorem dX12_put_9 : decode cX12_put 9 = .ok (.aload_n 0, 1) := by decide +kernel
theorem dX12_put_10 : decode cX12_put 10 = .ok (.getfield 22, 3) := by decide +kernel
theorem dX12_put_13 : decode cX12_put 13 = .ok (.iload_n 1, 1) := by decide +kernel
theorem dX12_put_14 : decode cX12_put 14 = .ok (.iaload, 1) := by decide +kernel
theorem dX12_put_15 : decode cX12_put 15 = .ok (.ifCond .ge 9, 3) := by decide +kernel
theorem dX12_put_18 : decode cX12_put 18 = .ok (.aload_n 0, 1) := by decide +kernel
theorem dX12_put_19 : decode cX12_put 19 = .ok (.iconst 1, 1) := by decide +kernel
theorem dX12_put_20 : decode cX12_put 20 = .ok (.invokevirtual 100, 3) := by decide +kernel
theorem dX12_put_23 : decode cX12_put 23 = .ok (.ireturn, 1) := by decide +kernel
theorem dX12_put_24 : decode cX12_put 24 = .ok (.iload_n 2, 1) := by decide +kernel
theorem dX12_put_25 : decode cX12_put 25 = .ok (.iconst 0, 1) := by decide +kernel
theorem dX12_put_26 : decode cX12_put 26 = .ok (.aload_n 0, 1) := by decide +kernel
theorem dX12_put_27 : decode cX12_put 27 = .ok (.getfield 22, 3) := by decide +kernel
theorem dX12_put_30 : decode cX12_put 30 = .ok (.iload_n 1, 1) := by decide +kernel
theorem dX12_put_31 : decode cX12_put 31 = .ok (.iaload, 1) := by decide +kernel
theorem dX12_put_32 : decode cX12_put 32 = .ok (.iconst 1, 1) := by decide +kernel
theorem dX12_put_33 : decode cX12_put 33 = .ok (.isub, 1) := by decide +kernel
theorem dX12_put_34 : decode cX12_put 34 = .ok (.invokestatic 86, 3) := by decide +kernel
theorem dX12_put_37 : decode cX12_put 37 = .ok (.ifCond .ne 9, 3) := by decide +kernel
theorem dX12_put_40 : decode cX12_put 40 = .ok (.aload_n 0, 1) := by decide +kernel
theorem dX12_put_41 : decode cX12_put 41 = .ok (.iconst 2, 1) := by decide +kernel
theorem dX12_put_42 : decode cX12_put 42 = .ok (.invokevirtual 100, 3) := by decide +kernel
theorem dX12_put_45 : decode cX12_put 45 = .ok (.ireturn, 1) := by decide +kernel
theorem dX12_put_46 : decode cX12_put 46 = .ok (.aload_n 0, 1) := by decide +kernel
theorem dX12_put_47 : decode cX12_put 47 = .ok (.getfield 25, 3) := by decide +kernel
theorem dX12_put_50 : decode cX12_put 50 = .ok (.bipush 100, 2) := by decide +kernel
theorem dX12_put_52 : decode cX12_put 52 = .ok (.iload_n 1, 1) := by decide +kernel
theorem dX12_put_53 : decode cX12_put 53 = .ok (.imul, 1) := by decide +kernel
theorem dX12_put_54 : decode cX12_put 54 = .ok (.iload_n 2, 1) := by decide +kernel
theorem dX12_put_55 : decode cX12_put 55 = .ok (.iadd, 1) := by decide +kernel
theorem dX12_put_56 : decode cX12_put 56 = .ok (.baload, 1) := by decide +kernel
theorem dX12_put_57 : decode cX12_put 57 = .ok (.istore 4, 2) := by decide +kernel
theorem dX12_put_59 : decode cX12_put 59 = .ok (.aload_n 0, 1) := by decide +kernel
theorem dX12_put_60 : decode cX12_put 60 = .ok (.getfield 25, 3) := by decide +kernel
theorem dX12_put_63 : decode cX12_put 63 = .ok (.bipush 100, 2) := by decide +kernel
theorem dX12_put_65 : decode cX12_put 65 = .ok (.iload_n 1, 1) := by decide +kernel
theorem dX12_put_66 : decode cX12_put 66 = .ok (.imul, 1) := by decide +kernel
theorem dX12_put_67 : decode cX12_put 67 = .ok (.iload_n 2, 1) := by decide +kernel
theorem dX12_put_68 : decode cX12_put 68 = .ok (.iadd, 1) := by decide +kernel
theorem dX12_put_69 : decode cX12_put 69 = .ok (.iload_n 3, 1) := by decide +kernel
theorem dX12_put_70 : decode cX12_put 70 = .ok (.i2b, 1) := by decide +kernel
theorem dX12_put_71 : decode cX12_put 71 = .ok (.bastore, 1) := by decide +kernel
theorem dX12_put_72 : decode cX12_put 72 = .ok (.sipush 1000, 3) := by decide +kernel
theorem dX12_put_75 : decode cX12_put 75 = .ok (.iload 4, 2) := by decide +kernel
theorem dX12_put_77 : decode cX12_put 77 = .ok (.iadd, 1) := by decide +kernel
theorem dX12_put_78 : decode cX12_put 78 = .ok (.ireturn, 1) := by decide +kernel
theorem dX12_byteAt_0 : decode cX12_byteAt 0 = .ok (.iload_n 2, 1) := by decide +kernel
theorem dX12_byteAt_1 : decode cX12_byteAt 1 = .ok (.aload_n 0, 1) := by decide +kernel
theorem dX12_byteAt_2 : decode cX12_byteAt 2 = .ok (.getfield 22, 3) := by decide +kernel
theorem dX12_byteAt_5 : decode cX12_byteAt 5 = .ok (.iload_n 1, 1) := by decide +kernel
theorem dX12_byteAt_6 : decode cX12_byteAt 6 = .ok (.iaload, 1) := by decide +kernel
theorem dX12_byteAt_7 : decode cX12_byteAt 7 = .ok (.if_icmp .ge 17, 3) := by decide +kernel
theorem dX12_byteAt_10 : decode cX12_byteAt 10 = .ok (.aload_n 0, 1) := by decide +kernel
theorem dX12_byteAt_11 : decode cX12_byteAt 11 = .ok (.getfield 25, 3) := by decide +kernel
theorem dX12_byteAt_14 : decode cX12_byteAt 14 = .ok (.bipush 100, 2) := by decide +kernel
theorem dX12_byteAt_16 : decode cX12_byteAt 16 = .ok (.iload_n 1, 1) := by decide +kernel
theorem dX12_byteAt_17 : decode cX12_byteAt 17 = .ok (.imul, 1) := by decide +kernel
theorem dX12_byteAt_18 : decode cX12_byteAt 18 = .ok (.iload_n 2, 1) := by decide +kernel
theorem dX12_byteAt_19 : decode cX12_byteAt 19 = .ok (.iadd, 1) := by decide +kernel
theorem dX12_byteAt_20 : decode cX12_byteAt 20 = .ok (.baload, 1) := by decide +kernel
theorem dX12_byteAt_21 : decode cX12_byteAt 21 = .ok (.goto 4, 3) := by decide +kernel
theorem dX12_byteAt_24 : decode cX12_byteAt 24 = .ok (.iconst 0, 1) := by decide +kernel
theorem dX12_byteAt_25 : decode cX12_byteAt 25 = .ok (.ireturn, 1) := by decide +kernel
theorem dX12_sign_0 : decode cX12_sign 0 = .ok (.aload_n 0, 1) := by decide +kernel
theorem dX12_sign_1 : decode cX12_sign 1 = .ok (.iload_n 1, 1) := by decide +kernel
theorem dX12_sign_2 : decode cX12_sign 2 = .ok (.aload_n 0, 1) := by decide +kernel
theorem dX12_sign_3 : decode cX12_sign 3 = .ok (.getfield 114, 3) := by decide +kernel
theorem dX12_sign_6 : decode cX12_sign 6 = .ok (.invokevirtual 117, 3) := by decide +kernel
theorem dX12_sign_9 : decode cX12_sign 9 = .ok (.iload_n 2, 1) := by decide +kernel
theorem dX12_sign_10 : decode cX12_sign 10 = .ok (.if_icmp .ne 7, 3) := by decide +kernel
theorem dX12_sign_13 : decode cX12_sign 13 = .ok (.iconst 1, 1) := by decide +kernel
theorem dX12_sign_14 : decode cX12_sign 14 = .ok (.goto 4, 3) := by decide +kernel
theorem dX12_sign_17 : decode cX12_sign 17 = .ok (.iconst 0, 1) := by decide +kernel
theorem dX12_sign_18 : decode cX12_sign 18 = .ok (.istore_n 3, 1) := by decide +kernel
theorem dX12_sign_19 : decode cX12_sign 19 = .ok (.aload_n 0, 1) := by decide +kernel
theorem dX12_sign_20 : decode cX12_sign 20 = .ok (.dup, 1) := by decide +kernel
theorem dX12_sign_21 : decode cX12_sign 21 = .ok (.getfield 114, 3) := by decide +kernel
theorem dX12_sign_24 : decode cX12_sign 24 = .ok (.iload_n 3, 1) := by decide +kernel
theorem dX12_sign_25 : decode cX12_sign 25 = .ok (.ifCond .eq 7, 3) := by decide +kernel
theorem dX12_sign_28 : decode cX12_sign 28 = .ok (.iconst 1, 1) := by decide +kernel
theorem dX12_sign_29 : decode cX12_sign 29 = .ok (.goto 4, 3) := by decide +kernel
theorem dX12_sign_32 : decode cX12_sign 32 = .ok (.iconst 0, 1) := by decide +kernel
theorem dX12_sign_33 : decode cX12_sign 33 = .ok (.iadd, 1) := by decide +kernel
theorem dX12_sign_34 : decode cX12_sign 34 = .ok (.putfield 114, 3) := by decide +kernel
theorem dX12_sign_37 : decode cX12_sign 37 = .ok (.iload_n 3, 1) := by decide +kernel
theorem dX12_sign_38 : decode cX12_sign 38 = .ok (.ireturn, 1) := by decide +kernel
theorem dX12_number_0 : decode cX12_number 0 = .ok (.iconst 0, 1) := by decide +kernel
theorem dX12_number_1 : decode cX12_number 1 = .ok (.istore 4, 2) := by decide +kernel
theorem dX12_number_3 : decode cX12_number 3 = .ok (.iconst 0, 1) := by decide +kernel
theorem dX12_number_4 : decode cX12_number 4 = .ok (.istore 5, 2) := by decide +kernel
theorem dX12_number_6 : decode cX12_number 6 = .ok (.iload 4, 2) := by decide +kernel
theorem dX12_number_8 : decode cX12_number 8 = .ok (.iconst 2, 1) := by decide +kernel
theorem dX12_number_9 : decode cX12_number 9 = .ok (.if_icmp .ge 58, 3) := by decide +kernel
theorem dX12_number_12 : decode cX12_number 12 = .ok (.aload_n 0, 1) := by decide +kernel
theorem dX12_number_13 : decode cX12_number 13 = .ok (.iload_n 1, 1) := by decide +kernel
theorem dX12_number_14 : decode cX12_number 14 = .ok (.aload_n 0, 1) := by decide +kernel
theorem dX12_number_15 : decode cX12_number 15 = .ok (.getfield 114, 3) := by decide +kernel
theorem dX12_number_18 : decode cX12_number 18 = .ok (.invokevirtual 117, 3) := by decide +kernel
theorem dX12_number_21 : decode cX12_number 21 = .ok (.bipush 48, 2) := by decide +kernel
theorem dX12_number_23 : decode cX12_number 23 = .ok (.bipush 57, 2) := by decide +kernel
theorem dX12_number_25 : decode cX12_number 25 = .ok (.invokestatic 86, 3) := by decide +kernel
theorem dX12_number_28 : decode cX12_number 28 = .ok (.ifCond .eq 39, 3) := by decide +kernel
theorem dX12_number_31 : decode cX12_number 31 = .ok (.bipush 10, 2) := by decide +kernel
theorem dX12_number_33 : decode cX12_number 33 = .ok (.iload 5, 2) := by decide +kernel
theorem dX12_number_35 : decode cX12_number 35 = .ok (.imul, 1) := by decide +kernel
theorem dX12_number_36 : decode cX12_number 36 = .ok (.aload_n 0, 1) := by decide +kernel
theorem dX12_number_37 : decode cX12_number 37 = .ok (.iload_n 1, 1) := by decide +kernel
theorem dX12_number_38 : decode cX12_number 38 = .ok (.aload_n 0, 1) := by decide +kernel
theorem dX12_number_39 : decode cX12_number 39 = .ok (.getfield 114, 3) := by decide +kernel
theorem dX12_number_42 : decode cX12_number 42 = .ok (.invokevirtual 117, 3) := by decide +kernel
theorem dX12_number_45 : decode cX12_number 45 = .ok (.iadd, 1) := by decide +kernel
theorem dX12_number_46 : decode cX12_number 46 = .ok (.bipush 48, 2) := by decide +kernel
