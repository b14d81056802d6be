theorem dX8_kernel_41 : decode cX8_kernel 41 = .ok (.iload 5, 2) := by decide +kernel
theorem dX8_kernel_43 : decode cX8_kernel 43 = .ok (.iadd, 1) := by decide +kernel
theorem dX8_kernel_44 : decode cX8_kernel 44 = .ok (.iaload, 1) := by decide +kernel
theorem dX8_kernel_45 : decode cX8_kernel 45 = .ok (.goto 4, 3) := by decide +kernel
theorem dX8_kernel_48 : decode cX8_kernel 48 = .ok (.iload_n 3, 1) := by decide +kernel
theorem dX8_kernel_49 : decode cX8_kernel 49 = .ok (.istore_n 3, 1) := by decide +kernel
theorem dX8_kernel_50 : decode cX8_kernel 50 = .ok (.aload_n 0, 1) := by decide +kernel
theorem dX8_kernel_51 : decode cX8_kernel 51 = .ok (.iload_n 1, 1) := by decide +kernel
theorem dX8_kernel_52 : decode cX8_kernel 52 = .ok (.iload 5, 2) := by decide +kernel
theorem dX8_kernel_54 : decode cX8_kernel 54 = .ok (.iadd, 1) := by decide +kernel
theorem dX8_kernel_55 : decode cX8_kernel 55 = .ok (.iaload, 1) := by decide +kernel
theorem dX8_kernel_56 : decode cX8_kernel 56 = .ok (.iload 4, 2) := by decide +kernel
theorem dX8_kernel_58 : decode cX8_kernel 58 = .ok (.if_icmp .ge 12, 3) := by decide +kernel
theorem dX8_kernel_61 : decode cX8_kernel 61 = .ok (.aload_n 0, 1) := by decide +kernel
theorem dX8_kernel_62 : decode cX8_kernel 62 = .ok (.iload_n 1, 1) := by decide +kernel
theorem dX8_kernel_63 : decode cX8_kernel 63 = .ok (.iload 5, 2) := by decide +kernel
theorem dX8_kernel_65 : decode cX8_kernel 65 = .ok (.iadd, 1) := by decide +kernel
theorem dX8_kernel_66 : decode cX8_kernel 66 = .ok (.iaload, 1) := by decide +kernel
theorem dX8_kernel_67 : decode cX8_kernel 67 = .ok (.goto 5, 3) := by decide +kernel
theorem dX8_kernel_70 : decode cX8_kernel 70 = .ok (.iload 4, 2) := by decide +kernel
theorem dX8_kernel_72 : decode cX8_kernel 72 = .ok (.istore 4, 2) := by decide +kernel
theorem dX8_kernel_74 : decode cX8_kernel 74 = .ok (.iinc 5 1, 3) := by decide +kernel
theorem dX8_kernel_77 : decode cX8_kernel 77 = .ok (.goto (-63), 3) := by decide +kernel
theorem dX8_kernel_80 : decode cX8_kernel 80 = .ok (.iload_n 2, 1) := by decide +kernel
theorem dX8_kernel_81 : decode cX8_kernel 81 = .ok (.iload_n 3, 1) := by decide +kernel
theorem dX8_kernel_82 : decode cX8_kernel 82 = .ok (.isub, 1) := by decide +kernel
theorem dX8_kernel_83 : decode cX8_kernel 83 = .ok (.iload 4, 2) := by decide +kernel
theorem dX8_kernel_85 : decode cX8_kernel 85 = .ok (.isub, 1) := by decide +kernel
theorem dX8_kernel_86 : decode cX8_kernel 86 = .ok (.ireturn, 1) := by decide +kernel
theorem dX8_ofComponent_0 : decode cX8_ofComponent 0 = .ok (.bipush 50, 2) := by decide +kernel
theorem dX8_ofComponent_2 : decode cX8_ofComponent 2 = .ok (.aload_n 0, 1) := by decide +kernel
theorem dX8_ofComponent_3 : decode cX8_ofComponent 3 = .ok (.iload_n 1, 1) := by decide +kernel
theorem dX8_ofComponent_4 : decode cX8_ofComponent 4 = .ok (.invokestatic 72, 3) := by decide +kernel
theorem dX8_ofComponent_7 : decode cX8_ofComponent 7 = .ok (.iconst 2, 1) := by decide +kernel
theorem dX8_ofComponent_8 : decode cX8_ofComponent 8 = .ok (.iadd, 1) := by decide +kernel
theorem dX8_ofComponent_9 : decode cX8_ofComponent 9 = .ok (.iconst 5, 1) := by decide +kernel
theorem dX8_ofComponent_10 : decode cX8_ofComponent 10 = .ok (.iload_n 2, 1) := by decide +kernel
theorem dX8_ofComponent_11 : decode cX8_ofComponent 11 = .ok (.imul, 1) := by decide +kernel
theorem dX8_ofComponent_12 : decode cX8_ofComponent 12 = .ok (.iadd, 1) := by decide +kernel
theorem dX8_ofComponent_13 : decode cX8_ofComponent 13 = .ok (.invokestatic 113, 3) := by decide +kernel
theorem dX8_ofComponent_16 : decode cX8_ofComponent 16 = .ok (.imul, 1) := by decide +kernel
theorem dX8_ofComponent_17 : decode cX8_ofComponent 17 = .ok (.iconst 3, 1) := by decide +kernel
theorem dX8_ofComponent_18 : decode cX8_ofComponent 18 = .ok (.iadd, 1) := by decide +kernel
theorem dX8_ofComponent_19 : decode cX8_ofComponent 19 = .ok (.bipush 6, 2) := by decide +kernel
theorem dX8_ofComponent_21 : decode cX8_ofComponent 21 = .ok (.idiv, 1) := by decide +kernel
theorem dX8_ofComponent_22 : decode cX8_ofComponent 22 = .ok (.ireturn, 1) := by decide +kernel
theorem dX8_weigh_0 : decode cX8_weigh 0 = .ok (.iload_n 2, 1) := by decide +kernel
theorem dX8_weigh_1 : decode cX8_weigh 1 = .ok (.iload_n 3, 1) := by decide +kernel
theorem dX8_weigh_2 : decode cX8_weigh 2 = .ok (.invokestatic 60, 3) := by decide +kernel
theorem dX8_weigh_5 : decode cX8_weigh 5 = .ok (.istore 4, 2) := by decide +kernel
theorem dX8_weigh_7 : decode cX8_weigh 7 = .ok (.iconst 0, 1) := by decide +kernel
theorem dX8_weigh_8 : decode cX8_weigh 8 = .ok (.istore 5, 2) := by decide +kernel
theorem dX8_weigh_10 : decode cX8_weigh 10 = .ok (.iconst 0, 1) := by decide +kernel
theorem dX8_weigh_11 : decode cX8_weigh 11 = .ok (.istore 6, 2) := by decide +kernel
theorem dX8_weigh_13 : decode cX8_weigh 13 = .ok (.iconst 0, 1) := by decide +kernel
theorem dX8_weigh_14 : decode cX8_weigh 14 = .ok (.istore 7, 2) := by decide +kernel
theorem dX8_weigh_16 : decode cX8_weigh 16 = .ok (.iload 7, 2) := by decide +kernel
theorem dX8_weigh_18 : decode cX8_weigh 18 = .ok (.aload_n 1, 1) := by decide +kernel
theorem dX8_weigh_19 : decode cX8_weigh 19 = .ok (.iload 4, 2) := by decide +kernel
theorem dX8_weigh_21 : decode cX8_weigh 21 = .ok (.iconst 1, 1) := by decide +kernel
theorem dX8_weigh_22 : decode cX8_weigh 22 = .ok (.iadd, 1) := by decide +kernel
theorem dX8_weigh_23 : decode cX8_weigh 23 = .ok (.iaload, 1) := by decide +kernel
theorem dX8_weigh_24 : decode cX8_weigh 24 = .ok (.if_icmp .ge 174, 3) := by decide +kernel
theorem dX8_weigh_27 : decode cX8_weigh 27 = .ok (.iload_n 2, 1) := by decide +kernel
theorem dX8_weigh_28 : decode cX8_weigh 28 = .ok (.iload_n 3, 1) := by decide +kernel
theorem dX8_weigh_29 : decode cX8_weigh 29 = .ok (.iload 7, 2) := by decide +kernel
theorem dX8_weigh_31 : decode cX8_weigh 31 = .ok (.invokestatic 102, 3) := by decide +kernel
theorem dX8_weigh_34 : decode cX8_weigh 34 = .ok (.istore 8, 2) := by decide +kernel
theorem dX8_weigh_36 : decode cX8_weigh 36 = .ok (.aload_n 1, 1) := by decide +kernel
theorem dX8_weigh_37 : decode cX8_weigh 37 = .ok (.iload 4, 2) := by decide +kernel
theorem dX8_weigh_39 : decode cX8_weigh 39 = .ok (.iconst 0, 1) := by decide +kernel
theorem dX8_weigh_40 : decode cX8_weigh 40 = .ok (.iadd, 1) := by decide +kernel
theorem dX8_weigh_41 : decode cX8_weigh 41 = .ok (.iaload, 1) := by decide +kernel
theorem dX8_weigh_42 : decode cX8_weigh 42 = .ok (.ifCond .ne 25, 3) := by decide +kernel
theorem dX8_weigh_45 : decode cX8_weigh 45 = .ok (.aload_n 1, 1) := by decide +kernel
theorem dX8_weigh_46 : decode cX8_weigh 46 = .ok (.iload 8, 2) := by decide +kernel
theorem dX8_weigh_48 : decode cX8_weigh 48 = .ok (.iaload, 1) := by decide +kernel
theorem dX8_weigh_49 : decode cX8_weigh 49 = .ok (.aload_n 1, 1) := by decide +kernel
theorem dX8_weigh_50 : decode cX8_weigh 50 = .ok (.iload 8, 2) := by decide +kernel
theorem dX8_weigh_52 : decode cX8_weigh 52 = .ok (.iconst 1, 1) := by decide +kernel
theorem dX8_weigh_53 : decode cX8_weigh 53 = .ok (.iadd, 1) := by decide +kernel
theorem dX8_weigh_54 : decode cX8_weigh 54 = .ok (.iaload, 1) := by decide +kernel
theorem dX8_weigh_55 : decode cX8_weigh 55 = .ok (.aload_n 1, 1) := by decide +kernel
theorem dX8_weigh_56 : decode cX8_weigh 56 = .ok (.iload 8, 2) := by decide +kernel
theorem dX8_weigh_58 : decode cX8_weigh 58 = .ok (.iconst 2, 1) := by decide +kernel
theorem dX8_weigh_59 : decode cX8_weigh 59 = .ok (.iadd, 1) := by decide +kernel
theorem dX8_weigh_60 : decode cX8_weigh 60 = .ok (.iaload, 1) := by decide +kernel
theorem dX8_weigh_61 : decode cX8_weigh 61 = .ok (.invokestatic 117, 3) := by decide +kernel
theorem dX8_weigh_64 : decode cX8_weigh 64 = .ok (.goto 18, 3) := by decide +kernel
theorem dX8_weigh_67 : decode cX8_weigh 67 = .ok (.aload_n 1, 1) := by decide +kernel
theorem dX8_weigh_68 : decode cX8_weigh 68 = .ok (.iload 4, 2) := by decide +kernel
theorem dX8_weigh_70 : decode cX8_weigh 70 = .ok (.iconst 0, 1) := by decide +kernel
theorem dX8_weigh_71 : decode cX8_weigh 71 = .ok (.iadd, 1) := by decide +kernel
theorem dX8_weigh_72 : decode cX8_weigh 72 = .ok (.iaload, 1) := by decide +kernel
theorem dX8_weigh_73 : decode cX8_weigh 73 = .ok (.aload_n 1, 1) := by decide +kernel
theorem dX8_weigh_74 : decode cX8_weigh 74 = .ok (.iload 8, 2) := by decide +kernel
theorem dX8_weigh_76 : decode cX8_weigh 76 = .ok (.iconst 1, 1) := by decide +kernel
theorem dX8_weigh_77 : decode cX8_weigh 77 = .ok (.iadd, 1) := by decide +kernel
theorem dX8_weigh_78 : decode cX8_weigh 78 = .ok (.iaload, 1) := by decide +kernel
theorem dX8_weigh_79 : decode cX8_weigh 79 = .ok (.invokestatic 120, 3) := by decide +kernel
theorem dX8_weigh_82 : decode cX8_weigh 82 = .ok (.istore 9, 2) := by decide +kernel
theorem dX8_weigh_84 : decode cX8_weigh 84 = .ok (.aload_n 1, 1) := by decide +kernel
theorem dX8_weigh_85 : decode cX8_weigh 85 = .ok (.iload_n 2, 1) := by decide +kernel
theorem dX8_weigh_86 : decode cX8_weigh 86 = .ok (.iload_n 3, 1) := by decide +kernel
theorem dX8_weigh_87 : decode cX8_weigh 87 = .ok (.iload 7, 2) := by decide +kernel
theorem dX8_weigh_89 : decode cX8_weigh 89 = .ok (.invokestatic 106, 3) := by decide +kernel
theorem dX8_weigh_92 : decode cX8_weigh 92 = .ok (.istore 10, 2) := by decide +kernel
theorem dX8_weigh_94 : decode cX8_weigh 94 = .ok (.iload 10, 2) := by decide +kernel
theorem dX8_weigh_96 : decode cX8_weigh 96 = .ok (.ifCond .ne 14, 3) := by decide +kernel
theorem dX8_weigh_99 : decode cX8_weigh 99 = .ok (.aload_n 1, 1) := by decide +kernel
theorem dX8_weigh_100 : decode cX8_weigh 100 = .ok (.iload_n 2, 1) := by decide +kernel
theorem dX8_weigh_101 : decode cX8_weigh 101 = .ok (.iload_n 3, 1) := by decide +kernel
theorem dX8_weigh_102 : decode cX8_weigh 102 = .ok (.iload 7, 2) := by decide +kernel
theorem dX8_weigh_104 : decode cX8_weigh 104 = .ok (.invokestatic 123, 3) := by decide +kernel
theorem dX8_weigh_107 : decode cX8_weigh 107 = .ok (.goto 5, 3) := by decide +kernel
theorem dX8_weigh_110 : decode cX8_weigh 110 = .ok (.iload 10, 2) := by decide +kernel
theorem dX8_weigh_112 : decode cX8_weigh 112 = .ok (.istore 10, 2) := by decide +kernel
theorem dX8_weigh_114 : decode cX8_weigh 114 = .ok (.iload 10, 2) := by decide +kernel
theorem dX8_weigh_116 : decode cX8_weigh 116 = .ok (.ifCond .ne 8, 3) := by decide +kernel
theorem dX8_weigh_119 : decode cX8_weigh 119 = .ok (.iload 9, 2) := by decide +kernel
theorem dX8_weigh_121 : decode cX8_weigh 121 = .ok (.goto 20, 3) := by decide +kernel
theorem dX8_weigh_124 : decode cX8_weigh 124 = .ok (.iload 10, 2) := by decide +kernel
theorem dX8_weigh_126 : decode cX8_weigh 126 = .ok (.iconst 1, 1) := by decide +kernel
theorem dX8_weigh_127 : decode cX8_weigh 127 = .ok (.if_icmp .ne 13, 3) := by decide +kernel
theorem dX8_weigh_130 : decode cX8_weigh 130 = .ok (.iload 9, 2) := by decide +kernel
theorem dX8_weigh_132 : decode cX8_weigh 132 = .ok (.bipush 70, 2) := by decide +kernel
theorem dX8_weigh_134 : decode cX8_weigh 134 = .ok (.invokestatic 83, 3) := by decide +kernel
theorem dX8_weigh_137 : decode cX8_weigh 137 = .ok (.goto 4, 3) := by decide +kernel
theorem dX8_weigh_140 : decode cX8_weigh 140 = .ok (.iconst 0, 1) := by decide +kernel
theorem dX8_weigh_141 : decode cX8_weigh 141 = .ok (.istore 9, 2) := by decide +kernel
theorem dX8_weigh_143 : decode cX8_weigh 143 = .ok (.aload_n 0, 1) := by decide +kernel
theorem dX8_weigh_144 : decode cX8_weigh 144 = .ok (.getfield 32, 3) := by decide +kernel
theorem dX8_weigh_147 : decode cX8_weigh 147 = .ok (.iconst 3, 1) := by decide +kernel
theorem dX8_weigh_148 : decode cX8_weigh 148 = .ok (.iload_n 3, 1) := by decide +kernel
theorem dX8_weigh_149 : decode cX8_weigh 149 = .ok (.imul, 1) := by decide +kernel
theorem dX8_weigh_150 : decode cX8_weigh 150 = .ok (.iload 7, 2) := by decide +kernel
theorem dX8_weigh_152 : decode cX8_weigh 152 = .ok (.iadd, 1) := by decide +kernel
theorem dX8_weigh_153 : decode cX8_weigh 153 = .ok (.iload 9, 2) := by decide +kernel
theorem dX8_weigh_155 : decode cX8_weigh 155 = .ok (.iastore, 1) := by decide +kernel
theorem dX8_weigh_156 : decode cX8_weigh 156 = .ok (.aload_n 0, 1) := by decide +kernel
theorem dX8_weigh_157 : decode cX8_weigh 157 = .ok (.getfield 35, 3) := by decide +kernel
theorem dX8_weigh_160 : decode cX8_weigh 160 = .ok (.iconst 3, 1) := by decide +kernel
theorem dX8_weigh_161 : decode cX8_weigh 161 = .ok (.iload_n 3, 1) := by decide +kernel
theorem dX8_weigh_162 : decode cX8_weigh 162 = .ok (.imul, 1) := by decide +kernel
theorem dX8_weigh_163 : decode cX8_weigh 163 = .ok (.iload 7, 2) := by decide +kernel
theorem dX8_weigh_165 : decode cX8_weigh 165 = .ok (.iadd, 1) := by decide +kernel
theorem dX8_weigh_166 : decode cX8_weigh 166 = .ok (.iload 10, 2) := by decide +kernel
theorem dX8_weigh_168 : decode cX8_weigh 168 = .ok (.iastore, 1) := by decide +kernel
theorem dX8_weigh_169 : decode cX8_weigh 169 = .ok (.iload 5, 2) := by decide +kernel
theorem dX8_weigh_171 : decode cX8_weigh 171 = .ok (.iload 9, 2) := by decide +kernel
theorem dX8_weigh_173 : decode cX8_weigh 173 = .ok (.iadd, 1) := by decide +kernel
theorem dX8_weigh_174 : decode cX8_weigh 174 = .ok (.istore 5, 2) := by decide +kernel
theorem dX8_weigh_176 : decode cX8_weigh 176 = .ok (.iload 9, 2) := by decide +kernel
theorem dX8_weigh_178 : decode cX8_weigh 178 = .ok (.iload 6, 2) := by decide +kernel
theorem dX8_weigh_180 : decode cX8_weigh 180 = .ok (.if_icmp .le 8, 3) := by decide +kernel
theorem dX8_weigh_183 : decode cX8_weigh 183 = .ok (.iload 9, 2) := by decide +kernel
theorem dX8_weigh_185 : decode cX8_weigh 185 = .ok (.goto 5, 3) := by decide +kernel
theorem dX8_weigh_188 : decode cX8_weigh 188 = .ok (.iload 6, 2) := by decide +kernel
theorem dX8_weigh_190 : decode cX8_weigh 190 = .ok (.istore 6, 2) := by decide +kernel
theorem dX8_weigh_192 : decode cX8_weigh 192 = .ok (.iinc 7 1, 3) := by decide +kernel
theorem dX8_weigh_195 : decode cX8_weigh 195 = .ok (.goto (-179), 3) := by decide +kernel
theorem dX8_weigh_198 : decode cX8_weigh 198 = .ok (.aload_n 1, 1) := by decide +kernel
theorem dX8_weigh_199 : decode cX8_weigh 199 = .ok (.iload 4, 2) := by decide +kernel
theorem dX8_weigh_201 : decode cX8_weigh 201 = .ok (.iconst 0, 1) := by decide +kernel
theorem dX8_weigh_202 : decode cX8_weigh 202 = .ok (.iadd, 1) := by decide +kernel
theorem dX8_weigh_203 : decode cX8_weigh 203 = .ok (.iaload, 1) := by decide +kernel
theorem dX8_weigh_204 : decode cX8_weigh 204 = .ok (.ifCond .ne 30, 3) := by decide +kernel
theorem dX8_weigh_207 : decode cX8_weigh 207 = .ok (.iconst 2, 1) := by decide +kernel
theorem dX8_weigh_208 : decode cX8_weigh 208 = .ok (.iload_n 3, 1) := by decide +kernel
theorem dX8_weigh_209 : decode cX8_weigh 209 = .ok (.imul, 1) := by decide +kernel
theorem dX8_weigh_210 : decode cX8_weigh 210 = .ok (.aload_n 1, 1) := by decide +kernel
theorem dX8_weigh_211 : decode cX8_weigh 211 = .ok (.iload_n 2, 1) := by decide +kernel
theorem dX8_weigh_212 : decode cX8_weigh 212 = .ok (.invokestatic 72, 3) := by decide +kernel
theorem dX8_weigh_215 : decode cX8_weigh 215 = .ok (.iconst 0, 1) := by decide +kernel
theorem dX8_weigh_216 : decode cX8_weigh 216 = .ok (.iadd, 1) := by decide +kernel
theorem dX8_weigh_217 : decode cX8_weigh 217 = .ok (.iaload, 1) := by decide +kernel
theorem dX8_weigh_218 : decode cX8_weigh 218 = .ok (.if_icmp .lt 16, 3) := by decide +kernel
theorem dX8_weigh_221 : decode cX8_weigh 221 = .ok (.aload_n 1, 1) := by decide +kernel
theorem dX8_weigh_222 : decode cX8_weigh 222 = .ok (.iload_n 2, 1) := by decide +kernel
theorem dX8_weigh_223 : decode cX8_weigh 223 = .ok (.iload_n 3, 1) := by decide +kernel
theorem dX8_weigh_224 : decode cX8_weigh 224 = .ok (.invokestatic 93, 3) := by decide +kernel
theorem dX8_weigh_227 : decode cX8_weigh 227 = .ok (.ifCond .ne 7, 3) := by decide +kernel
theorem dX8_weigh_230 : decode cX8_weigh 230 = .ok (.iconst 1, 1) := by decide +kernel
theorem dX8_weigh_231 : decode cX8_weigh 231 = .ok (.goto 4, 3) := by decide +kernel
theorem dX8_weigh_234 : decode cX8_weigh 234 = .ok (.iconst 0, 1) := by decide +kernel
theorem dX8_weigh_235 : decode cX8_weigh 235 = .ok (.istore 7, 2) := by decide +kernel
theorem dX8_weigh_237 : decode cX8_weigh 237 = .ok (.aload_n 0, 1) := by decide +kernel
theorem dX8_weigh_238 : decode cX8_weigh 238 = .ok (.getfield 47, 3) := by decide +kernel
theorem dX8_weigh_241 : decode cX8_weigh 241 = .ok (.iload_n 3, 1) := by decide +kernel
theorem dX8_weigh_242 : decode cX8_weigh 242 = .ok (.iload 7, 2) := by decide +kernel
theorem dX8_weigh_244 : decode cX8_weigh 244 = .ok (.ifCond .eq 7, 3) := by decide +kernel
theorem dX8_weigh_247 : decode cX8_weigh 247 = .ok (.iconst 1, 1) := by decide +kernel
theorem dX8_weigh_248 : decode cX8_weigh 248 = .ok (.goto 4, 3) := by decide +kernel
theorem dX8_weigh_251 : decode cX8_weigh 251 = .ok (.iconst 0, 1) := by decide +kernel
theorem dX8_weigh_252 : decode cX8_weigh 252 = .ok (.iastore, 1) := by decide +kernel
theorem dX8_weigh_253 : decode cX8_weigh 253 = .ok (.aload_n 0, 1) := by decide +kernel
theorem dX8_weigh_254 : decode cX8_weigh 254 = .ok (.getfield 38, 3) := by decide +kernel
theorem dX8_weigh_257 : decode cX8_weigh 257 = .ok (.iload_n 3, 1) := by decide +kernel
theorem dX8_weigh_258 : decode cX8_weigh 258 = .ok (.iload 7, 2) := by decide +kernel
theorem dX8_weigh_260 : decode cX8_weigh 260 = .ok (.ifCond .eq 17, 3) := by decide +kernel
theorem dX8_weigh_263 : decode cX8_weigh 263 = .ok (.iload 5, 2) := by decide +kernel
theorem dX8_weigh_265 : decode cX8_weigh 265 = .ok (.bipush 100, 2) := by decide +kernel
theorem dX8_weigh_267 : decode cX8_weigh 267 = .ok (.aload_n 1, 1) := by decide +kernel
theorem dX8_weigh_268 : decode cX8_weigh 268 = .ok (.iconst 5, 1) := by decide +kernel
theorem dX8_weigh_269 : decode cX8_weigh 269 = .ok (.iaload, 1) := by decide +kernel
theorem dX8_weigh_270 : decode cX8_weigh 270 = .ok (.iadd, 1) := by decide +kernel
theorem dX8_weigh_271 : decode cX8_weigh 271 = .ok (.invokestatic 83, 3) := by decide +kernel
theorem dX8_weigh_274 : decode cX8_weigh 274 = .ok (.goto 5, 3) := by decide +kernel
theorem dX8_weigh_277 : decode cX8_weigh 277 = .ok (.iload 5, 2) := by decide +kernel
theorem dX8_weigh_279 : decode cX8_weigh 279 = .ok (.iastore, 1) := by decide +kernel
theorem dX8_weigh_280 : decode cX8_weigh 280 = .ok (.aload_n 0, 1) := by decide +kernel
theorem dX8_weigh_281 : decode cX8_weigh 281 = .ok (.getfield 41, 3) := by decide +kernel
theorem dX8_weigh_284 : decode cX8_weigh 284 = .ok (.iload_n 3, 1) := by decide +kernel
theorem dX8_weigh_285 : decode cX8_weigh 285 = .ok (.aload_n 1, 1) := by decide +kernel
theorem dX8_weigh_286 : decode cX8_weigh 286 = .ok (.iload 4, 2) := by decide +kernel
theorem dX8_weigh_288 : decode cX8_weigh 288 = .ok (.bipush 11, 2) := by decide +kernel
theorem dX8_weigh_290 : decode cX8_weigh 290 = .ok (.iadd, 1) := by decide +kernel
theorem dX8_weigh_291 : decode cX8_weigh 291 = .ok (.invokestatic 113, 3) := by decide +kernel
theorem dX8_weigh_294 : decode cX8_weigh 294 = .ok (.iastore, 1) := by decide +kernel
theorem dX8_weigh_295 : decode cX8_weigh 295 = .ok (.aload_n 0, 1) := by decide +kernel
theorem dX8_weigh_296 : decode cX8_weigh 296 = .ok (.getfield 44, 3) := by decide +kernel
theorem dX8_weigh_299 : decode cX8_weigh 299 = .ok (.iload_n 3, 1) := by decide +kernel
theorem dX8_weigh_300 : decode cX8_weigh 300 = .ok (.aload_n 0, 1) := by decide +kernel
theorem dX8_weigh_301 : decode cX8_weigh 301 = .ok (.getfield 41, 3) := by decide +kernel
theorem dX8_weigh_304 : decode cX8_weigh 304 = .ok (.iload_n 3, 1) := by decide +kernel
theorem dX8_weigh_305 : decode cX8_weigh 305 = .ok (.iaload, 1) := by decide +kernel
theorem dX8_weigh_306 : decode cX8_weigh 306 = .ok (.iload 6, 2) := by decide +kernel
theorem dX8_weigh_308 : decode cX8_weigh 308 = .ok (.imul, 1) := by decide +kernel
theorem dX8_weigh_309 : decode cX8_weigh 309 = .ok (.invokestatic 126, 3) := by decide +kernel
theorem dX8_weigh_312 : decode cX8_weigh 312 = .ok (.iastore, 1) := by decide +kernel
theorem dX8_weigh_313 : decode cX8_weigh 313 = .ok (.return_, 1) := by decide +kernel
theorem dX8_graded_0 : decode cX8_graded 0 = .ok (.iload_n 0, 1) := by decide +kernel
theorem dX8_graded_1 : decode cX8_graded 1 = .ok (.ifCond .ge 14, 3) := by decide +kernel
theorem dX8_graded_4 : decode cX8_graded 4 = .ok (.bipush 15, 2) := by decide +kernel
theorem dX8_graded_6 : decode cX8_graded 6 = .ok (.iload_n 0, 1) := by decide +kernel
theorem dX8_graded_7 : decode cX8_graded 7 = .ok (.isub, 1) := by decide +kernel
theorem dX8_graded_8 : decode cX8_graded 8 = .ok (.bipush 30, 2) := by decide +kernel
theorem dX8_graded_10 : decode cX8_graded 10 = .ok (.idiv, 1) := by decide +kernel
theorem dX8_graded_11 : decode cX8_graded 11 = .ok (.ineg, 1) := by decide +kernel
theorem dX8_graded_12 : decode cX8_graded 12 = .ok (.goto 10, 3) := by decide +kernel
theorem dX8_graded_15 : decode cX8_graded 15 = .ok (.iload_n 0, 1) := by decide +kernel
theorem dX8_graded_16 : decode cX8_graded 16 = .ok (.bipush 15, 2) := by decide +kernel
theorem dX8_graded_18 : decode cX8_graded 18 = .ok (.iadd, 1) := by decide +kernel
theorem dX8_graded_19 : decode cX8_graded 19 = .ok (.bipush 30, 2) := by decide +kernel
theorem dX8_graded_21 : decode cX8_graded 21 = .ok (.idiv, 1) := by decide +kernel
theorem dX8_graded_22 : decode cX8_graded 22 = .ok (.ireturn, 1) := by decide +kernel
theorem dX8_reckon_0 : decode cX8_reckon 0 = .ok (.aload_n 0, 1) := by decide +kernel
theorem dX8_reckon_1 : decode cX8_reckon 1 = .ok (.iconst 0, 1) := by decide +kernel
theorem dX8_reckon_2 : decode cX8_reckon 2 = .ok (.putfield 129, 3) := by decide +kernel
theorem dX8_reckon_5 : decode cX8_reckon 5 = .ok (.aload_n 0, 1) := by decide +kernel
theorem dX8_reckon_6 : decode cX8_reckon 6 = .ok (.bipush 100, 2) := by decide +kernel
theorem dX8_reckon_8 : decode cX8_reckon 8 = .ok (.aload_n 1, 1) := by decide +kernel
theorem dX8_reckon_9 : decode cX8_reckon 9 = .ok (.iload_n 2, 1) := by decide +kernel
theorem dX8_reckon_10 : decode cX8_reckon 10 = .ok (.invokestatic 72, 3) := by decide +kernel
theorem dX8_reckon_13 : decode cX8_reckon 13 = .ok (.iconst 1, 1) := by decide +kernel
theorem dX8_reckon_14 : decode cX8_reckon 14 = .ok (.iadd, 1) := by decide +kernel
theorem dX8_reckon_15 : decode cX8_reckon 15 = .ok (.iaload, 1) := by decide +kernel
theorem dX8_reckon_16 : decode cX8_reckon 16 = .ok (.imul, 1) := by decide +kernel
theorem dX8_reckon_17 : decode cX8_reckon 17 = .ok (.putfield 132, 3) := by decide +kernel
theorem dX8_reckon_20 : decode cX8_reckon 20 = .ok (.iconst 0, 1) := by decide +kernel
theorem dX8_reckon_21 : decode cX8_reckon 21 = .ok (.istore_n 3, 1) := by decide +kernel
theorem dX8_reckon_22 : decode cX8_reckon 22 = .ok (.iload_n 3, 1) := by decide +kernel
theorem dX8_reckon_23 : decode cX8_reckon 23 = .ok (.aload_n 1, 1) := by decide +kernel
theorem dX8_reckon_24 : decode cX8_reckon 24 = .ok (.iload_n 2, 1) := by decide +kernel
theorem dX8_reckon_25 : decode cX8_reckon 25 = .ok (.invokestatic 72, 3) := by decide +kernel
theorem dX8_reckon_28 : decode cX8_reckon 28 = .ok (.iconst 0, 1) := by decide +kernel
theorem dX8_reckon_29 : decode cX8_reckon 29 = .ok (.iadd, 1) := by decide +kernel
theorem dX8_reckon_30 : decode cX8_reckon 30 = .ok (.iaload, 1) := by decide +kernel
theorem dX8_reckon_31 : decode cX8_reckon 31 = .ok (.if_icmp .ge 60, 3) := by decide +kernel
theorem dX8_reckon_34 : decode cX8_reckon 34 = .ok (.aload_n 0, 1) := by decide +kernel
theorem dX8_reckon_35 : decode cX8_reckon 35 = .ok (.aload_n 1, 1) := by decide +kernel
theorem dX8_reckon_36 : decode cX8_reckon 36 = .ok (.iload_n 2, 1) := by decide +kernel
theorem dX8_reckon_37 : decode cX8_reckon 37 = .ok (.iload_n 3, 1) := by decide +kernel
theorem dX8_reckon_38 : decode cX8_reckon 38 = .ok (.invokevirtual 135, 3) := by decide +kernel
theorem dX8_reckon_41 : decode cX8_reckon 41 = .ok (.aload_n 0, 1) := by decide +kernel
theorem dX8_reckon_42 : decode cX8_reckon 42 = .ok (.dup, 1) := by decide +kernel
theorem dX8_reckon_43 : decode cX8_reckon 43 = .ok (.getfield 129, 3) := by decide +kernel
theorem dX8_reckon_46 : decode cX8_reckon 46 = .ok (.aload_n 0, 1) := by decide +kernel
theorem dX8_reckon_47 : decode cX8_reckon 47 = .ok (.getfield 38, 3) := by decide +kernel
theorem dX8_reckon_50 : decode cX8_reckon 50 = .ok (.iload_n 3, 1) := by decide +kernel
theorem dX8_reckon_51 : decode cX8_reckon 51 = .ok (.iaload, 1) := by decide +kernel
theorem dX8_reckon_52 : decode cX8_reckon 52 = .ok (.aload_n 0, 1) := by decide +kernel
theorem dX8_reckon_53 : decode cX8_reckon 53 = .ok (.getfield 44, 3) := by decide +kernel
theorem dX8_reckon_56 : decode cX8_reckon 56 = .ok (.iload_n 3, 1) := by decide +kernel
theorem dX8_reckon_57 : decode cX8_reckon 57 = .ok (.iaload, 1) := by decide +kernel
theorem dX8_reckon_58 : decode cX8_reckon 58 = .ok (.iadd, 1) := by decide +kernel
theorem dX8_reckon_59 : decode cX8_reckon 59 = .ok (.iadd, 1) := by decide +kernel
theorem dX8_reckon_60 : decode cX8_reckon 60 = .ok (.putfield 129, 3) := by decide +kernel
theorem dX8_reckon_63 : decode cX8_reckon 63 = .ok (.aload_n 0, 1) := by decide +kernel
theorem dX8_reckon_64 : decode cX8_reckon 64 = .ok (.dup, 1) := by decide +kernel
theorem dX8_reckon_65 : decode cX8_reckon 65 = .ok (.getfield 132, 3) := by decide +kernel
theorem dX8_reckon_68 : decode cX8_reckon 68 = .ok (.bipush 100, 2) := by decide +kernel
theorem dX8_reckon_70 : decode cX8_reckon 70 = .ok (.aload_n 1, 1) := by decide +kernel
theorem dX8_reckon_71 : decode cX8_reckon 71 = .ok (.iload_n 2, 1) := by decide +kernel
theorem dX8_reckon_72 : decode cX8_reckon 72 = .ok (.iload_n 3, 1) := by decide +kernel
theorem dX8_reckon_73 : decode cX8_reckon 73 = .ok (.invokestatic 60, 3) := by decide +kernel
theorem dX8_reckon_76 : decode cX8_reckon 76 = .ok (.bipush 16, 2) := by decide +kernel
theorem dX8_reckon_78 : decode cX8_reckon 78 = .ok (.iadd, 1) := by decide +kernel
theorem dX8_reckon_79 : decode cX8_reckon 79 = .ok (.iaload, 1) := by decide +kernel
theorem dX8_reckon_80 : decode cX8_reckon 80 = .ok (.imul, 1) := by decide +kernel
theorem dX8_reckon_81 : decode cX8_reckon 81 = .ok (.iadd, 1) := by decide +kernel
theorem dX8_reckon_82 : decode cX8_reckon 82 = .ok (.putfield 132, 3) := by decide +kernel
theorem dX8_reckon_85 : decode cX8_reckon 85 = .ok (.iinc 3 1, 3) := by decide +kernel
theorem dX8_reckon_88 : decode cX8_reckon 88 = .ok (.goto (-66), 3) := by decide +kernel
theorem dX8_reckon_91 : decode cX8_reckon 91 = .ok (.aload_n 1, 1) := by decide +kernel
theorem dX8_reckon_92 : decode cX8_reckon 92 = .ok (.iload_n 2, 1) := by decide +kernel
theorem dX8_reckon_93 : decode cX8_reckon 93 = .ok (.iconst 0, 1) := by decide +kernel
theorem dX8_reckon_94 : decode cX8_reckon 94 = .ok (.invokestatic 139, 3) := by decide +kernel
theorem dX8_reckon_97 : decode cX8_reckon 97 = .ok (.aload_n 1, 1) := by decide +kernel
theorem dX8_reckon_98 : decode cX8_reckon 98 = .ok (.iload_n 2, 1) := by decide +kernel
theorem dX8_reckon_99 : decode cX8_reckon 99 = .ok (.iconst 1, 1) := by decide +kernel
theorem dX8_reckon_100 : decode cX8_reckon 100 = .ok (.invokestatic 139, 3) := by decide +kernel
theorem dX8_reckon_103 : decode cX8_reckon 103 = .ok (.iadd, 1) := by decide +kernel
theorem dX8_reckon_104 : decode cX8_reckon 104 = .ok (.aload_n 1, 1) := by decide +kernel
theorem dX8_reckon_105 : decode cX8_reckon 105 = .ok (.iload_n 2, 1) := by decide +kernel
theorem dX8_reckon_106 : decode cX8_reckon 106 = .ok (.iconst 2, 1) := by decide +kernel
theorem dX8_reckon_107 : decode cX8_reckon 107 = .ok (.invokestatic 139, 3) := by decide +kernel
theorem dX8_reckon_110 : decode cX8_reckon 110 = .ok (.iadd, 1) := by decide +kernel
theorem dX8_reckon_111 : decode cX8_reckon 111 = .ok (.istore_n 3, 1) := by decide +kernel
theorem dX8_reckon_112 : decode cX8_reckon 112 = .ok (.aload_n 0, 1) := by decide +kernel
theorem dX8_reckon_113 : decode cX8_reckon 113 = .ok (.iload_n 3, 1) := by decide +kernel
theorem dX8_reckon_114 : decode cX8_reckon 114 = .ok (.aload_n 1, 1) := by decide +kernel
theorem dX8_reckon_115 : decode cX8_reckon 115 = .ok (.iconst 1, 1) := by decide +kernel
theorem dX8_reckon_116 : decode cX8_reckon 116 = .ok (.iaload, 1) := by decide +kernel
theorem dX8_reckon_117 : decode cX8_reckon 117 = .ok (.invokestatic 83, 3) := by decide +kernel
theorem dX8_reckon_120 : decode cX8_reckon 120 = .ok (.putfield 143, 3) := by decide +kernel
theorem dX8_reckon_123 : decode cX8_reckon 123 = .ok (.aload_n 0, 1) := by decide +kernel
theorem dX8_reckon_124 : decode cX8_reckon 124 = .ok (.getfield 129, 3) := by decide +kernel
theorem dX8_reckon_127 : decode cX8_reckon 127 = .ok (.aload_n 0, 1) := by decide +kernel
theorem dX8_reckon_128 : decode cX8_reckon 128 = .ok (.getfield 143, 3) := by decide +kernel
theorem dX8_reckon_131 : decode cX8_reckon 131 = .ok (.iadd, 1) := by decide +kernel
theorem dX8_reckon_132 : decode cX8_reckon 132 = .ok (.aload_n 0, 1) := by decide +kernel
theorem dX8_reckon_133 : decode cX8_reckon 133 = .ok (.getfield 132, 3) := by decide +kernel
theorem dX8_reckon_136 : decode cX8_reckon 136 = .ok (.isub, 1) := by decide +kernel
theorem dX8_reckon_137 : decode cX8_reckon 137 = .ok (.ireturn, 1) := by decide +kernel
theorem dX8_reckonAll_0 : decode cX8_reckonAll 0 = .ok (.iconst 0, 1) := by decide +kernel
theorem dX8_reckonAll_1 : decode cX8_reckonAll 1 = .ok (.istore_n 2, 1) := by decide +kernel
theorem dX8_reckonAll_2 : decode cX8_reckonAll 2 = .ok (.iload_n 2, 1) := by decide +kernel
theorem dX8_reckonAll_3 : decode cX8_reckonAll 3 = .ok (.aload_n 1, 1) := by decide +kernel
theorem dX8_reckonAll_4 : decode cX8_reckonAll 4 = .ok (.iconst 0, 1) := by decide +kernel
theorem dX8_reckonAll_5 : decode cX8_reckonAll 5 = .ok (.iaload, 1) := by decide +kernel
theorem dX8_reckonAll_6 : decode cX8_reckonAll 6 = .ok (.if_icmp .ge 31, 3) := by decide +kernel
theorem dX8_reckonAll_9 : decode cX8_reckonAll 9 = .ok (.aload_n 0, 1) := by decide +kernel
theorem dX8_reckonAll_10 : decode cX8_reckonAll 10 = .ok (.getfield 50, 3) := by decide +kernel
theorem dX8_reckonAll_13 : decode cX8_reckonAll 13 = .ok (.iload_n 2, 1) := by decide +kernel
theorem dX8_reckonAll_14 : decode cX8_reckonAll 14 = .ok (.aload_n 0, 1) := by decide +kernel
theorem dX8_reckonAll_15 : decode cX8_reckonAll 15 = .ok (.aload_n 1, 1) := by decide +kernel
theorem dX8_reckonAll_16 : decode cX8_reckonAll 16 = .ok (.iload_n 2, 1) := by decide +kernel
theorem dX8_reckonAll_17 : decode cX8_reckonAll 17 = .ok (.invokevirtual 146, 3) := by decide +kernel
theorem dX8_reckonAll_20 : decode cX8_reckonAll 20 = .ok (.iastore, 1) := by decide +kernel
theorem dX8_reckonAll_21 : decode cX8_reckonAll 21 = .ok (.aload_n 0, 1) := by decide +kernel
theorem dX8_reckonAll_22 : decode cX8_reckonAll 22 = .ok (.getfield 53, 3) := by decide +kernel
theorem dX8_reckonAll_25 : decode cX8_reckonAll 25 = .ok (.iload_n 2, 1) := by decide +kernel
theorem dX8_reckonAll_26 : decode cX8_reckonAll 26 = .ok (.aload_n 0, 1) := by decide +kernel
theorem dX8_reckonAll_27 : decode cX8_reckonAll 27 = .ok (.getfield 129, 3) := by decide +kernel
theorem dX8_reckonAll_30 : decode cX8_reckonAll 30 = .ok (.iastore, 1) := by decide +kernel
theorem dX8_reckonAll_31 : decode cX8_reckonAll 31 = .ok (.iinc 2 1, 3) := by decide +kernel
theorem dX8_reckonAll_34 : decode cX8_reckonAll 34 = .ok (.goto (-32), 3) := by decide +kernel
theorem dX8_reckonAll_37 : decode cX8_reckonAll 37 = .ok (.return_, 1) := by decide +kernel
theorem dX8_place_0 : decode cX8_place 0 = .ok (.iconst 0, 1) := by decide +kernel
theorem dX8_place_1 : decode cX8_place 1 = .ok (.istore_n 3, 1) := by decide +kernel
theorem dX8_place_2 : decode cX8_place 2 = .ok (.iconst 0, 1) := by decide +kernel
theorem dX8_place_3 : decode cX8_place 3 = .ok (.istore 4, 2) := by decide +kernel
theorem dX8_place_5 : decode cX8_place 5 = .ok (.iload 4, 2) := by decide +kernel
theorem dX8_place_7 : decode cX8_place 7 = .ok (.aload_n 1, 1) := by decide +kernel
theorem dX8_place_8 : decode cX8_place 8 = .ok (.iconst 0, 1) := by decide +kernel
theorem dX8_place_9 : decode cX8_place 9 = .ok (.iaload, 1) := by decide +kernel
theorem dX8_place_10 : decode cX8_place 10 = .ok (.if_icmp .ge 99, 3) := by decide +kernel
theorem dX8_place_13 : decode cX8_place 13 = .ok (.aload_n 0, 1) := by decide +kernel
theorem dX8_place_14 : decode cX8_place 14 = .ok (.getfield 50, 3) := by decide +kernel
theorem dX8_place_17 : decode cX8_place 17 = .ok (.iload 4, 2) := by decide +kernel
theorem dX8_place_19 : decode cX8_place 19 = .ok (.iaload, 1) := by decide +kernel
theorem dX8_place_20 : decode cX8_place 20 = .ok (.aload_n 0, 1) := by decide +kernel
theorem dX8_place_21 : decode cX8_place 21 = .ok (.getfield 50, 3) := by decide +kernel
theorem dX8_place_24 : decode cX8_place 24 = .ok (.iload_n 2, 1) := by decide +kernel
theorem dX8_place_25 : decode cX8_place 25 = .ok (.iaload, 1) := by decide +kernel
theorem dX8_place_26 : decode cX8_place 26 = .ok (.if_icmp .gt 57, 3) := by decide +kernel
theorem dX8_place_29 : decode cX8_place 29 = .ok (.aload_n 0, 1) := by decide +kernel
theorem dX8_place_30 : decode cX8_place 30 = .ok (.getfield 50, 3) := by decide +kernel
theorem dX8_place_33 : decode cX8_place 33 = .ok (.iload 4, 2) := by decide +kernel
theorem dX8_place_35 : decode cX8_place 35 = .ok (.iaload, 1) := by decide +kernel
theorem dX8_place_36 : decode cX8_place 36 = .ok (.aload_n 0, 1) := by decide +kernel
theorem dX8_place_37 : decode cX8_place 37 = .ok (.getfield 50, 3) := by decide +kernel
theorem dX8_place_40 : decode cX8_place 40 = .ok (.iload_n 2, 1) := by decide +kernel
theorem dX8_place_41 : decode cX8_place 41 = .ok (.iaload, 1) := by decide +kernel
theorem dX8_place_42 : decode cX8_place 42 = .ok (.if_icmp .ne 45, 3) := by decide +kernel
theorem dX8_place_45 : decode cX8_place 45 = .ok (.aload_n 0, 1) := by decide +kernel
theorem dX8_place_46 : decode cX8_place 46 = .ok (.getfield 53, 3) := by decide +kernel
theorem dX8_place_49 : decode cX8_place 49 = .ok (.iload 4, 2) := by decide +kernel
theorem dX8_place_51 : decode cX8_place 51 = .ok (.iaload, 1) := by decide +kernel
theorem dX8_place_52 : decode cX8_place 52 = .ok (.aload_n 0, 1) := by decide +kernel
theorem dX8_place_53 : decode cX8_place 53 = .ok (.getfield 53, 3) := by decide +kernel
theorem dX8_place_56 : decode cX8_place 56 = .ok (.iload_n 2, 1) := by decide +kernel
theorem dX8_place_57 : decode cX8_place 57 = .ok (.iaload, 1) := by decide +kernel
theorem dX8_place_58 : decode cX8_place 58 = .ok (.if_icmp .gt 25, 3) := by decide +kernel
theorem dX8_place_61 : decode cX8_place 61 = .ok (.aload_n 0, 1) := by decide +kernel
theorem dX8_place_62 : decode cX8_place 62 = .ok (.getfield 53, 3) := by decide +kernel
theorem dX8_place_65 : decode cX8_place 65 = .ok (.iload 4, 2) := by decide +kernel
theorem dX8_place_67 : decode cX8_place 67 = .ok (.iaload, 1) := by decide +kernel
theorem dX8_place_68 : decode cX8_place 68 = .ok (.aload_n 0, 1) := by decide +kernel
theorem dX8_place_69 : decode cX8_place 69 = .ok (.getfield 53, 3) := by decide +kernel
theorem dX8_place_72 : decode cX8_place 72 = .ok (.iload_n 2, 1) := by decide +kernel
theorem dX8_place_73 : decode cX8_place 73 = .ok (.iaload, 1) := by decide +kernel
theorem dX8_place_74 : decode cX8_place 74 = .ok (.if_icmp .ne 13, 3) := by decide +kernel
theorem dX8_place_77 : decode cX8_place 77 = .ok (.iload 4, 2) := by decide +kernel
theorem dX8_place_79 : decode cX8_place 79 = .ok (.iload_n 2, 1) := by decide +kernel
theorem dX8_place_80 : decode cX8_place 80 = .ok (.if_icmp .ge 7, 3) := by decide +kernel
theorem dX8_place_83 : decode cX8_place 83 = .ok (.iconst 1, 1) := by decide +kernel
theorem dX8_place_84 : decode cX8_place 84 = .ok (.goto 4, 3) := by decide +kernel
theorem dX8_place_87 : decode cX8_place 87 = .ok (.iconst 0, 1) := by decide +kernel
theorem dX8_place_88 : decode cX8_place 88 = .ok (.istore 5, 2) := by decide +kernel
theorem dX8_place_90 : decode cX8_place 90 = .ok (.iload_n 3, 1) := by decide +kernel
theorem dX8_place_91 : decode cX8_place 91 = .ok (.iload 5, 2) := by decide +kernel
theorem dX8_place_93 : decode cX8_place 93 = .ok (.ifCond .eq 7, 3) := by decide +kernel
theorem dX8_place_96 : decode cX8_place 96 = .ok (.iconst 1, 1) := by decide +kernel
theorem dX8_place_97 : decode cX8_place 97 = .ok (.goto 4, 3) := by decide +kernel
theorem dX8_place_100 : decode cX8_place 100 = .ok (.iconst 0, 1) := by decide +kernel
theorem dX8_place_101 : decode cX8_place 101 = .ok (.iadd, 1) := by decide +kernel
theorem dX8_place_102 : decode cX8_place 102 = .ok (.istore_n 3, 1) := by decide +kernel
theorem dX8_place_103 : decode cX8_place 103 = .ok (.iinc 4 1, 3) := by decide +kernel
theorem dX8_place_106 : decode cX8_place 106 = .ok (.goto (-101), 3) := by decide +kernel
theorem dX8_place_109 : decode cX8_place 109 = .ok (.iload_n 3, 1) := by decide +kernel
theorem dX8_place_110 : decode cX8_place 110 = .ok (.ireturn, 1) := by decide +kernel
theorem dX8_first_0 : decode cX8_first 0 = .ok (.aload_n 0, 1) := by decide +kernel
theorem dX8_first_1 : decode cX8_first 1 = .ok (.aload_n 1, 1) := by decide +kernel
theorem dX8_first_2 : decode cX8_first 2 = .ok (.invokevirtual 149, 3) := by decide +kernel
theorem dX8_first_5 : decode cX8_first 5 = .ok (.iconst 0, 1) := by decide +kernel
theorem dX8_first_6 : decode cX8_first 6 = .ok (.istore_n 2, 1) := by decide +kernel
theorem dX8_first_7 : decode cX8_first 7 = .ok (.iload_n 2, 1) := by decide +kernel
theorem dX8_first_8 : decode cX8_first 8 = .ok (.aload_n 1, 1) := by decide +kernel
theorem dX8_first_9 : decode cX8_first 9 = .ok (.iconst 0, 1) := by decide +kernel
theorem dX8_first_10 : decode cX8_first 10 = .ok (.iaload, 1) := by decide +kernel
theorem dX8_first_11 : decode cX8_first 11 = .ok (.if_icmp .ge 20, 3) := by decide +kernel
theorem dX8_first_14 : decode cX8_first 14 = .ok (.aload_n 0, 1) := by decide +kernel
theorem dX8_first_15 : decode cX8_first 15 = .ok (.aload_n 1, 1) := by decide +kernel
theorem dX8_first_16 : decode cX8_first 16 = .ok (.iload_n 2, 1) := by decide +kernel
theorem dX8_first_17 : decode cX8_first 17 = .ok (.invokevirtual 153, 3) := by decide +kernel
theorem dX8_first_20 : decode cX8_first 20 = .ok (.ifCond .ne 5, 3) := by decide +kernel
theorem dX8_first_23 : decode cX8_first 23 = .ok (.iload_n 2, 1) := by decide +kernel
theorem dX8_first_24 : decode cX8_first 24 = .ok (.ireturn, 1) := by decide +kernel
theorem dX8_first_25 : decode cX8_first 25 = .ok (.iinc 2 1, 3) := by decide +kernel
theorem dX8_first_28 : decode cX8_first 28 = .ok (.goto (-21), 3) := by decide +kernel
theorem dX8_first_31 : decode cX8_first 31 = .ok (.iconst (-1), 1) := by decide +kernel
theorem dX8_first_32 : decode cX8_first 32 = .ok (.ireturn, 1) := by decide +kernel
theorem dX8_sum_0 : decode cX8_sum 0 = .ok (.iconst 0, 1) := by decide +kernel
theorem dX8_sum_1 : decode cX8_sum 1 = .ok (.istore_n 3, 1) := by decide +kernel
theorem dX8_sum_2 : decode cX8_sum 2 = .ok (.iconst 0, 1) := by decide +kernel
theorem dX8_sum_3 : decode cX8_sum 3 = .ok (.istore 4, 2) := by decide +kernel
theorem dX8_sum_5 : decode cX8_sum 5 = .ok (.iload 4, 2) := by decide +kernel
theorem dX8_sum_7 : decode cX8_sum 7 = .ok (.aload_n 0, 1) := by decide +kernel
theorem dX8_sum_8 : decode cX8_sum 8 = .ok (.iload_n 1, 1) := by decide +kernel
theorem dX8_sum_9 : decode cX8_sum 9 = .ok (.invokestatic 72, 3) := by decide +kernel
theorem dX8_sum_12 : decode cX8_sum 12 = .ok (.iconst 0, 1) := by decide +kernel
theorem dX8_sum_13 : decode cX8_sum 13 = .ok (.iadd, 1) := by decide +kernel
theorem dX8_sum_14 : decode cX8_sum 14 = .ok (.iaload, 1) := by decide +kernel
theorem dX8_sum_15 : decode cX8_sum 15 = .ok (.if_icmp .ge 22, 3) := by decide +kernel
theorem dX8_sum_18 : decode cX8_sum 18 = .ok (.iload_n 3, 1) := by decide +kernel
theorem dX8_sum_19 : decode cX8_sum 19 = .ok (.aload_n 0, 1) := by decide +kernel
theorem dX8_sum_20 : decode cX8_sum 20 = .ok (.iload_n 1, 1) := by decide +kernel
theorem dX8_sum_21 : decode cX8_sum 21 = .ok (.iload 4, 2) := by decide +kernel
theorem dX8_sum_23 : decode cX8_sum 23 = .ok (.invokestatic 60, 3) := by decide +kernel
theorem dX8_sum_26 : decode cX8_sum 26 = .ok (.iload_n 2, 1) := by decide +kernel
theorem dX8_sum_27 : decode cX8_sum 27 = .ok (.iadd, 1) := by decide +kernel
theorem dX8_sum_28 : decode cX8_sum 28 = .ok (.iaload, 1) := by decide +kernel
theorem dX8_sum_29 : decode cX8_sum 29 = .ok (.iadd, 1) := by decide +kernel
theorem dX8_sum_30 : decode cX8_sum 30 = .ok (.istore_n 3, 1) := by decide +kernel
theorem dX8_sum_31 : decode cX8_sum 31 = .ok (.iinc 4 1, 3) := by decide +kernel
theorem dX8_sum_34 : decode cX8_sum 34 = .ok (.goto (-29), 3) := by decide +kernel
theorem dX8_sum_37 : decode cX8_sum 37 = .ok (.iload_n 3, 1) := by decide +kernel
theorem dX8_sum_38 : decode cX8_sum 38 = .ok (.ireturn, 1) := by decide +kernel
theorem dX8_sumOfAll_0 : decode cX8_sumOfAll 0 = .ok (.iconst 0, 1) := by decide +kernel
theorem dX8_sumOfAll_1 : decode cX8_sumOfAll 1 = .ok (.istore_n 2, 1) := by decide +kernel
theorem dX8_sumOfAll_2 : decode cX8_sumOfAll 2 = .ok (.iconst 0, 1) := by decide +kernel
theorem dX8_sumOfAll_3 : decode cX8_sumOfAll 3 = .ok (.istore_n 3, 1) := by decide +kernel
theorem dX8_sumOfAll_4 : decode cX8_sumOfAll 4 = .ok (.iload_n 3, 1) := by decide +kernel
theorem dX8_sumOfAll_5 : decode cX8_sumOfAll 5 = .ok (.aload_n 0, 1) := by decide +kernel
theorem dX8_sumOfAll_6 : decode cX8_sumOfAll 6 = .ok (.iconst 0, 1) := by decide +kernel
theorem dX8_sumOfAll_7 : decode cX8_sumOfAll 7 = .ok (.iaload, 1) := by decide +kernel
theorem dX8_sumOfAll_8 : decode cX8_sumOfAll 8 = .ok (.if_icmp .ge 18, 3) := by decide +kernel
theorem dX8_sumOfAll_11 : decode cX8_sumOfAll 11 = .ok (.iload_n 2, 1) := by decide +kernel
theorem dX8_sumOfAll_12 : decode cX8_sumOfAll 12 = .ok (.aload_n 0, 1) := by decide +kernel
theorem dX8_sumOfAll_13 : decode cX8_sumOfAll 13 = .ok (.iload_n 3, 1) := by decide +kernel
theorem dX8_sumOfAll_14 : decode cX8_sumOfAll 14 = .ok (.iload_n 1, 1) := by decide +kernel
theorem dX8_sumOfAll_15 : decode cX8_sumOfAll 15 = .ok (.invokestatic 156, 3) := by decide +kernel
theorem dX8_sumOfAll_18 : decode cX8_sumOfAll 18 = .ok (.iadd, 1) := by decide +kernel
theorem dX8_sumOfAll_19 : decode cX8_sumOfAll 19 = .ok (.istore_n 2, 1) := by decide +kernel
theorem dX8_sumOfAll_20 : decode cX8_sumOfAll 20 = .ok (.iinc 3 1, 3) := by decide +kernel
theorem dX8_sumOfAll_23 : decode cX8_sumOfAll 23 = .ok (.goto (-19), 3) := by decide +kernel
theorem dX8_sumOfAll_26 : decode cX8_sumOfAll 26 = .ok (.iload_n 2, 1) := by decide +kernel
theorem dX8_sumOfAll_27 : decode cX8_sumOfAll 27 = .ok (.ireturn, 1) := by decide +kernel
theorem dX8_append_0 : decode cX8_append 0 = .ok (.aload_n 0, 1) := by decide +kernel
theorem dX8_append_1 : decode cX8_append 1 = .ok (.iload_n 1, 1) := by decide +kernel
theorem dX8_append_2 : decode cX8_append 2 = .ok (.i2l, 1) := by decide +kernel
theorem dX8_append_3 : decode cX8_append 3 = .ok (.lconst 0, 1) := by decide +kernel
theorem dX8_append_4 : decode cX8_append 4 = .ok (.ldc2_w 159, 3) := by decide +kernel
theorem dX8_append_7 : decode cX8_append 7 = .ok (.invokestatic 64, 3) := by decide +kernel
theorem dX8_append_10 : decode cX8_append 10 = .ok (.ifCond .ne 7, 3) := by decide +kernel
theorem dX8_append_13 : decode cX8_append 13 = .ok (.iconst 1, 1) := by decide +kernel
theorem dX8_append_14 : decode cX8_append 14 = .ok (.goto 17, 3) := by decide +kernel
theorem dX8_append_17 : decode cX8_append 17 = .ok (.aload_n 0, 1) := by decide +kernel
theorem dX8_append_18 : decode cX8_append 18 = .ok (.getfield 161, 3) := by decide +kernel
theorem dX8_append_21 : decode cX8_append 21 = .ok (.bipush 120, 2) := by decide +kernel
theorem dX8_append_23 : decode cX8_append 23 = .ok (.if_icmp .ne 7, 3) := by decide +kernel
theorem dX8_append_26 : decode cX8_append 26 = .ok (.iconst 2, 1) := by decide +kernel
theorem dX8_append_27 : decode cX8_append 27 = .ok (.goto 4, 3) := by decide +kernel
theorem dX8_append_30 : decode cX8_append 30 = .ok (.iconst 0, 1) := by decide +kernel
theorem dX8_append_31 : decode cX8_append 31 = .ok (.invokevirtual 164, 3) := by decide +kernel
theorem dX8_append_34 : decode cX8_append 34 = .ok (.ifCond .eq 5, 3) := by decide +kernel
theorem dX8_append_37 : decode cX8_append 37 = .ok (.iconst 0, 1) := by decide +kernel
theorem dX8_append_38 : decode cX8_append 38 = .ok (.ireturn, 1) := by decide +kernel
theorem dX8_append_39 : decode cX8_append 39 = .ok (.aload_n 0, 1) := by decide +kernel
theorem dX8_append_40 : decode cX8_append 40 = .ok (.getfield 7, 3) := by decide +kernel
theorem dX8_append_43 : decode cX8_append 43 = .ok (.aload_n 0, 1) := by decide +kernel
theorem dX8_append_44 : decode cX8_append 44 = .ok (.getfield 161, 3) := by decide +kernel
theorem dX8_append_47 : decode cX8_append 47 = .ok (.iload_n 1, 1) := by decide +kernel
theorem dX8_append_48 : decode cX8_append 48 = .ok (.iastore, 1) := by decide +kernel
theorem dX8_append_49 : decode cX8_append 49 = .ok (.aload_n 0, 1) := by decide +kernel
theorem dX8_append_50 : decode cX8_append 50 = .ok (.dup, 1) := by decide +kernel
theorem dX8_append_51 : decode cX8_append 51 = .ok (.getfield 161, 3) := by decide +kernel
theorem dX8_append_54 : decode cX8_append 54 = .ok (.iconst 1, 1) := by decide +kernel
theorem dX8_append_55 : decode cX8_append 55 = .ok (.iadd, 1) := by decide +kernel
theorem dX8_append_56 : decode cX8_append 56 = .ok (.putfield 161, 3) := by decide +kernel
theorem dX8_append_59 : decode cX8_append 59 = .ok (.aload_n 0, 1) := by decide +kernel
theorem dX8_append_60 : decode cX8_append 60 = .ok (.getfield 161, 3) := by decide +kernel
theorem dX8_append_63 : decode cX8_append 63 = .ok (.ireturn, 1) := by decide +kernel
theorem dX8_clearText_0 : decode cX8_clearText 0 = .ok (.aload_n 0, 1) := by decide +kernel
theorem dX8_clearText_1 : decode cX8_clearText 1 = .ok (.iconst 0, 1) := by decide +kernel
theorem dX8_clearText_2 : decode cX8_clearText 2 = .ok (.putfield 56, 3) := by decide +kernel
theorem dX8_clearText_5 : decode cX8_clearText 5 = .ok (.aload_n 0, 1) := by decide +kernel
theorem dX8_clearText_6 : decode cX8_clearText 6 = .ok (.getfield 161, 3) := by decide +kernel
theorem dX8_clearText_9 : decode cX8_clearText 9 = .ok (.istore_n 1, 1) := by decide +kernel
theorem dX8_clearText_10 : decode cX8_clearText 10 = .ok (.aload_n 0, 1) := by decide +kernel
theorem dX8_clearText_11 : decode cX8_clearText 11 = .ok (.iconst 0, 1) := by decide +kernel
theorem dX8_clearText_12 : decode cX8_clearText 12 = .ok (.putfield 161, 3) := by decide +kernel
theorem dX8_clearText_15 : decode cX8_clearText 15 = .ok (.iload_n 1, 1) := by decide +kernel
theorem dX8_clearText_16 : decode cX8_clearText 16 = .ok (.ireturn, 1) := by decide +kernel
theorem dX8_here_0 : decode cX8_here 0 = .ok (.aload_n 0, 1) := by decide +kernel
theorem dX8_here_1 : decode cX8_here 1 = .ok (.getfield 168, 3) := by decide +kernel
theorem dX8_here_4 : decode cX8_here 4 = .ok (.aload_n 0, 1) := by decide +kernel
theorem dX8_here_5 : decode cX8_here 5 = .ok (.getfield 161, 3) := by decide +kernel
theorem dX8_here_8 : decode cX8_here 8 = .ok (.if_icmp .ge 15, 3) := by decide +kernel
theorem dX8_here_11 : decode cX8_here 11 = .ok (.aload_n 0, 1) := by decide +kernel
theorem dX8_here_12 : decode cX8_here 12 = .ok (.getfield 7, 3) := by decide +kernel
theorem dX8_here_15 : decode cX8_here 15 = .ok (.aload_n 0, 1) := by decide +kernel
theorem dX8_here_16 : decode cX8_here 16 = .ok (.getfield 168, 3) := by decide +kernel
theorem dX8_here_19 : decode cX8_here 19 = .ok (.iaload, 1) := by decide +kernel
theorem dX8_here_20 : decode cX8_here 20 = .ok (.goto 4, 3) := by decide +kernel
theorem dX8_here_23 : decode cX8_here 23 = .ok (.iconst (-1), 1) := by decide +kernel
theorem dX8_here_24 : decode cX8_here 24 = .ok (.ireturn, 1) := by decide +kernel
theorem dX8_passes_0 : decode cX8_passes 0 = .ok (.aload_n 0, 1) := by decide +kernel
theorem dX8_passes_1 : decode cX8_passes 1 = .ok (.invokevirtual 171, 3) := by decide +kernel
theorem dX8_passes_4 : decode cX8_passes 4 = .ok (.iload_n 1, 1) := by decide +kernel
theorem dX8_passes_5 : decode cX8_passes 5 = .ok (.if_icmp .eq 5, 3) := by decide +kernel
theorem dX8_passes_8 : decode cX8_passes 8 = .ok (.iconst 0, 1) := by decide +kernel
theorem dX8_passes_9 : decode cX8_passes 9 = .ok (.ireturn, 1) := by decide +kernel
theorem dX8_passes_10 : decode cX8_passes 10 = .ok (.aload_n 0, 1) := by decide +kernel
theorem dX8_passes_11 : decode cX8_passes 11 = .ok (.dup, 1) := by decide +kernel
theorem dX8_passes_12 : decode cX8_passes 12 = .ok (.getfield 168, 3) := by decide +kernel
theorem dX8_passes_15 : decode cX8_passes 15 = .ok (.iconst 1, 1) := by decide +kernel
theorem dX8_passes_16 : decode cX8_passes 16 = .ok (.iadd, 1) := by decide +kernel
theorem dX8_passes_17 : decode cX8_passes 17 = .ok (.putfield 168, 3) := by decide +kernel
theorem dX8_passes_20 : decode cX8_passes 20 = .ok (.iconst 1, 1) := by decide +kernel
theorem dX8_passes_21 : decode cX8_passes 21 = .ok (.ireturn, 1) := by decide +kernel
theorem dX8_kindOf_0 : decode cX8_kindOf 0 = .ok (.iload_n 0, 1) := by decide +kernel
theorem dX8_kindOf_1 : decode cX8_kindOf 1 = .ok (.bipush 84, 2) := by decide +kernel
theorem dX8_kindOf_3 : decode cX8_kindOf 3 = .ok (.if_icmp .ne 7, 3) := by decide +kernel
theorem dX8_kindOf_6 : decode cX8_kindOf 6 = .ok (.iconst 0, 1) := by decide +kernel
theorem dX8_kindOf_7 : decode cX8_kindOf 7 = .ok (.goto 54, 3) := by decide +kernel
theorem dX8_kindOf_10 : decode cX8_kindOf 10 = .ok (.iload_n 0, 1) := by decide +kernel
theorem dX8_kindOf_11 : decode cX8_kindOf 11 = .ok (.bipush 83, 2) := by decide +kernel
theorem dX8_kindOf_13 : decode cX8_kindOf 13 = .ok (.if_icmp .ne 7, 3) := by decide +kernel
theorem dX8_kindOf_16 : decode cX8_kindOf 16 = .ok (.iconst 1, 1) := by decide +kernel
theorem dX8_kindOf_17 : decode cX8_kindOf 17 = .ok (.goto 44, 3) := by decide +kernel
theorem dX8_kindOf_20 : decode cX8_kindOf 20 = .ok (.iload_n 0, 1) := by decide +kernel
theorem dX8_kindOf_21 : decode cX8_kindOf 21 = .ok (.bipush 79, 2) := by decide +kernel
theorem dX8_kindOf_23 : decode cX8_kindOf 23 = .ok (.if_icmp .ne 7, 3) := by decide +kernel
theorem dX8_kindOf_26 : decode cX8_kindOf 26 = .ok (.iconst 2, 1) := by decide +kernel
theorem dX8_kindOf_27 : decode cX8_kindOf 27 = .ok (.goto 34, 3) := by decide +kernel
theorem dX8_kindOf_30 : decode cX8_kindOf 30 = .ok (.iload_n 0, 1) := by decide +kernel
theorem dX8_kindOf_31 : decode cX8_kindOf 31 = .ok (.bipush 70, 2) := by decide +kernel
theorem dX8_kindOf_33 : decode cX8_kindOf 33 = .ok (.if_icmp .ne 7, 3) := by decide +kernel
theorem dX8_kindOf_36 : decode cX8_kindOf 36 = .ok (.iconst 3, 1) := by decide +kernel
theorem dX8_kindOf_37 : decode cX8_kindOf 37 = .ok (.goto 24, 3) := by decide +kernel
theorem dX8_kindOf_40 : decode cX8_kindOf 40 = .ok (.iload_n 0, 1) := by decide +kernel
theorem dX8_kindOf_41 : decode cX8_kindOf 41 = .ok (.bipush 90, 2) := by decide +kernel
theorem dX8_kindOf_43 : decode cX8_kindOf 43 = .ok (.if_icmp .ne 7, 3) := by decide +kernel
theorem dX8_kindOf_46 : decode cX8_kindOf 46 = .ok (.iconst 4, 1) := by decide +kernel
theorem dX8_kindOf_47 : decode cX8_kindOf 47 = .ok (.goto 14, 3) := by decide +kernel
theorem dX8_kindOf_50 : decode cX8_kindOf 50 = .ok (.iload_n 0, 1) := by decide +kernel
theorem dX8_kindOf_51 : decode cX8_kindOf 51 = .ok (.bipush 65, 2) := by decide +kernel
theorem dX8_kindOf_53 : decode cX8_kindOf 53 = .ok (.if_icmp .ne 7, 3) := by decide +kernel
theorem dX8_kindOf_56 : decode cX8_kindOf 56 = .ok (.iconst 5, 1) := by decide +kernel
theorem dX8_kindOf_57 : decode cX8_kindOf 57 = .ok (.goto 4, 3) := by decide +kernel
theorem dX8_kindOf_60 : decode cX8_kindOf 60 = .ok (.iconst (-1), 1) := by decide +kernel
theorem dX8_kindOf_61 : decode cX8_kindOf 61 = .ok (.ireturn, 1) := by decide +kernel
theorem dX8_hasEdge_0 : decode cX8_hasEdge 0 = .ok (.iload_n 0, 1) := by decide +kernel
theorem dX8_hasEdge_1 : decode cX8_hasEdge 1 = .ok (.iconst 3, 1) := by decide +kernel
theorem dX8_hasEdge_2 : decode cX8_hasEdge 2 = .ok (.if_icmp .eq 8, 3) := by decide +kernel
theorem dX8_hasEdge_5 : decode cX8_hasEdge 5 = .ok (.iload_n 0, 1) := by decide +kernel
theorem dX8_hasEdge_6 : decode cX8_hasEdge 6 = .ok (.iconst 4, 1) := by decide +kernel
theorem dX8_hasEdge_7 : decode cX8_hasEdge 7 = .ok (.if_icmp .ne 7, 3) := by decide +kernel
theorem dX8_hasEdge_10 : decode cX8_hasEdge 10 = .ok (.iconst 1, 1) := by decide +kernel
theorem dX8_hasEdge_11 : decode cX8_hasEdge 11 = .ok (.goto 4, 3) := by decide +kernel
theorem dX8_hasEdge_14 : decode cX8_hasEdge 14 = .ok (.iconst 0, 1) := by decide +kernel
theorem dX8_hasEdge_15 : decode cX8_hasEdge 15 = .ok (.ireturn, 1) := by decide +kernel
theorem dX8_readJump_0 : decode cX8_readJump 0 = .ok (.aload_n 0, 1) := by decide +kernel
theorem dX8_readJump_1 : decode cX8_readJump 1 = .ok (.invokevirtual 171, 3) := by decide +kernel
theorem dX8_readJump_4 : decode cX8_readJump 4 = .ok (.i2l, 1) := by decide +kernel
theorem dX8_readJump_5 : decode cX8_readJump 5 = .ok (.ldc2_w 175, 3) := by decide +kernel
theorem dX8_readJump_8 : decode cX8_readJump 8 = .ok (.ldc2_w 177, 3) := by decide +kernel
theorem dX8_readJump_11 : decode cX8_readJump 11 = .ok (.invokestatic 64, 3) := by decide +kernel
theorem dX8_readJump_14 : decode cX8_readJump 14 = .ok (.ifCond .ne 5, 3) := by decide +kernel
theorem dX8_readJump_17 : decode cX8_readJump 17 = .ok (.iconst 0, 1) := by decide +kernel
theorem dX8_readJump_18 : decode cX8_readJump 18 = .ok (.ireturn, 1) := by decide +kernel
theorem dX8_readJump_19 : decode cX8_readJump 19 = .ok (.aload_n 0, 1) := by decide +kernel
theorem dX8_readJump_20 : decode cX8_readJump 20 = .ok (.getfield 29, 3) := by decide +kernel
theorem dX8_readJump_23 : decode cX8_readJump 23 = .ok (.iload_n 1, 1) := by decide +kernel
theorem dX8_readJump_24 : decode cX8_readJump 24 = .ok (.iconst 1, 1) := by decide +kernel
theorem dX8_readJump_25 : decode cX8_readJump 25 = .ok (.iadd, 1) := by decide +kernel
theorem dX8_readJump_26 : decode cX8_readJump 26 = .ok (.aload_n 0, 1) := by decide +kernel
theorem dX8_readJump_27 : decode cX8_readJump 27 = .ok (.invokevirtual 171, 3) := by decide +kernel
theorem dX8_readJump_30 : decode cX8_readJump 30 = .ok (.bipush 48, 2) := by decide +kernel
theorem dX8_readJump_32 : decode cX8_readJump 32 = .ok (.isub, 1) := by decide +kernel
theorem dX8_readJump_33 : decode cX8_readJump 33 = .ok (.iastore, 1) := by decide +kernel
theorem dX8_readJump_34 : decode cX8_readJump 34 = .ok (.aload_n 0, 1) := by decide +kernel
theorem dX8_readJump_35 : decode cX8_readJump 35 = .ok (.dup, 1) := by decide +kernel
theorem dX8_readJump_36 : decode cX8_readJump 36 = .ok (.getfield 168, 3) := by decide +kernel
theorem dX8_readJump_39 : decode cX8_readJump 39 = .ok (.iconst 1, 1) := by decide +kernel
theorem dX8_readJump_40 : decode cX8_readJump 40 = .ok (.iadd, 1) := by decide +kernel
theorem dX8_readJump_41 : decode cX8_readJump 41 = .ok (.putfield 168, 3) := by decide +kernel
theorem dX8_readJump_44 : decode cX8_readJump 44 = .ok (.aload_n 0, 1) := by decide +kernel
theorem dX8_readJump_45 : decode cX8_readJump 45 = .ok (.invokevirtual 171, 3) := by decide +kernel
theorem dX8_readJump_48 : decode cX8_readJump 48 = .ok (.invokestatic 179, 3) := by decide +kernel
theorem dX8_readJump_51 : decode cX8_readJump 51 = .ok (.istore_n 2, 1) := by decide +kernel
theorem dX8_readJump_52 : decode cX8_readJump 52 = .ok (.iload_n 2, 1) := by decide +kernel
theorem dX8_readJump_53 : decode cX8_readJump 53 = .ok (.iconst (-1), 1) := by decide +kernel
theorem dX8_readJump_54 : decode cX8_readJump 54 = .ok (.if_icmp .ne 5, 3) := by decide +kernel
theorem dX8_readJump_57 : decode cX8_readJump 57 = .ok (.iconst 0, 1) := by decide +kernel
theorem dX8_readJump_58 : decode cX8_readJump 58 = .ok (.ireturn, 1) := by decide +kernel
theorem dX8_readJump_59 : decode cX8_readJump 59 = .ok (.aload_n 0, 1) := by decide +kernel
theorem dX8_readJump_60 : decode cX8_readJump 60 = .ok (.dup, 1) := by decide +kernel
theorem dX8_readJump_61 : decode cX8_readJump 61 = .ok (.getfield 168, 3) := by decide +kernel
theorem dX8_readJump_64 : decode cX8_readJump 64 = .ok (.iconst 1, 1) := by decide +kernel
theorem dX8_readJump_65 : decode cX8_readJump 65 = .ok (.iadd, 1) := by decide +kernel
theorem dX8_readJump_66 : decode cX8_readJump 66 = .ok (.putfield 168, 3) := by decide +kernel
theorem dX8_readJump_69 : decode cX8_readJump 69 = .ok (.aload_n 0, 1) := by decide +kernel
theorem dX8_readJump_70 : decode cX8_readJump 70 = .ok (.getfield 29, 3) := by decide +kernel
theorem dX8_readJump_73 : decode cX8_readJump 73 = .ok (.iload_n 1, 1) := by decide +kernel
theorem dX8_readJump_74 : decode cX8_readJump 74 = .ok (.iload_n 2, 1) := by decide +kernel
theorem dX8_readJump_75 : decode cX8_readJump 75 = .ok (.iastore, 1) := by decide +kernel
theorem dX8_readJump_76 : decode cX8_readJump 76 = .ok (.aload_n 0, 1) := by decide +kernel
theorem dX8_readJump_77 : decode cX8_readJump 77 = .ok (.getfield 29, 3) := by decide +kernel
theorem dX8_readJump_80 : decode cX8_readJump 80 = .ok (.iload_n 1, 1) := by decide +kernel
theorem dX8_readJump_81 : decode cX8_readJump 81 = .ok (.iconst 2, 1) := by decide +kernel
theorem dX8_readJump_82 : decode cX8_readJump 82 = .ok (.iadd, 1) := by decide +kernel
theorem dX8_readJump_83 : decode cX8_readJump 83 = .ok (.aload_n 0, 1) := by decide +kernel
theorem dX8_readJump_84 : decode cX8_readJump 84 = .ok (.bipush 60, 2) := by decide +kernel
theorem dX8_readJump_86 : decode cX8_readJump 86 = .ok (.invokevirtual 182, 3) := by decide +kernel
theorem dX8_readJump_89 : decode cX8_readJump 89 = .ok (.ifCond .eq 7, 3) := by decide +kernel
theorem dX8_readJump_92 : decode cX8_readJump 92 = .ok (.iconst 1, 1) := by decide +kernel
theorem dX8_readJump_93 : decode cX8_readJump 93 = .ok (.goto 37, 3) := by decide +kernel
theorem dX8_readJump_96 : decode cX8_readJump 96 = .ok (.aload_n 0, 1) := by decide +kernel
theorem dX8_readJump_97 : decode cX8_readJump 97 = .ok (.bipush 33, 2) := by decide +kernel
theorem dX8_readJump_99 : decode cX8_readJump 99 = .ok (.invokevirtual 182, 3) := by decide +kernel
theorem dX8_readJump_102 : decode cX8_readJump 102 = .ok (.ifCond .eq 7, 3) := by decide +kernel
theorem dX8_readJump_105 : decode cX8_readJump 105 = .ok (.iconst 2, 1) := by decide +kernel
theorem dX8_readJump_106 : decode cX8_readJump 106 = .ok (.goto 24, 3) := by decide +kernel
theorem dX8_readJump_109 : decode cX8_readJump 109 = .ok (.iload_n 2, 1) := by decide +kernel
theorem dX8_readJump_110 : decode cX8_readJump 110 = .ok (.invokestatic 185, 3) := by decide +kernel
theorem dX8_readJump_113 : decode cX8_readJump 113 = .ok (.ifCond .eq 16, 3) := by decide +kernel
theorem dX8_readJump_116 : decode cX8_readJump 116 = .ok (.aload_n 0, 1) := by decide +kernel
theorem dX8_readJump_117 : decode cX8_readJump 117 = .ok (.bipush 101, 2) := by decide +kernel
theorem dX8_readJump_119 : decode cX8_readJump 119 = .ok (.invokevirtual 182, 3) := by decide +kernel
theorem dX8_readJump_122 : decode cX8_readJump 122 = .ok (.ifCond .eq 7, 3) := by decide +kernel
theorem dX8_readJump_125 : decode cX8_readJump 125 = .ok (.iconst 3, 1) := by decide +kernel
theorem dX8_readJump_126 : decode cX8_readJump 126 = .ok (.goto 4, 3) := by decide +kernel
theorem dX8_readJump_129 : decode cX8_readJump 129 = .ok (.iconst 0, 1) := by decide +kernel
theorem dX8_readJump_130 : decode cX8_readJump 130 = .ok (.iastore, 1) := by decide +kernel
theorem dX8_readJump_131 : decode cX8_readJump 131 = .ok (.iconst 1, 1) := by decide +kernel
theorem dX8_readJump_132 : decode cX8_readJump 132 = .ok (.ireturn, 1) := by decide +kernel
theorem dX8_readElement_0 : decode cX8_readElement 0 = .ok (.aload_n 0, 1) := by decide +kernel
theorem dX8_readElement_1 : decode cX8_readElement 1 = .ok (.bipush 112, 2) := by decide +kernel
theorem dX8_readElement_3 : decode cX8_readElement 3 = .ok (.invokevirtual 182, 3) := by decide +kernel
theorem dX8_readElement_6 : decode cX8_readElement 6 = .ok (.ifCond .eq 7, 3) := by decide +kernel
theorem dX8_readElement_9 : decode cX8_readElement 9 = .ok (.iconst 1, 1) := by decide +kernel
theorem dX8_readElement_10 : decode cX8_readElement 10 = .ok (.goto 17, 3) := by decide +kernel
theorem dX8_readElement_13 : decode cX8_readElement 13 = .ok (.aload_n 0, 1) := by decide +kernel
theorem dX8_readElement_14 : decode cX8_readElement 14 = .ok (.bipush 115, 2) := by decide +kernel
theorem dX8_readElement_16 : decode cX8_readElement 16 = .ok (.invokevirtual 182, 3) := by decide +kernel
theorem dX8_readElement_19 : decode cX8_readElement 19 = .ok (.ifCond .eq 7, 3) := by decide +kernel
theorem dX8_readElement_22 : decode cX8_readElement 22 = .ok (.iconst 2, 1) := by decide +kernel
theorem dX8_readElement_23 : decode cX8_readElement 23 = .ok (.goto 4, 3) := by decide +kernel
theorem dX8_readElement_26 : decode cX8_readElement 26 = .ok (.iconst 0, 1) := by decide +kernel
theorem dX8_readElement_27 : decode cX8_readElement 27 = .ok (.istore_n 2, 1) := by decide +kernel
theorem dX8_readElement_28 : decode cX8_readElement 28 = .ok (.aload_n 0, 1) := by decide +kernel
theorem dX8_readElement_29 : decode cX8_readElement 29 = .ok (.getfield 29, 3) := by decide +kernel
theorem dX8_readElement_32 : decode cX8_readElement 32 = .ok (.iload_n 1, 1) := by decide +kernel
theorem dX8_readElement_33 : decode cX8_readElement 33 = .ok (.iconst 0, 1) := by decide +kernel
theorem dX8_readElement_34 : decode cX8_readElement 34 = .ok (.iadd, 1) := by decide +kernel
theorem dX8_readElement_35 : decode cX8_readElement 35 = .ok (.iload_n 2, 1) := by decide +kernel
theorem dX8_readElement_36 : decode cX8_readElement 36 = .ok (.iastore, 1) := by decide +kernel
theorem dX8_readElement_37 : decode cX8_readElement 37 = .ok (.iload_n 2, 1) := by decide +kernel
theorem dX8_readElement_38 : decode cX8_readElement 38 = .ok (.ifCond .eq 69, 3) := by decide +kernel
theorem dX8_readElement_41 : decode cX8_readElement 41 = .ok (.aload_n 0, 1) := by decide +kernel
theorem dX8_readElement_42 : decode cX8_readElement 42 = .ok (.invokevirtual 171, 3) := by decide +kernel
theorem dX8_readElement_45 : decode cX8_readElement 45 = .ok (.i2l, 1) := by decide +kernel
theorem dX8_readElement_46 : decode cX8_readElement 46 = .ok (.ldc2_w 188, 3) := by decide +kernel
theorem dX8_readElement_49 : decode cX8_readElement 49 = .ok (.ldc2_w 177, 3) := by decide +kernel
theorem dX8_readElement_52 : decode cX8_readElement 52 = .ok (.invokestatic 64, 3) := by decide +kernel
theorem dX8_readElement_55 : decode cX8_readElement 55 = .ok (.ifCond .ne 5, 3) := by decide +kernel
theorem dX8_readElement_58 : decode cX8_readElement 58 = .ok (.iconst 0, 1) := by decide +kernel
theorem dX8_readElement_59 : decode cX8_readElement 59 = .ok (.ireturn, 1) := by decide +kernel
theorem dX8_readElement_60 : decode cX8_readElement 60 = .ok (.aload_n 0, 1) := by decide +kernel
theorem dX8_readElement_61 : decode cX8_readElement 61 = .ok (.getfield 29, 3) := by decide +kernel
theorem dX8_readElement_64 : decode cX8_readElement 64 = .ok (.iload_n 1, 1) := by decide +kernel
theorem dX8_readElement_65 : decode cX8_readElement 65 = .ok (.iconst 1, 1) := by decide +kernel
theorem dX8_readElement_66 : decode cX8_readElement 66 = .ok (.iadd, 1) := by decide +kernel
theorem dX8_readElement_67 : decode cX8_readElement 67 = .ok (.iconst 1, 1) := by decide +kernel
theorem dX8_readElement_68 : decode cX8_readElement 68 = .ok (.iastore, 1) := by decide +kernel
theorem dX8_readElement_69 : decode cX8_readElement 69 = .ok (.aload_n 0, 1) := by decide +kernel
theorem dX8_readElement_70 : decode cX8_readElement 70 = .ok (.getfield 29, 3) := by decide +kernel
theorem dX8_readElement_73 : decode cX8_readElement 73 = .ok (.iload_n 1, 1) := by decide +kernel
theorem dX8_readElement_74 : decode cX8_readElement 74 = .ok (.iconst 2, 1) := by decide +kernel
theorem dX8_readElement_75 : decode cX8_readElement 75 = .ok (.iadd, 1) := by decide +kernel
theorem dX8_readElement_76 : decode cX8_readElement 76 = .ok (.iconst (-1), 1) := by decide +kernel
theorem dX8_readElement_77 : decode cX8_readElement 77 = .ok (.iastore, 1) := by decide +kernel
theorem dX8_readElement_78 : decode cX8_readElement 78 = .ok (.aload_n 0, 1) := by decide +kernel
theorem dX8_readElement_79 : decode cX8_readElement 79 = .ok (.getfield 29, 3) := by decide +kernel
theorem dX8_readElement_82 : decode cX8_readElement 82 = .ok (.iload_n 1, 1) := by decide +kernel
theorem dX8_readElement_83 : decode cX8_readElement 83 = .ok (.iconst 2, 1) := by decide +kernel
theorem dX8_readElement_84 : decode cX8_readElement 84 = .ok (.iadd, 1) := by decide +kernel
theorem dX8_readElement_85 : decode cX8_readElement 85 = .ok (.iconst 1, 1) := by decide +kernel
theorem dX8_readElement_86 : decode cX8_readElement 86 = .ok (.iadd, 1) := by decide +kernel
theorem dX8_readElement_87 : decode cX8_readElement 87 = .ok (.aload_n 0, 1) := by decide +kernel
theorem dX8_readElement_88 : decode cX8_readElement 88 = .ok (.invokevirtual 171, 3) := by decide +kernel
theorem dX8_readElement_91 : decode cX8_readElement 91 = .ok (.bipush 48, 2) := by decide +kernel
theorem dX8_readElement_93 : decode cX8_readElement 93 = .ok (.isub, 1) := by decide +kernel
theorem dX8_readElement_94 : decode cX8_readElement 94 = .ok (.iastore, 1) := by decide +kernel
theorem dX8_readElement_95 : decode cX8_readElement 95 = .ok (.aload_n 0, 1) := by decide +kernel
theorem dX8_readElement_96 : decode cX8_readElement 96 = .ok (.dup, 1) := by decide +kernel
theorem dX8_readElement_97 : decode cX8_readElement 97 = .ok (.getfield 168, 3) := by decide +kernel
theorem dX8_readElement_100 : decode cX8_readElement 100 = .ok (.iconst 1, 1) := by decide +kernel
theorem dX8_readElement_101 : decode cX8_readElement 101 = .ok (.iadd, 1) := by decide +kernel
theorem dX8_readElement_102 : decode cX8_readElement 102 = .ok (.putfield 168, 3) := by decide +kernel
theorem dX8_readElement_105 : decode cX8_readElement 105 = .ok (.iconst 1, 1) := by decide +kernel
theorem dX8_readElement_106 : decode cX8_readElement 106 = .ok (.ireturn, 1) := by decide +kernel
theorem dX8_readElement_107 : decode cX8_readElement 107 = .ok (.iconst 1, 1) := by decide +kernel
theorem dX8_readElement_108 : decode cX8_readElement 108 = .ok (.istore_n 3, 1) := by decide +kernel
theorem dX8_readElement_109 : decode cX8_readElement 109 = .ok (.iload_n 3, 1) := by decide +kernel
theorem dX8_readElement_110 : decode cX8_readElement 110 = .ok (.ifCond .eq 68, 3) := by decide +kernel
theorem dX8_readElement_113 : decode cX8_readElement 113 = .ok (.aload_n 0, 1) := by decide +kernel
theorem dX8_readElement_114 : decode cX8_readElement 114 = .ok (.iload_n 1, 1) := by decide +kernel
theorem dX8_readElement_115 : decode cX8_readElement 115 = .ok (.iconst 2, 1) := by decide +kernel
theorem dX8_readElement_116 : decode cX8_readElement 116 = .ok (.iadd, 1) := by decide +kernel
theorem dX8_readElement_117 : decode cX8_readElement 117 = .ok (.iconst 3, 1) := by decide +kernel
theorem dX8_readElement_118 : decode cX8_readElement 118 = .ok (.aload_n 0, 1) := by decide +kernel
theorem dX8_readElement_119 : decode cX8_readElement 119 = .ok (.getfield 29, 3) := by decide +kernel
theorem dX8_readElement_122 : decode cX8_readElement 122 = .ok (.iload_n 1, 1) := by decide +kernel
theorem dX8_readElement_123 : decode cX8_readElement 123 = .ok (.iconst 1, 1) := by decide +kernel
theorem dX8_readElement_124 : decode cX8_readElement 124 = .ok (.iadd, 1) := by decide +kernel
theorem dX8_readElement_125 : decode cX8_readElement 125 = .ok (.iaload, 1) := by decide +kernel
theorem dX8_readElement_126 : decode cX8_readElement 126 = .ok (.imul, 1) := by decide +kernel
theorem dX8_readElement_127 : decode cX8_readElement 127 = .ok (.iadd, 1) := by decide +kernel
theorem dX8_readElement_128 : decode cX8_readElement 128 = .ok (.invokevirtual 190, 3) := by decide +kernel
theorem dX8_readElement_131 : decode cX8_readElement 131 = .ok (.ifCond .ne 5, 3) := by decide +kernel
theorem dX8_readElement_134 : decode cX8_readElement 134 = .ok (.iconst 0, 1) := by decide +kernel
theorem dX8_readElement_135 : decode cX8_readElement 135 = .ok (.ireturn, 1) := by decide +kernel
theorem dX8_readElement_136 : decode cX8_readElement 136 = .ok (.aload_n 0, 1) := by decide +kernel
theorem dX8_readElement_137 : decode cX8_readElement 137 = .ok (.getfield 29, 3) := by decide +kernel
theorem dX8_readElement_140 : decode cX8_readElement 140 = .ok (.iload_n 1, 1) := by decide +kernel
theorem dX8_readElement_141 : decode cX8_readElement 141 = .ok (.iconst 1, 1) := by decide +kernel
theorem dX8_readElement_142 : decode cX8_readElement 142 = .ok (.iadd, 1) := by decide +kernel
theorem dX8_readElement_143 : decode cX8_readElement 143 = .ok (.dup2, 1) := by decide +kernel
theorem dX8_readElement_144 : decode cX8_readElement 144 = .ok (.iaload, 1) := by decide +kernel
theorem dX8_readElement_145 : decode cX8_readElement 145 = .ok (.iconst 1, 1) := by decide +kernel
theorem dX8_readElement_146 : decode cX8_readElement 146 = .ok (.iadd, 1) := by decide +kernel
theorem dX8_readElement_147 : decode cX8_readElement 147 = .ok (.iastore, 1) := by decide +kernel
theorem dX8_readElement_148 : decode cX8_readElement 148 = .ok (.aload_n 0, 1) := by decide +kernel
theorem dX8_readElement_149 : decode cX8_readElement 149 = .ok (.getfield 29, 3) := by decide +kernel
theorem dX8_readElement_152 : decode cX8_readElement 152 = .ok (.iload_n 1, 1) := by decide +kernel
theorem dX8_readElement_153 : decode cX8_readElement 153 = .ok (.iconst 1, 1) := by decide +kernel
theorem dX8_readElement_154 : decode cX8_readElement 154 = .ok (.iadd, 1) := by decide +kernel
theorem dX8_readElement_155 : decode cX8_readElement 155 = .ok (.iaload, 1) := by decide +kernel
theorem dX8_readElement_156 : decode cX8_readElement 156 = .ok (.iconst 3, 1) := by decide +kernel
theorem dX8_readElement_157 : decode cX8_readElement 157 = .ok (.if_icmp .ge 16, 3) := by decide +kernel
theorem dX8_readElement_160 : decode cX8_readElement 160 = .ok (.aload_n 0, 1) := by decide +kernel
theorem dX8_readElement_161 : decode cX8_readElement 161 = .ok (.bipush 43, 2) := by decide +kernel
theorem dX8_readElement_163 : decode cX8_readElement 163 = .ok (.invokevirtual 182, 3) := by decide +kernel
theorem dX8_readElement_166 : decode cX8_readElement 166 = .ok (.ifCond .eq 7, 3) := by decide +kernel
theorem dX8_readElement_169 : decode cX8_readElement 169 = .ok (.iconst 1, 1) := by decide +kernel
theorem dX8_readElement_170 : decode cX8_readElement 170 = .ok (.goto 4, 3) := by decide +kernel
theorem dX8_readElement_173 : decode cX8_readElement 173 = .ok (.iconst 0, 1) := by decide +kernel
theorem dX8_readElement_174 : decode cX8_readElement 174 = .ok (.istore_n 3, 1) := by decide +kernel
theorem dX8_readElement_175 : decode cX8_readElement 175 = .ok (.goto (-66), 3) := by decide +kernel
theorem dX8_readElement_178 : decode cX8_readElement 178 = .ok (.iconst 1, 1) := by decide +kernel
theorem dX8_readElement_179 : decode cX8_readElement 179 = .ok (.ireturn, 1) := by decide +kernel
theorem dX8_readText_0 : decode cX8_readText 0 = .ok (.iconst 0, 1) := by decide +kernel
theorem dX8_readText_1 : decode cX8_readText 1 = .ok (.istore_n 1, 1) := by decide +kernel
theorem dX8_readText_2 : decode cX8_readText 2 = .ok (.iload_n 1, 1) := by decide +kernel
theorem dX8_readText_3 : decode cX8_readText 3 = .ok (.sipush 233, 3) := by decide +kernel
theorem dX8_readText_6 : decode cX8_readText 6 = .ok (.if_icmp .ge 16, 3) := by decide +kernel
theorem dX8_readText_9 : decode cX8_readText 9 = .ok (.aload_n 0, 1) := by decide +kernel
theorem dX8_readText_10 : decode cX8_readText 10 = .ok (.getfield 29, 3) := by decide +kernel
theorem dX8_readText_13 : decode cX8_readText 13 = .ok (.iload_n 1, 1) := by decide +kernel
theorem dX8_readText_14 : decode cX8_readText 14 = .ok (.iconst 0, 1) := by decide +kernel
theorem dX8_readText_15 : decode cX8_readText 15 = .ok (.iastore, 1) := by decide +kernel
theorem dX8_readText_16 : decode cX8_readText 16 = .ok (.iinc 1 1, 3) := by decide +kernel
theorem dX8_readText_19 : decode cX8_readText 19 = .ok (.goto (-17), 3) := by decide +kernel
theorem dX8_readText_22 : decode cX8_readText 22 = .ok (.aload_n 0, 1) := by decide +kernel
theorem dX8_readText_23 : decode cX8_readText 23 = .ok (.iconst 0, 1) := by decide +kernel
theorem dX8_readText_24 : decode cX8_readText 24 = .ok (.putfield 168, 3) := by decide +kernel
theorem dX8_readText_27 : decode cX8_readText 27 = .ok (.iconst 1, 1) := by decide +kernel
theorem dX8_readText_28 : decode cX8_readText 28 = .ok (.istore_n 1, 1) := by decide +kernel
theorem dX8_readText_29 : decode cX8_readText 29 = .ok (.iload_n 1, 1) := by decide +kernel
theorem dX8_readText_30 : decode cX8_readText 30 = .ok (.ifCond .eq 66, 3) := by decide +kernel
theorem dX8_readText_33 : decode cX8_readText 33 = .ok (.aload_n 0, 1) := by decide +kernel
theorem dX8_readText_34 : decode cX8_readText 34 = .ok (.bipush 17, 2) := by decide +kernel
theorem dX8_readText_36 : decode cX8_readText 36 = .ok (.bipush 18, 2) := by decide +kernel
theorem dX8_readText_38 : decode cX8_readText 38 = .ok (.aload_n 0, 1) := by decide +kernel
theorem dX8_readText_39 : decode cX8_readText 39 = .ok (.getfield 29, 3) := by decide +kernel
theorem dX8_readText_42 : decode cX8_readText 42 = .ok (.iconst 0, 1) := by decide +kernel
theorem dX8_readText_43 : decode cX8_readText 43 = .ok (.iaload, 1) := by decide +kernel
theorem dX8_readText_44 : decode cX8_readText 44 = .ok (.imul, 1) := by decide +kernel
theorem dX8_readText_45 : decode cX8_readText 45 = .ok (.iadd, 1) := by decide +kernel
theorem dX8_readText_46 : decode cX8_readText 46 = .ok (.invokevirtual 193, 3) := by decide +kernel
theorem dX8_readText_49 : decode cX8_readText 49 = .ok (.ifCond .ne 8, 3) := by decide +kernel
theorem dX8_readText_52 : decode cX8_readText 52 = .ok (.aload_n 0, 1) := by decide +kernel
theorem dX8_readText_53 : decode cX8_readText 53 = .ok (.getfield 168, 3) := by decide +kernel
theorem dX8_readText_56 : decode cX8_readText 56 = .ok (.ireturn, 1) := by decide +kernel
theorem dX8_readText_57 : decode cX8_readText 57 = .ok (.aload_n 0, 1) := by decide +kernel
theorem dX8_readText_58 : decode cX8_readText 58 = .ok (.getfield 29, 3) := by decide +kernel
theorem dX8_readText_61 : decode cX8_readText 61 = .ok (.iconst 0, 1) := by decide +kernel
theorem dX8_readText_62 : decode cX8_readText 62 = .ok (.dup2, 1) := by decide +kernel
theorem dX8_readText_63 : decode cX8_readText 63 = .ok (.iaload, 1) := by decide +kernel
theorem dX8_readText_64 : decode cX8_readText 64 = .ok (.iconst 1, 1) := by decide +kernel
theorem dX8_readText_65 : decode cX8_readText 65 = .ok (.iadd, 1) := by decide +kernel
theorem dX8_readText_66 : decode cX8_readText 66 = .ok (.iastore, 1) := by decide +kernel
theorem dX8_readText_67 : decode cX8_readText 67 = .ok (.aload_n 0, 1) := by decide +kernel
theorem dX8_readText_68 : decode cX8_readText 68 = .ok (.getfield 29, 3) := by decide +kernel
theorem dX8_readText_71 : decode cX8_readText 71 = .ok (.iconst 0, 1) := by decide +kernel
theorem dX8_readText_72 : decode cX8_readText 72 = .ok (.iaload, 1) := by decide +kernel
theorem dX8_readText_73 : decode cX8_readText 73 = .ok (.bipush 12, 2) := by decide +kernel
theorem dX8_readText_75 : decode cX8_readText 75 = .ok (.if_icmp .ge 16, 3) := by decide +kernel
theorem dX8_readText_78 : decode cX8_readText 78 = .ok (.aload_n 0, 1) := by decide +kernel
theorem dX8_readText_79 : decode cX8_readText 79 = .ok (.bipush 59, 2) := by decide +kernel
theorem dX8_readText_81 : decode cX8_readText 81 = .ok (.invokevirtual 182, 3) := by decide +kernel
theorem dX8_readText_84 : decode cX8_readText 84 = .ok (.ifCond .eq 7, 3) := by decide +kernel
theorem dX8_readText_87 : decode cX8_readText 87 = .ok (.iconst 1, 1) := by decide +kernel
theorem dX8_readText_88 : decode cX8_readText 88 = .ok (.goto 4, 3) := by decide +kernel
theorem dX8_readText_91 : decode cX8_readText 91 = .ok (.iconst 0, 1) := by decide +kernel
theorem dX8_readText_92 : decode cX8_readText 92 = .ok (.istore_n 1, 1) := by decide +kernel
theorem dX8_readText_93 : decode cX8_readText 93 = .ok (.goto (-64), 3) := by decide +kernel
theorem dX8_readText_96 : decode cX8_readText 96 = .ok (.aload_n 0, 1) := by decide +kernel
theorem dX8_readText_97 : decode cX8_readText 97 = .ok (.getfield 168, 3) := by decide +kernel
theorem dX8_readText_100 : decode cX8_readText 100 = .ok (.aload_n 0, 1) := by decide +kernel
theorem dX8_readText_101 : decode cX8_readText 101 = .ok (.getfield 161, 3) := by decide +kernel
theorem dX8_readText_104 : decode cX8_readText 104 = .ok (.if_icmp .ge 10, 3) := by decide +kernel
theorem dX8_readText_107 : decode cX8_readText 107 = .ok (.aload_n 0, 1) := by decide +kernel
theorem dX8_readText_108 : decode cX8_readText 108 = .ok (.getfield 168, 3) := by decide +kernel
theorem dX8_readText_111 : decode cX8_readText 111 = .ok (.goto 4, 3) := by decide +kernel
theorem dX8_readText_114 : decode cX8_readText 114 = .ok (.iconst (-1), 1) := by decide +kernel
theorem dX8_readText_115 : decode cX8_readText 115 = .ok (.ireturn, 1) := by decide +kernel
theorem dX8_errorPosition_0 : decode cX8_errorPosition 0 = .ok (.aload_n 0, 1) := by decide +kernel
theorem dX8_errorPosition_1 : decode cX8_errorPosition 1 = .ok (.iconst 0, 1) := by decide +kernel
theorem dX8_errorPosition_2 : decode cX8_errorPosition 2 = .ok (.putfield 56, 3) := by decide +kernel
theorem dX8_errorPosition_5 : decode cX8_errorPosition 5 = .ok (.aload_n 0, 1) := by decide +kernel
theorem dX8_errorPosition_6 : decode cX8_errorPosition 6 = .ok (.invokevirtual 196, 3) := by decide +kernel
theorem dX8_errorPosition_9 : decode cX8_errorPosition 9 = .ok (.ireturn, 1) := by decide +kernel
theorem dX8_about_0 : decode cX8_about 0 = .ok (.aload_n 0, 1) := by decide +kernel
theorem dX8_about_1 : decode cX8_about 1 = .ok (.iload_n 1, 1) := by decide +kernel
theorem dX8_about_2 : decode cX8_about 2 = .ok (.i2l, 1) := by decide +kernel
theorem dX8_about_3 : decode cX8_about 3 = .ok (.lconst 0, 1) := by decide +kernel
theorem dX8_about_4 : decode cX8_about 4 = .ok (.ldc2_w 199, 3) := by decide +kernel
theorem dX8_about_7 : decode cX8_about 7 = .ok (.invokestatic 64, 3) := by decide +kernel
theorem dX8_about_10 : decode cX8_about 10 = .ok (.ifCond .eq 7, 3) := by decide +kernel
theorem dX8_about_13 : decode cX8_about 13 = .ok (.iconst 0, 1) := by decide +kernel
theorem dX8_about_14 : decode cX8_about 14 = .ok (.goto 4, 3) := by decide +kernel
theorem dX8_about_17 : decode cX8_about 17 = .ok (.iconst 1, 1) := by decide +kernel
theorem dX8_about_18 : decode cX8_about 18 = .ok (.invokevirtual 164, 3) := by decide +kernel
theorem dX8_about_21 : decode cX8_about 21 = .ok (.ifCond .eq 5, 3) := by decide +kernel
theorem dX8_about_24 : decode cX8_about 24 = .ok (.iconst 0, 1) := by decide +kernel
theorem dX8_about_25 : decode cX8_about 25 = .ok (.ireturn, 1) := by decide +kernel
theorem dX8_about_26 : decode cX8_about 26 = .ok (.iconst 0, 1) := by decide +kernel
theorem dX8_about_27 : decode cX8_about 27 = .ok (.istore_n 2, 1) := by decide +kernel
theorem dX8_about_28 : decode cX8_about 28 = .ok (.iconst 0, 1) := by decide +kernel
theorem dX8_about_29 : decode cX8_about 29 = .ok (.istore_n 3, 1) := by decide +kernel
theorem dX8_about_30 : decode cX8_about 30 = .ok (.iconst 0, 1) := by decide +kernel
theorem dX8_about_31 : decode cX8_about 31 = .ok (.istore 4, 2) := by decide +kernel
theorem dX8_about_33 : decode cX8_about 33 = .ok (.iload 4, 2) := by decide +kernel
theorem dX8_about_35 : decode cX8_about 35 = .ok (.aload_n 0, 1) := by decide +kernel
theorem dX8_about_36 : decode cX8_about 36 = .ok (.getfield 13, 3) := by decide +kernel
theorem dX8_about_39 : decode cX8_about 39 = .ok (.iconst 0, 1) := by decide +kernel
theorem dX8_about_40 : decode cX8_about 40 = .ok (.iaload, 1) := by decide +kernel
theorem dX8_about_41 : decode cX8_about 41 = .ok (.if_icmp .ge 112, 3) := by decide +kernel
theorem dX8_about_44 : decode cX8_about 44 = .ok (.iload_n 2, 1) := by decide +kernel
theorem dX8_about_45 : decode cX8_about 45 = .ok (.aload_n 0, 1) := by decide +kernel
theorem dX8_about_46 : decode cX8_about 46 = .ok (.getfield 13, 3) := by decide +kernel
theorem dX8_about_49 : decode cX8_about 49 = .ok (.iload 4, 2) := by decide +kernel
theorem dX8_about_51 : decode cX8_about 51 = .ok (.invokestatic 72, 3) := by decide +kernel
theorem dX8_about_54 : decode cX8_about 54 = .ok (.iconst 0, 1) := by decide +kernel
theorem dX8_about_55 : decode cX8_about 55 = .ok (.iadd, 1) := by decide +kernel
theorem dX8_about_56 : decode cX8_about 56 = .ok (.iaload, 1) := by decide +kernel
theorem dX8_about_57 : decode cX8_about 57 = .ok (.iadd, 1) := by decide +kernel
theorem dX8_about_58 : decode cX8_about 58 = .ok (.istore_n 2, 1) := by decide +kernel
theorem dX8_about_59 : decode cX8_about 59 = .ok (.aload_n 0, 1) := by decide +kernel
theorem dX8_about_60 : decode cX8_about 60 = .ok (.aload_n 0, 1) := by decide +kernel
theorem dX8_about_61 : decode cX8_about 61 = .ok (.getfield 13, 3) := by decide +kernel
theorem dX8_about_64 : decode cX8_about 64 = .ok (.iload 4, 2) := by decide +kernel
theorem dX8_about_66 : decode cX8_about 66 = .ok (.invokevirtual 146, 3) := by decide +kernel
theorem dX8_about_69 : decode cX8_about 69 = .ok (.pop, 1) := by decide +kernel
theorem dX8_about_70 : decode cX8_about 70 = .ok (.iconst 0, 1) := by decide +kernel
theorem dX8_about_71 : decode cX8_about 71 = .ok (.istore 5, 2) := by decide +kernel
theorem dX8_about_73 : decode cX8_about 73 = .ok (.iload 5, 2) := by decide +kernel
theorem dX8_about_75 : decode cX8_about 75 = .ok (.aload_n 0, 1) := by decide +kernel
theorem dX8_about_76 : decode cX8_about 76 = .ok (.getfield 13, 3) := by decide +kernel
theorem dX8_about_79 : decode cX8_about 79 = .ok (.iload 4, 2) := by decide +kernel
theorem dX8_about_81 : decode cX8_about 81 = .ok (.invokestatic 72, 3) := by decide +kernel
theorem dX8_about_84 : decode cX8_about 84 = .ok (.iconst 0, 1) := by decide +kernel
theorem dX8_about_85 : decode cX8_about 85 = .ok (.iadd, 1) := by decide +kernel
theorem dX8_about_86 : decode cX8_about 86 = .ok (.iaload, 1) := by decide +kernel
theorem dX8_about_87 : decode cX8_about 87 = .ok (.if_icmp .ge 60, 3) := by decide +kernel
theorem dX8_about_90 : decode cX8_about 90 = .ok (.iconst 0, 1) := by decide +kernel
theorem dX8_about_91 : decode cX8_about 91 = .ok (.istore 6, 2) := by decide +kernel
theorem dX8_about_93 : decode cX8_about 93 = .ok (.iload 6, 2) := by decide +kernel
theorem dX8_about_95 : decode cX8_about 95 = .ok (.aload_n 0, 1) := by decide +kernel
theorem dX8_about_96 : decode cX8_about 96 = .ok (.getfield 13, 3) := by decide +kernel
theorem dX8_about_99 : decode cX8_about 99 = .ok (.iload 4, 2) := by decide +kernel
theorem dX8_about_101 : decode cX8_about 101 = .ok (.iload 5, 2) := by decide +kernel
theorem dX8_about_103 : decode cX8_about 103 = .ok (.invokestatic 60, 3) := by decide +kernel
theorem dX8_about_106 : decode cX8_about 106 = .ok (.iconst 1, 1) := by decide +kernel
theorem dX8_about_107 : decode cX8_about 107 = .ok (.iadd, 1) := by decide +kernel
theorem dX8_about_108 : decode cX8_about 108 = .ok (.iaload, 1) := by decide +kernel
theorem dX8_about_109 : decode cX8_about 109 = .ok (.if_icmp .ge 32, 3) := by decide +kernel
theorem dX8_about_112 : decode cX8_about 112 = .ok (.iload_n 3, 1) := by decide +kernel
theorem dX8_about_113 : decode cX8_about 113 = .ok (.aload_n 0, 1) := by decide +kernel
theorem dX8_about_114 : decode cX8_about 114 = .ok (.getfield 35, 3) := by decide +kernel
theorem dX8_about_117 : decode cX8_about 117 = .ok (.iconst 3, 1) := by decide +kernel
theorem dX8_about_118 : decode cX8_about 118 = .ok (.iload 5, 2) := by decide +kernel
theorem dX8_about_120 : decode cX8_about 120 = .ok (.imul, 1) := by decide +kernel
theorem dX8_about_121 : decode cX8_about 121 = .ok (.iload 6, 2) := by decide +kernel
theorem dX8_about_123 : decode cX8_about 123 = .ok (.iadd, 1) := by decide +kernel
theorem dX8_about_124 : decode cX8_about 124 = .ok (.iaload, 1) := by decide +kernel
theorem dX8_about_125 : decode cX8_about 125 = .ok (.ifCond .le 7, 3) := by decide +kernel
theorem dX8_about_128 : decode cX8_about 128 = .ok (.iconst 1, 1) := by decide +kernel
theorem dX8_about_129 : decode cX8_about 129 = .ok (.goto 4, 3) := by decide +kernel
theorem dX8_about_132 : decode cX8_about 132 = .ok (.iconst 0, 1) := by decide +kernel
theorem dX8_about_133 : decode cX8_about 133 = .ok (.iadd, 1) := by decide +kernel
theorem dX8_about_134 : decode cX8_about 134 = .ok (.istore_n 3, 1) := by decide +kernel
theorem dX8_about_135 : decode cX8_about 135 = .ok (.iinc 6 1, 3) := by decide +kernel
theorem dX8_about_138 : decode cX8_about 138 = .ok (.goto (-45), 3) := by decide +kernel
theorem dX8_about_141 : decode cX8_about 141 = .ok (.iinc 5 1, 3) := by decide +kernel
theorem dX8_about_144 : decode cX8_about 144 = .ok (.goto (-71), 3) := by decide +kernel
theorem dX8_about_147 : decode cX8_about 147 = .ok (.iinc 4 1, 3) := by decide +kernel
theorem dX8_about_150 : decode cX8_about 150 = .ok (.goto (-117), 3) := by decide +kernel
theorem dX8_about_153 : decode cX8_about 153 = .ok (.iload_n 1, 1) := by decide +kernel
theorem dX8_about_154 : decode cX8_about 154 = .ok (.tableswitch 72 0 4 #[34, 41, 51, 61, 63], 34) := by decide +kernel
theorem dX8_about_188 : decode cX8_about 188 = .ok (.aload_n 0, 1) := by decide +kernel
theorem dX8_about_189 : decode cX8_about 189 = .ok (.getfield 13, 3) := by decide +kernel
theorem dX8_about_192 : decode cX8_about 192 = .ok (.iconst 0, 1) := by decide +kernel
theorem dX8_about_193 : decode cX8_about 193 = .ok (.iaload, 1) := by decide +kernel
theorem dX8_about_194 : decode cX8_about 194 = .ok (.ireturn, 1) := by decide +kernel
theorem dX8_about_195 : decode cX8_about 195 = .ok (.aload_n 0, 1) := by decide +kernel
theorem dX8_about_196 : decode cX8_about 196 = .ok (.getfield 13, 3) := by decide +kernel
theorem dX8_about_199 : decode cX8_about 199 = .ok (.bipush 17, 2) := by decide +kernel
theorem dX8_about_201 : decode cX8_about 201 = .ok (.invokestatic 201, 3) := by decide +kernel
theorem dX8_about_204 : decode cX8_about 204 = .ok (.ireturn, 1) := by decide +kernel
theorem dX8_about_205 : decode cX8_about 205 = .ok (.aload_n 0, 1) := by decide +kernel
theorem dX8_about_206 : decode cX8_about 206 = .ok (.getfield 13, 3) := by decide +kernel
theorem dX8_about_209 : decode cX8_about 209 = .ok (.bipush 16, 2) := by decide +kernel
theorem dX8_about_211 : decode cX8_about 211 = .ok (.invokestatic 201, 3) := by decide +kernel
theorem dX8_about_214 : decode cX8_about 214 = .ok (.ireturn, 1) := by decide +kernel
theorem dX8_about_215 : decode cX8_about 215 = .ok (.iload_n 2, 1) := by decide +kernel
theorem dX8_about_216 : decode cX8_about 216 = .ok (.ireturn, 1) := by decide +kernel
theorem dX8_about_217 : decode cX8_about 217 = .ok (.aload_n 0, 1) := by decide +kernel
theorem dX8_about_218 : decode cX8_about 218 = .ok (.aload_n 0, 1) := by decide +kernel
theorem dX8_about_219 : decode cX8_about 219 = .ok (.getfield 13, 3) := by decide +kernel
theorem dX8_about_222 : decode cX8_about 222 = .ok (.invokevirtual 204, 3) := by decide +kernel
theorem dX8_about_225 : decode cX8_about 225 = .ok (.ireturn, 1) := by decide +kernel
theorem dX8_about_226 : decode cX8_about 226 = .ok (.iload_n 3, 1) := by decide +kernel
theorem dX8_about_227 : decode cX8_about 227 = .ok (.ireturn, 1) := by decide +kernel
theorem dX8_skater_0 : decode cX8_skater 0 = .ok (.aload_n 0, 1) := by decide +kernel
theorem dX8_skater_1 : decode cX8_skater 1 = .ok (.aload_n 0, 1) := by decide +kernel
theorem dX8_skater_2 : decode cX8_skater 2 = .ok (.getfield 13, 3) := by decide +kernel
theorem dX8_skater_5 : decode cX8_skater 5 = .ok (.iload_n 1, 1) := by decide +kernel
theorem dX8_skater_6 : decode cX8_skater 6 = .ok (.invokestatic 68, 3) := by decide +kernel
theorem dX8_skater_9 : decode cX8_skater 9 = .ok (.ifCond .ne 7, 3) := by decide +kernel
theorem dX8_skater_12 : decode cX8_skater 12 = .ok (.iconst 1, 1) := by decide +kernel
theorem dX8_skater_13 : decode cX8_skater 13 = .ok (.goto 20, 3) := by decide +kernel
theorem dX8_skater_16 : decode cX8_skater 16 = .ok (.iload_n 2, 1) := by decide +kernel
theorem dX8_skater_17 : decode cX8_skater 17 = .ok (.i2l, 1) := by decide +kernel
theorem dX8_skater_18 : decode cX8_skater 18 = .ok (.lconst 0, 1) := by decide +kernel
theorem dX8_skater_19 : decode cX8_skater 19 = .ok (.ldc2_w 208, 3) := by decide +kernel
theorem dX8_skater_22 : decode cX8_skater 22 = .ok (.invokestatic 64, 3) := by decide +kernel
theorem dX8_skater_25 : decode cX8_skater 25 = .ok (.ifCond .eq 7, 3) := by decide +kernel
theorem dX8_skater_28 : decode cX8_skater 28 = .ok (.iconst 0, 1) := by decide +kernel
theorem dX8_skater_29 : decode cX8_skater 29 = .ok (.goto 4, 3) := by decide +kernel
theorem dX8_skater_32 : decode cX8_skater 32 = .ok (.iconst 2, 1) := by decide +kernel
theorem dX8_skater_33 : decode cX8_skater 33 = .ok (.invokevirtual 164, 3) := by decide +kernel
theorem dX8_skater_36 : decode cX8_skater 36 = .ok (.ifCond .eq 5, 3) := by decide +kernel
theorem dX8_skater_39 : decode cX8_skater 39 = .ok (.iconst 0, 1) := by decide +kernel
theorem dX8_skater_40 : decode cX8_skater 40 = .ok (.ireturn, 1) := by decide +kernel
theorem dX8_skater_41 : decode cX8_skater 41 = .ok (.aload_n 0, 1) := by decide +kernel
theorem dX8_skater_42 : decode cX8_skater 42 = .ok (.aload_n 0, 1) := by decide +kernel
theorem dX8_skater_43 : decode cX8_skater 43 = .ok (.getfield 13, 3) := by decide +kernel
theorem dX8_skater_46 : decode cX8_skater 46 = .ok (.invokevirtual 149, 3) := by decide +kernel
theorem dX8_skater_49 : decode cX8_skater 49 = .ok (.aload_n 0, 1) := by decide +kernel
theorem dX8_skater_50 : decode cX8_skater 50 = .ok (.aload_n 0, 1) := by decide +kernel
theorem dX8_skater_51 : decode cX8_skater 51 = .ok (.getfield 13, 3) := by decide +kernel
theorem dX8_skater_54 : decode cX8_skater 54 = .ok (.iload_n 1, 1) := by decide +kernel
theorem dX8_skater_55 : decode cX8_skater 55 = .ok (.invokevirtual 153, 3) := by decide +kernel
theorem dX8_skater_58 : decode cX8_skater 58 = .ok (.istore_n 3, 1) := by decide +kernel
theorem dX8_skater_59 : decode cX8_skater 59 = .ok (.aload_n 0, 1) := by decide +kernel
theorem dX8_skater_60 : decode cX8_skater 60 = .ok (.aload_n 0, 1) := by decide +kernel
theorem dX8_skater_61 : decode cX8_skater 61 = .ok (.getfield 13, 3) := by decide +kernel
theorem dX8_skater_64 : decode cX8_skater 64 = .ok (.iload_n 1, 1) := by decide +kernel
theorem dX8_skater_65 : decode cX8_skater 65 = .ok (.invokevirtual 146, 3) := by decide +kernel
theorem dX8_skater_68 : decode cX8_skater 68 = .ok (.istore 4, 2) := by decide +kernel
theorem dX8_skater_70 : decode cX8_skater 70 = .ok (.iload_n 2, 1) := by decide +kernel
theorem dX8_skater_71 : decode cX8_skater 71 = .ok (.tableswitch 84 0 6 #[41, 53, 58, 63, 68, 71, 73], 41) := by decide +kernel
theorem dX8_skater_112 : decode cX8_skater 112 = .ok (.aload_n 0, 1) := by decide +kernel
theorem dX8_skater_113 : decode cX8_skater 113 = .ok (.getfield 13, 3) := by decide +kernel
theorem dX8_skater_116 : decode cX8_skater 116 = .ok (.iload_n 1, 1) := by decide +kernel
theorem dX8_skater_117 : decode cX8_skater 117 = .ok (.invokestatic 72, 3) := by decide +kernel
theorem dX8_skater_120 : decode cX8_skater 120 = .ok (.iconst 0, 1) := by decide +kernel
theorem dX8_skater_121 : decode cX8_skater 121 = .ok (.iadd, 1) := by decide +kernel
theorem dX8_skater_122 : decode cX8_skater 122 = .ok (.iaload, 1) := by decide +kernel
theorem dX8_skater_123 : decode cX8_skater 123 = .ok (.ireturn, 1) := by decide +kernel
theorem dX8_skater_124 : decode cX8_skater 124 = .ok (.aload_n 0, 1) := by decide +kernel
theorem dX8_skater_125 : decode cX8_skater 125 = .ok (.getfield 129, 3) := by decide +kernel
theorem dX8_skater_128 : decode cX8_skater 128 = .ok (.ireturn, 1) := by decide +kernel
theorem dX8_skater_129 : decode cX8_skater 129 = .ok (.aload_n 0, 1) := by decide +kernel
theorem dX8_skater_130 : decode cX8_skater 130 = .ok (.getfield 143, 3) := by decide +kernel
theorem dX8_skater_133 : decode cX8_skater 133 = .ok (.ireturn, 1) := by decide +kernel
theorem dX8_skater_134 : decode cX8_skater 134 = .ok (.aload_n 0, 1) := by decide +kernel
theorem dX8_skater_135 : decode cX8_skater 135 = .ok (.getfield 132, 3) := by decide +kernel
theorem dX8_skater_138 : decode cX8_skater 138 = .ok (.ireturn, 1) := by decide +kernel
theorem dX8_skater_139 : decode cX8_skater 139 = .ok (.iload 4, 2) := by decide +kernel
theorem dX8_skater_141 : decode cX8_skater 141 = .ok (.ireturn, 1) := by decide +kernel
theorem dX8_skater_142 : decode cX8_skater 142 = .ok (.iload_n 3, 1) := by decide +kernel
theorem dX8_skater_143 : decode cX8_skater 143 = .ok (.ireturn, 1) := by decide +kernel
theorem dX8_skater_144 : decode cX8_skater 144 = .ok (.aload_n 0, 1) := by decide +kernel
theorem dX8_skater_145 : decode cX8_skater 145 = .ok (.getfield 13, 3) := by decide +kernel
theorem dX8_skater_148 : decode cX8_skater 148 = .ok (.iload_n 1, 1) := by decide +kernel
theorem dX8_skater_149 : decode cX8_skater 149 = .ok (.bipush 16, 2) := by decide +kernel
theorem dX8_skater_151 : decode cX8_skater 151 = .ok (.invokestatic 156, 3) := by decide +kernel
theorem dX8_skater_154 : decode cX8_skater 154 = .ok (.ireturn, 1) := by decide +kernel
theorem dX8_skater_155 : decode cX8_skater 155 = .ok (.aload_n 0, 1) := by decide +kernel
theorem dX8_skater_156 : decode cX8_skater 156 = .ok (.getfield 13, 3) := by decide +kernel
theorem dX8_skater_159 : decode cX8_skater 159 = .ok (.iload_n 1, 1) := by decide +kernel
theorem dX8_skater_160 : decode cX8_skater 160 = .ok (.bipush 17, 2) := by decide +kernel
theorem dX8_skater_162 : decode cX8_skater 162 = .ok (.invokestatic 156, 3) := by decide +kernel
theorem dX8_skater_165 : decode cX8_skater 165 = .ok (.ireturn, 1) := by decide +kernel
theorem dX8_element_0 : decode cX8_element 0 = .ok (.aload_n 0, 1) := by decide +kernel
theorem dX8_element_1 : decode cX8_element 1 = .ok (.aload_n 0, 1) := by decide +kernel
theorem dX8_element_2 : decode cX8_element 2 = .ok (.getfield 13, 3) := by decide +kernel
theorem dX8_element_5 : decode cX8_element 5 = .ok (.iload_n 1, 1) := by decide +kernel
theorem dX8_element_6 : decode cX8_element 6 = .ok (.iload_n 2, 1) := by decide +kernel
theorem dX8_element_7 : decode cX8_element 7 = .ok (.invokestatic 76, 3) := by decide +kernel
theorem dX8_element_10 : decode cX8_element 10 = .ok (.ifCond .ne 7, 3) := by decide +kernel
theorem dX8_element_13 : decode cX8_element 13 = .ok (.iconst 1, 1) := by decide +kernel
theorem dX8_element_14 : decode cX8_element 14 = .ok (.goto 20, 3) := by decide +kernel
theorem dX8_element_17 : decode cX8_element 17 = .ok (.iload_n 3, 1) := by decide +kernel
theorem dX8_element_18 : decode cX8_element 18 = .ok (.i2l, 1) := by decide +kernel
theorem dX8_element_19 : decode cX8_element 19 = .ok (.lconst 0, 1) := by decide +kernel
theorem dX8_element_20 : decode cX8_element 20 = .ok (.ldc2_w 210, 3) := by decide +kernel
theorem dX8_element_23 : decode cX8_element 23 = .ok (.invokestatic 64, 3) := by decide +kernel
theorem dX8_element_26 : decode cX8_element 26 = .ok (.ifCond .eq 7, 3) := by decide +kernel
theorem dX8_element_29 : decode cX8_element 29 = .ok (.iconst 0, 1) := by decide +kernel
theorem dX8_element_30 : decode cX8_element 30 = .ok (.goto 4, 3) := by decide +kernel
theorem dX8_element_33 : decode cX8_element 33 = .ok (.iconst 2, 1) := by decide +kernel
theorem dX8_element_34 : decode cX8_element 34 = .ok (.invokevirtual 164, 3) := by decide +kernel
theorem dX8_element_37 : decode cX8_element 37 = .ok (.ifCond .eq 5, 3) := by decide +kernel
theorem dX8_element_40 : decode cX8_element 40 = .ok (.iconst 0, 1) := by decide +kernel
theorem dX8_element_41 : decode cX8_element 41 = .ok (.ireturn, 1) := by decide +kernel
theorem dX8_element_42 : decode cX8_element 42 = .ok (.aload_n 0, 1) := by decide +kernel
theorem dX8_element_43 : decode cX8_element 43 = .ok (.aload_n 0, 1) := by decide +kernel
theorem dX8_element_44 : decode cX8_element 44 = .ok (.getfield 13, 3) := by decide +kernel
theorem dX8_element_47 : decode cX8_element 47 = .ok (.iload_n 1, 1) := by decide +kernel
theorem dX8_element_48 : decode cX8_element 48 = .ok (.iload_n 2, 1) := by decide +kernel
theorem dX8_element_49 : decode cX8_element 49 = .ok (.invokevirtual 135, 3) := by decide +kernel
theorem dX8_element_52 : decode cX8_element 52 = .ok (.iload_n 1, 1) := by decide +kernel
theorem dX8_element_53 : decode cX8_element 53 = .ok (.iload_n 2, 1) := by decide +kernel
theorem dX8_element_54 : decode cX8_element 54 = .ok (.invokestatic 60, 3) := by decide +kernel
theorem dX8_element_57 : decode cX8_element 57 = .ok (.istore 4, 2) := by decide +kernel
theorem dX8_element_59 : decode cX8_element 59 = .ok (.iload_n 3, 1) := by decide +kernel
theorem dX8_element_60 : decode cX8_element 60 = .ok (.tableswitch 115 0 7 #[48, 48, 58, 65, 72, 79, 93, 104], 48) := by decide +kernel
theorem dX8_element_108 : decode cX8_element 108 = .ok (.aload_n 0, 1) := by decide +kernel
theorem dX8_element_109 : decode cX8_element 109 = .ok (.getfield 13, 3) := by decide +kernel
theorem dX8_element_112 : decode cX8_element 112 = .ok (.iload 4, 2) := by decide +kernel
theorem dX8_element_114 : decode cX8_element 114 = .ok (.iload_n 3, 1) := by decide +kernel
theorem dX8_element_115 : decode cX8_element 115 = .ok (.iadd, 1) := by decide +kernel
theorem dX8_element_116 : decode cX8_element 116 = .ok (.iaload, 1) := by decide +kernel
theorem dX8_element_117 : decode cX8_element 117 = .ok (.ireturn, 1) := by decide +kernel
theorem dX8_element_118 : decode cX8_element 118 = .ok (.aload_n 0, 1) := by decide +kernel
theorem dX8_element_119 : decode cX8_element 119 = .ok (.getfield 38, 3) := by decide +kernel
theorem dX8_element_122 : decode cX8_element 122 = .ok (.iload_n 2, 1) := by decide +kernel
theorem dX8_element_123 : decode cX8_element 123 = .ok (.iaload, 1) := by decide +kernel
theorem dX8_element_124 : decode cX8_element 124 = .ok (.ireturn, 1) := by decide +kernel
theorem dX8_element_125 : decode cX8_element 125 = .ok (.aload_n 0, 1) := by decide +kernel
theorem dX8_element_126 : decode cX8_element 126 = .ok (.getfield 41, 3) := by decide +kernel
theorem dX8_element_129 : decode cX8_element 129 = .ok (.iload_n 2, 1) := by decide +kernel
theorem dX8_element_130 : decode cX8_element 130 = .ok (.iaload, 1) := by decide +kernel
theorem dX8_element_131 : decode cX8_element 131 = .ok (.ireturn, 1) := by decide +kernel
theorem dX8_element_132 : decode cX8_element 132 = .ok (.aload_n 0, 1) := by decide +kernel
theorem dX8_element_133 : decode cX8_element 133 = .ok (.getfield 44, 3) := by decide +kernel
theorem dX8_element_136 : decode cX8_element 136 = .ok (.iload_n 2, 1) := by decide +kernel
theorem dX8_element_137 : decode cX8_element 137 = .ok (.iaload, 1) := by decide +kernel
theorem dX8_element_138 : decode cX8_element 138 = .ok (.ireturn, 1) := by decide +kernel
theorem dX8_element_139 : decode cX8_element 139 = .ok (.aload_n 0, 1) := by decide +kernel
theorem dX8_element_140 : decode cX8_element 140 = .ok (.getfield 38, 3) := by decide +kernel
theorem dX8_element_143 : decode cX8_element 143 = .ok (.iload_n 2, 1) := by decide +kernel
theorem dX8_element_144 : decode cX8_element 144 = .ok (.iaload, 1) := by decide +kernel
theorem dX8_element_145 : decode cX8_element 145 = .ok (.aload_n 0, 1) := by decide +kernel
theorem dX8_element_146 : decode cX8_element 146 = .ok (.getfield 44, 3) := by decide +kernel
theorem dX8_element_149 : decode cX8_element 149 = .ok (.iload_n 2, 1) := by decide +kernel
theorem dX8_element_150 : decode cX8_element 150 = .ok (.iaload, 1) := by decide +kernel
theorem dX8_element_151 : decode cX8_element 151 = .ok (.iadd, 1) := by decide +kernel
theorem dX8_element_152 : decode cX8_element 152 = .ok (.ireturn, 1) := by decide +kernel
theorem dX8_element_153 : decode cX8_element 153 = .ok (.aload_n 0, 1) := by decide +kernel
theorem dX8_element_154 : decode cX8_element 154 = .ok (.getfield 13, 3) := by decide +kernel
theorem dX8_element_157 : decode cX8_element 157 = .ok (.iload 4, 2) := by decide +kernel
theorem dX8_element_159 : decode cX8_element 159 = .ok (.bipush 16, 2) := by decide +kernel
theorem dX8_element_161 : decode cX8_element 161 = .ok (.iadd, 1) := by decide +kernel
theorem dX8_element_162 : decode cX8_element 162 = .ok (.iaload, 1) := by decide +kernel
theorem dX8_element_163 : decode cX8_element 163 = .ok (.ireturn, 1) := by decide +kernel
theorem dX8_element_164 : decode cX8_element 164 = .ok (.aload_n 0, 1) := by decide +kernel
theorem dX8_element_165 : decode cX8_element 165 = .ok (.getfield 13, 3) := by decide +kernel
theorem dX8_element_168 : decode cX8_element 168 = .ok (.iload 4, 2) := by decide +kernel
theorem dX8_element_170 : decode cX8_element 170 = .ok (.bipush 17, 2) := by decide +kernel
theorem dX8_element_172 : decode cX8_element 172 = .ok (.iadd, 1) := by decide +kernel
theorem dX8_element_173 : decode cX8_element 173 = .ok (.iaload, 1) := by decide +kernel
theorem dX8_element_174 : decode cX8_element 174 = .ok (.ireturn, 1) := by decide +kernel
theorem dX8_element_175 : decode cX8_element 175 = .ok (.aload_n 0, 1) := by decide +kernel
theorem dX8_element_176 : decode cX8_element 176 = .ok (.getfield 47, 3) := by decide +kernel
theorem dX8_element_179 : decode cX8_element 179 = .ok (.iload_n 2, 1) := by decide +kernel
theorem dX8_element_180 : decode cX8_element 180 = .ok (.iaload, 1) := by decide +kernel
theorem dX8_element_181 : decode cX8_element 181 = .ok (.ireturn, 1) := by decide +kernel
theorem dX8_part_0 : decode cX8_part 0 = .ok (.aload_n 0, 1) := by decide +kernel
theorem dX8_part_1 : decode cX8_part 1 = .ok (.aload_n 0, 1) := by decide +kernel
theorem dX8_part_2 : decode cX8_part 2 = .ok (.getfield 13, 3) := by decide +kernel
theorem dX8_part_5 : decode cX8_part 5 = .ok (.iload_n 1, 1) := by decide +kernel
theorem dX8_part_6 : decode cX8_part 6 = .ok (.iload_n 2, 1) := by decide +kernel
theorem dX8_part_7 : decode cX8_part 7 = .ok (.iload_n 3, 1) := by decide +kernel
theorem dX8_part_8 : decode cX8_part 8 = .ok (.invokestatic 212, 3) := by decide +kernel
theorem dX8_part_11 : decode cX8_part 11 = .ok (.ifCond .ne 7, 3) := by decide +kernel
theorem dX8_part_14 : decode cX8_part 14 = .ok (.iconst 1, 1) := by decide +kernel
theorem dX8_part_15 : decode cX8_part 15 = .ok (.goto 21, 3) := by decide +kernel
theorem dX8_part_18 : decode cX8_part 18 = .ok (.iload 4, 2) := by decide +kernel
theorem dX8_part_20 : decode cX8_part 20 = .ok (.i2l, 1) := by decide +kernel
theorem dX8_part_21 : decode cX8_part 21 = .ok (.lconst 0, 1) := by decide +kernel
theorem dX8_part_22 : decode cX8_part 22 = .ok (.ldc2_w 216, 3) := by decide +kernel
theorem dX8_part_25 : decode cX8_part 25 = .ok (.invokestatic 64, 3) := by decide +kernel
theorem dX8_part_28 : decode cX8_part 28 = .ok (.ifCond .eq 7, 3) := by decide +kernel
theorem dX8_part_31 : decode cX8_part 31 = .ok (.iconst 0, 1) := by decide +kernel
theorem dX8_part_32 : decode cX8_part 32 = .ok (.goto 4, 3) := by decide +kernel
theorem dX8_part_35 : decode cX8_part 35 = .ok (.iconst 2, 1) := by decide +kernel
theorem dX8_part_36 : decode cX8_part 36 = .ok (.invokevirtual 164, 3) := by decide +kernel
theorem dX8_part_39 : decode cX8_part 39 = .ok (.ifCond .eq 5, 3) := by decide +kernel
theorem dX8_part_42 : decode cX8_part 42 = .ok (.iconst 0, 1) := by decide +kernel
theorem dX8_part_43 : decode cX8_part 43 = .ok (.ireturn, 1) := by decide +kernel
theorem dX8_part_44 : decode cX8_part 44 = .ok (.aload_n 0, 1) := by decide +kernel
theorem dX8_part_45 : decode cX8_part 45 = .ok (.aload_n 0, 1) := by decide +kernel
theorem dX8_part_46 : decode cX8_part 46 = .ok (.getfield 13, 3) := by decide +kernel
theorem dX8_part_49 : decode cX8_part 49 = .ok (.iload_n 1, 1) := by decide +kernel
theorem dX8_part_50 : decode cX8_part 50 = .ok (.iload_n 2, 1) := by decide +kernel
theorem dX8_part_51 : decode cX8_part 51 = .ok (.invokevirtual 135, 3) := by decide +kernel
theorem dX8_part_54 : decode cX8_part 54 = .ok (.iload 4, 2) := by decide +kernel
theorem dX8_part_56 : decode cX8_part 56 = .ok (.iconst 3, 1) := by decide +kernel
theorem dX8_part_57 : decode cX8_part 57 = .ok (.if_icmp .ge 20, 3) := by decide +kernel
theorem dX8_part_60 : decode cX8_part 60 = .ok (.aload_n 0, 1) := by decide +kernel
theorem dX8_part_61 : decode cX8_part 61 = .ok (.getfield 13, 3) := by decide +kernel
theorem dX8_part_64 : decode cX8_part 64 = .ok (.iload_n 1, 1) := by decide +kernel
theorem dX8_part_65 : decode cX8_part 65 = .ok (.iload_n 2, 1) := by decide +kernel
theorem dX8_part_66 : decode cX8_part 66 = .ok (.iload_n 3, 1) := by decide +kernel
theorem dX8_part_67 : decode cX8_part 67 = .ok (.invokestatic 102, 3) := by decide +kernel
theorem dX8_part_70 : decode cX8_part 70 = .ok (.iload 4, 2) := by decide +kernel
theorem dX8_part_72 : decode cX8_part 72 = .ok (.iadd, 1) := by decide +kernel
theorem dX8_part_73 : decode cX8_part 73 = .ok (.iaload, 1) := by decide +kernel
theorem dX8_part_74 : decode cX8_part 74 = .ok (.goto 32, 3) := by decide +kernel
theorem dX8_part_77 : decode cX8_part 77 = .ok (.iload 4, 2) := by decide +kernel
theorem dX8_part_79 : decode cX8_part 79 = .ok (.iconst 3, 1) := by decide +kernel
theorem dX8_part_80 : decode cX8_part 80 = .ok (.if_icmp .ne 16, 3) := by decide +kernel
theorem dX8_part_83 : decode cX8_part 83 = .ok (.aload_n 0, 1) := by decide +kernel
theorem dX8_part_84 : decode cX8_part 84 = .ok (.getfield 32, 3) := by decide +kernel
theorem dX8_part_87 : decode cX8_part 87 = .ok (.iconst 3, 1) := by decide +kernel
theorem dX8_part_88 : decode cX8_part 88 = .ok (.iload_n 2, 1) := by decide +kernel
theorem dX8_part_89 : decode cX8_part 89 = .ok (.imul, 1) := by decide +kernel
theorem dX8_part_90 : decode cX8_part 90 = .ok (.iload_n 3, 1) := by decide +kernel
theorem dX8_part_91 : decode cX8_part 91 = .ok (.iadd, 1) := by decide +kernel
theorem dX8_part_92 : decode cX8_part 92 = .ok (.iaload, 1) := by decide +kernel
theorem dX8_part_93 : decode cX8_part 93 = .ok (.goto 13, 3) := by decide +kernel
theorem dX8_part_96 : decode cX8_part 96 = .ok (.aload_n 0, 1) := by decide +kernel
theorem dX8_part_97 : decode cX8_part 97 = .ok (.getfield 35, 3) := by decide +kernel
theorem dX8_part_100 : decode cX8_part 100 = .ok (.iconst 3, 1) := by decide +kernel
theorem dX8_part_101 : decode cX8_part 101 = .ok (.iload_n 2, 1) := by decide +kernel
theorem dX8_part_102 : decode cX8_part 102 = .ok (.imul, 1) := by decide +kernel
theorem dX8_part_103 : decode cX8_part 103 = .ok (.iload_n 3, 1) := by decide +kernel
theorem dX8_part_104 : decode cX8_part 104 = .ok (.iadd, 1) := by decide +kernel
theorem dX8_part_105 : decode cX8_part 105 = .ok (.iaload, 1) := by decide +kernel
theorem dX8_part_106 : decode cX8_part 106 = .ok (.ireturn, 1) := by decide +kernel
theorem dX8_setting_0 : decode cX8_setting 0 = .ok (.aload_n 0, 1) := by decide +kernel
theorem dX8_setting_1 : decode cX8_setting 1 = .ok (.iload_n 1, 1) := by decide +kernel
theorem dX8_setting_2 : decode cX8_setting 2 = .ok (.i2l, 1) := by decide +kernel
theorem dX8_setting_3 : decode cX8_setting 3 = .ok (.lconst 0, 1) := by decide +kernel
theorem dX8_setting_4 : decode cX8_setting 4 = .ok (.ldc2_w 216, 3) := by decide +kernel
theorem dX8_setting_7 : decode cX8_setting 7 = .ok (.invokestatic 64, 3) := by decide +kernel
theorem dX8_setting_10 : decode cX8_setting 10 = .ok (.ifCond .eq 7, 3) := by decide +kernel
theorem dX8_setting_13 : decode cX8_setting 13 = .ok (.iconst 0, 1) := by decide +kernel
theorem dX8_setting_14 : decode cX8_setting 14 = .ok (.goto 4, 3) := by decide +kernel
theorem dX8_setting_17 : decode cX8_setting 17 = .ok (.iconst 1, 1) := by decide +kernel
theorem dX8_setting_18 : decode cX8_setting 18 = .ok (.invokevirtual 164, 3) := by decide +kernel
theorem dX8_setting_21 : decode cX8_setting 21 = .ok (.ifCond .eq 5, 3) := by decide +kernel
theorem dX8_setting_24 : decode cX8_setting 24 = .ok (.iconst 0, 1) := by decide +kernel
theorem dX8_setting_25 : decode cX8_setting 25 = .ok (.ireturn, 1) := by decide +kernel
theorem dX8_setting_26 : decode cX8_setting 26 = .ok (.aload_n 0, 1) := by decide +kernel
theorem dX8_setting_27 : decode cX8_setting 27 = .ok (.getfield 13, 3) := by decide +kernel
theorem dX8_setting_30 : decode cX8_setting 30 = .ok (.iconst 1, 1) := by decide +kernel
theorem dX8_setting_31 : decode cX8_setting 31 = .ok (.iload_n 1, 1) := by decide +kernel
theorem dX8_setting_32 : decode cX8_setting 32 = .ok (.iadd, 1) := by decide +kernel
theorem dX8_setting_33 : decode cX8_setting 33 = .ok (.iaload, 1) := by decide +kernel
theorem dX8_setting_34 : decode cX8_setting 34 = .ok (.ireturn, 1) := by decide +kernel
theorem dX8_remember_0 : decode cX8_remember 0 = .ok (.aload_n 0, 1) := by decide +kernel
theorem dX8_remember_1 : decode cX8_remember 1 = .ok (.getfield 218, 3) := by decide +kernel
theorem dX8_remember_4 : decode cX8_remember 4 = .ok (.bipush 14, 2) := by decide +kernel
theorem dX8_remember_6 : decode cX8_remember 6 = .ok (.if_icmp .ne 44, 3) := by decide +kernel
theorem dX8_remember_9 : decode cX8_remember 9 = .ok (.iconst 0, 1) := by decide +kernel
theorem dX8_remember_10 : decode cX8_remember 10 = .ok (.istore_n 1, 1) := by decide +kernel
theorem dX8_remember_11 : decode cX8_remember 11 = .ok (.iload_n 1, 1) := by decide +kernel
theorem dX8_remember_12 : decode cX8_remember 12 = .ok (.sipush 12194, 3) := by decide +kernel
theorem dX8_remember_15 : decode cX8_remember 15 = .ok (.if_icmp .ge 25, 3) := by decide +kernel
theorem dX8_remember_18 : decode cX8_remember 18 = .ok (.aload_n 0, 1) := by decide +kernel
theorem dX8_remember_19 : decode cX8_remember 19 = .ok (.getfield 19, 3) := by decide +kernel
theorem dX8_remember_22 : decode cX8_remember 22 = .ok (.iload_n 1, 1) := by decide +kernel
theorem dX8_remember_23 : decode cX8_remember 23 = .ok (.aload_n 0, 1) := by decide +kernel
theorem dX8_remember_24 : decode cX8_remember 24 = .ok (.getfield 19, 3) := by decide +kernel
theorem dX8_remember_27 : decode cX8_remember 27 = .ok (.iload_n 1, 1) := by decide +kernel
theorem dX8_remember_28 : decode cX8_remember 28 = .ok (.sipush 938, 3) := by decide +kernel
theorem dX8_remember_31 : decode cX8_remember 31 = .ok (.iadd, 1) := by decide +kernel
theorem dX8_remember_32 : decode cX8_remember 32 = .ok (.iaload, 1) := by decide +kernel
theorem dX8_remember_33 : decode cX8_remember 33 = .ok (.iastore, 1) := by decide +kernel
theorem dX8_remember_34 : decode cX8_remember 34 = .ok (.iinc 1 1, 3) := by decide +kernel
theorem dX8_remember_37 : decode cX8_remember 37 = .ok (.goto (-26), 3) := by decide +kernel
theorem dX8_remember_40 : decode cX8_remember 40 = .ok (.aload_n 0, 1) := by decide +kernel
theorem dX8_remember_41 : decode cX8_remember 41 = .ok (.dup, 1) := by decide +kernel
theorem dX8_remember_42 : decode cX8_remember 42 = .ok (.getfield 218, 3) := by decide +kernel
theorem dX8_remember_45 : decode cX8_remember 45 = .ok (.iconst 1, 1) := by decide +kernel
theorem dX8_remember_46 : decode cX8_remember 46 = .ok (.isub, 1) := by decide +kernel
theorem dX8_remember_47 : decode cX8_remember 47 = .ok (.putfield 218, 3) := by decide +kernel
theorem dX8_remember_50 : decode cX8_remember 50 = .ok (.aload_n 0, 1) := by decide +kernel
theorem dX8_remember_51 : decode cX8_remember 51 = .ok (.getfield 13, 3) := by decide +kernel
theorem dX8_remember_54 : decode cX8_remember 54 = .ok (.iconst 0, 1) := by decide +kernel
theorem dX8_remember_55 : decode cX8_remember 55 = .ok (.aload_n 0, 1) := by decide +kernel
theorem dX8_remember_56 : decode cX8_remember 56 = .ok (.getfield 19, 3) := by decide +kernel
theorem dX8_remember_59 : decode cX8_remember 59 = .ok (.sipush 938, 3) := by decide +kernel
theorem dX8_remember_62 : decode cX8_remember 62 = .ok (.aload_n 0, 1) := by decide +kernel
theorem dX8_remember_63 : decode cX8_remember 63 = .ok (.getfield 218, 3) := by decide +kernel
theorem dX8_remember_66 : decode cX8_remember 66 = .ok (.imul, 1) := by decide +kernel
theorem dX8_remember_67 : decode cX8_remember 67 = .ok (.invokestatic 221, 3) := by decide +kernel
theorem dX8_remember_70 : decode cX8_remember 70 = .ok (.aload_n 0, 1) := by decide +kernel
theorem dX8_remember_71 : decode cX8_remember 71 = .ok (.dup, 1) := by decide +kernel
theorem dX8_remember_72 : decode cX8_remember 72 = .ok (.getfield 218, 3) := by decide +kernel
theorem dX8_remember_75 : decode cX8_remember 75 = .ok (.iconst 1, 1) := by decide +kernel
theorem dX8_remember_76 : decode cX8_remember 76 = .ok (.iadd, 1) := by decide +kernel
theorem dX8_remember_77 : decode cX8_remember 77 = .ok (.putfield 218, 3) := by decide +kernel
theorem dX8_remember_80 : decode cX8_remember 80 = .ok (.return_, 1) := by decide +kernel
theorem dX8_add_0 : decode cX8_add 0 = .ok (.aload_n 0, 1) := by decide +kernel
theorem dX8_add_1 : decode cX8_add 1 = .ok (.aload_n 0, 1) := by decide +kernel
theorem dX8_add_2 : decode cX8_add 2 = .ok (.getfield 13, 3) := by decide +kernel
theorem dX8_add_5 : decode cX8_add 5 = .ok (.iconst 0, 1) := by decide +kernel
theorem dX8_add_6 : decode cX8_add 6 = .ok (.iaload, 1) := by decide +kernel
theorem dX8_add_7 : decode cX8_add 7 = .ok (.iconst 4, 1) := by decide +kernel
theorem dX8_add_8 : decode cX8_add 8 = .ok (.if_icmp .ne 7, 3) := by decide +kernel
theorem dX8_add_11 : decode cX8_add 11 = .ok (.iconst 1, 1) := by decide +kernel
theorem dX8_add_12 : decode cX8_add 12 = .ok (.goto 4, 3) := by decide +kernel
theorem dX8_add_15 : decode cX8_add 15 = .ok (.iconst 0, 1) := by decide +kernel
theorem dX8_add_16 : decode cX8_add 16 = .ok (.invokevirtual 164, 3) := by decide +kernel
theorem dX8_add_19 : decode cX8_add 19 = .ok (.ifCond .eq 5, 3) := by decide +kernel
theorem dX8_add_22 : decode cX8_add 22 = .ok (.iconst 0, 1) := by decide +kernel
theorem dX8_add_23 : decode cX8_add 23 = .ok (.ireturn, 1) := by decide +kernel
theorem dX8_add_24 : decode cX8_add 24 = .ok (.aload_n 0, 1) := by decide +kernel
theorem dX8_add_25 : decode cX8_add 25 = .ok (.invokevirtual 225, 3) := by decide +kernel
theorem dX8_add_28 : decode cX8_add 28 = .ok (.iconst 0, 1) := by decide +kernel
theorem dX8_add_29 : decode cX8_add 29 = .ok (.istore_n 1, 1) := by decide +kernel
theorem dX8_add_30 : decode cX8_add 30 = .ok (.iload_n 1, 1) := by decide +kernel
theorem dX8_add_31 : decode cX8_add 31 = .ok (.sipush 233, 3) := by decide +kernel
theorem dX8_add_34 : decode cX8_add 34 = .ok (.if_icmp .ge 26, 3) := by decide +kernel
theorem dX8_add_37 : decode cX8_add 37 = .ok (.aload_n 0, 1) := by decide +kernel
theorem dX8_add_38 : decode cX8_add 38 = .ok (.getfield 13, 3) := by decide +kernel
theorem dX8_add_41 : decode cX8_add 41 = .ok (.aload_n 0, 1) := by decide +kernel
theorem dX8_add_42 : decode cX8_add 42 = .ok (.getfield 13, 3) := by decide +kernel
theorem dX8_add_45 : decode cX8_add 45 = .ok (.iconst 0, 1) := by decide +kernel
theorem dX8_add_46 : decode cX8_add 46 = .ok (.iaload, 1) := by decide +kernel
theorem dX8_add_47 : decode cX8_add 47 = .ok (.invokestatic 72, 3) := by decide +kernel
theorem dX8_add_50 : decode cX8_add 50 = .ok (.iload_n 1, 1) := by decide +kernel
theorem dX8_add_51 : decode cX8_add 51 = .ok (.iadd, 1) := by decide +kernel
theorem dX8_add_52 : decode cX8_add 52 = .ok (.iconst 0, 1) := by decide +kernel
theorem dX8_add_53 : decode cX8_add 53 = .ok (.iastore, 1) := by decide +kernel
theorem dX8_add_54 : decode cX8_add 54 = .ok (.iinc 1 1, 3) := by decide +kernel
theorem dX8_add_57 : decode cX8_add 57 = .ok (.goto (-27), 3) := by decide +kernel
theorem dX8_add_60 : decode cX8_add 60 = .ok (.aload_n 0, 1) := by decide +kernel
theorem dX8_add_61 : decode cX8_add 61 = .ok (.getfield 13, 3) := by decide +kernel
theorem dX8_add_64 : decode cX8_add 64 = .ok (.iconst 0, 1) := by decide +kernel
theorem dX8_add_65 : decode cX8_add 65 = .ok (.dup2, 1) := by decide +kernel
theorem dX8_add_66 : decode cX8_add 66 = .ok (.iaload, 1) := by decide +kernel
theorem dX8_add_67 : decode cX8_add 67 = .ok (.iconst 1, 1) := by decide +kernel
theorem dX8_add_68 : decode cX8_add 68 = .ok (.iadd, 1) := by decide +kernel
theorem dX8_add_69 : decode cX8_add 69 = .ok (.iastore, 1) := by decide +kernel
theorem dX8_add_70 : decode cX8_add 70 = .ok (.aload_n 0, 1) := by decide +kernel
theorem dX8_add_71 : decode cX8_add 71 = .ok (.getfield 13, 3) := by decide +kernel
theorem dX8_add_74 : decode cX8_add 74 = .ok (.iconst 0, 1) := by decide +kernel
theorem dX8_add_75 : decode cX8_add 75 = .ok (.iaload, 1) := by decide +kernel
theorem dX8_add_76 : decode cX8_add 76 = .ok (.iconst 1, 1) := by decide +kernel
theorem dX8_add_77 : decode cX8_add 77 = .ok (.isub, 1) := by decide +kernel
theorem dX8_add_78 : decode cX8_add 78 = .ok (.ireturn, 1) := by decide +kernel
theorem dX8_program_0 : decode cX8_program 0 = .ok (.aload_n 0, 1) := by decide +kernel
theorem dX8_program_1 : decode cX8_program 1 = .ok (.aload_n 0, 1) := by decide +kernel
theorem dX8_program_2 : decode cX8_program 2 = .ok (.getfield 13, 3) := by decide +kernel
theorem dX8_program_5 : decode cX8_program 5 = .ok (.iload_n 1, 1) := by decide +kernel
theorem dX8_program_6 : decode cX8_program 6 = .ok (.invokestatic 68, 3) := by decide +kernel
theorem dX8_program_9 : decode cX8_program 9 = .ok (.ifCond .ne 7, 3) := by decide +kernel
theorem dX8_program_12 : decode cX8_program 12 = .ok (.iconst 1, 1) := by decide +kernel
theorem dX8_program_13 : decode cX8_program 13 = .ok (.goto 16, 3) := by decide +kernel
theorem dX8_program_16 : decode cX8_program 16 = .ok (.aload_n 0, 1) := by decide +kernel
theorem dX8_program_17 : decode cX8_program 17 = .ok (.invokevirtual 196, 3) := by decide +kernel
theorem dX8_program_20 : decode cX8_program 20 = .ok (.iconst (-1), 1) := by decide +kernel
theorem dX8_program_21 : decode cX8_program 21 = .ok (.if_icmp .ne 7, 3) := by decide +kernel
theorem dX8_program_24 : decode cX8_program 24 = .ok (.iconst 0, 1) := by decide +kernel
theorem dX8_program_25 : decode cX8_program 25 = .ok (.goto 4, 3) := by decide +kernel
theorem dX8_program_28 : decode cX8_program 28 = .ok (.iconst 2, 1) := by decide +kernel
theorem dX8_program_29 : decode cX8_program 29 = .ok (.invokevirtual 164, 3) := by decide +kernel
theorem dX8_program_32 : decode cX8_program 32 = .ok (.ifCond .eq 5, 3) := by decide +kernel
theorem dX8_program_35 : decode cX8_program 35 = .ok (.iconst 0, 1) := by decide +kernel
theorem dX8_program_36 : decode cX8_program 36 = .ok (.ireturn, 1) := by decide +kernel
theorem dX8_program_37 : decode cX8_program 37 = .ok (.aload_n 0, 1) := by decide +kernel
theorem dX8_program_38 : decode cX8_program 38 = .ok (.invokevirtual 225, 3) := by decide +kernel
theorem dX8_program_41 : decode cX8_program 41 = .ok (.aload_n 0, 1) := by decide +kernel
theorem dX8_program_42 : decode cX8_program 42 = .ok (.getfield 13, 3) := by decide +kernel
theorem dX8_program_45 : decode cX8_program 45 = .ok (.iload_n 1, 1) := by decide +kernel
theorem dX8_program_46 : decode cX8_program 46 = .ok (.invokestatic 72, 3) := by decide +kernel
theorem dX8_program_49 : decode cX8_program 49 = .ok (.iconst 0, 1) := by decide +kernel
theorem dX8_program_50 : decode cX8_program 50 = .ok (.iadd, 1) := by decide +kernel
theorem dX8_program_51 : decode cX8_program 51 = .ok (.aload_n 0, 1) := by decide +kernel
theorem dX8_program_52 : decode cX8_program 52 = .ok (.getfield 29, 3) := by decide +kernel
theorem dX8_program_55 : decode cX8_program 55 = .ok (.iconst 0, 1) := by decide +kernel
theorem dX8_program_56 : decode cX8_program 56 = .ok (.iaload, 1) := by decide +kernel
theorem dX8_program_57 : decode cX8_program 57 = .ok (.iastore, 1) := by decide +kernel
theorem dX8_program_58 : decode cX8_program 58 = .ok (.bipush 17, 2) := by decide +kernel
theorem dX8_program_60 : decode cX8_program 60 = .ok (.istore_n 2, 1) := by decide +kernel
theorem dX8_program_61 : decode cX8_program 61 = .ok (.iload_n 2, 1) := by decide +kernel
theorem dX8_program_62 : decode cX8_program 62 = .ok (.sipush 233, 3) := by decide +kernel
theorem dX8_program_65 : decode cX8_program 65 = .ok (.if_icmp .ge 26, 3) := by decide +kernel
theorem dX8_program_68 : decode cX8_program 68 = .ok (.aload_n 0, 1) := by decide +kernel
theorem dX8_program_69 : decode cX8_program 69 = .ok (.getfield 13, 3) := by decide +kernel
theorem dX8_program_72 : decode cX8_program 72 = .ok (.iload_n 1, 1) := by decide +kernel
theorem dX8_program_73 : decode cX8_program 73 = .ok (.invokestatic 72, 3) := by decide +kernel
theorem dX8_program_76 : decode cX8_program 76 = .ok (.iload_n 2, 1) := by decide +kernel
theorem dX8_program_77 : decode cX8_program 77 = .ok (.iadd, 1) := by decide +kernel
theorem dX8_program_78 : decode cX8_program 78 = .ok (.aload_n 0, 1) := by decide +kernel
theorem dX8_program_79 : decode cX8_program 79 = .ok (.getfield 29, 3) := by decide +kernel
theorem dX8_program_82 : decode cX8_program 82 = .ok (.iload_n 2, 1) := by decide +kernel
theorem dX8_program_83 : decode cX8_program 83 = .ok (.iaload, 1) := by decide +kernel
theorem dX8_program_84 : decode cX8_program 84 = .ok (.iastore, 1) := by decide +kernel
theorem dX8_program_85 : decode cX8_program 85 = .ok (.iinc 2 1, 3) := by decide +kernel
theorem dX8_program_88 : decode cX8_program 88 = .ok (.goto (-27), 3) := by decide +kernel
theorem dX8_program_91 : decode cX8_program 91 = .ok (.aload_n 0, 1) := by decide +kernel
theorem dX8_program_92 : decode cX8_program 92 = .ok (.getfield 29, 3) := by decide +kernel
theorem dX8_program_95 : decode cX8_program 95 = .ok (.iconst 0, 1) := by decide +kernel
theorem dX8_program_96 : decode cX8_program 96 = .ok (.iaload, 1) := by decide +kernel
theorem dX8_program_97 : decode cX8_program 97 = .ok (.ireturn, 1) := by decide +kernel
theorem dX8_layMarks_0 : decode cX8_layMarks 0 = .ok (.iload_n 2, 1) := by decide +kernel
theorem dX8_layMarks_1 : decode cX8_layMarks 1 = .ok (.istore 5, 2) := by decide +kernel
theorem dX8_layMarks_3 : decode cX8_layMarks 3 = .ok (.iconst 4, 1) := by decide +kernel
theorem dX8_layMarks_4 : decode cX8_layMarks 4 = .ok (.istore 6, 2) := by decide +kernel
theorem dX8_layMarks_6 : decode cX8_layMarks 6 = .ok (.iload 6, 2) := by decide +kernel
theorem dX8_layMarks_8 : decode cX8_layMarks 8 = .ok (.ifCond .lt 28, 3) := by decide +kernel
theorem dX8_layMarks_11 : decode cX8_layMarks 11 = .ok (.aload_n 0, 1) := by decide +kernel
theorem dX8_layMarks_12 : decode cX8_layMarks 12 = .ok (.iload_n 1, 1) := by decide +kernel
theorem dX8_layMarks_13 : decode cX8_layMarks 13 = .ok (.iload 6, 2) := by decide +kernel
theorem dX8_layMarks_15 : decode cX8_layMarks 15 = .ok (.iadd, 1) := by decide +kernel
theorem dX8_layMarks_16 : decode cX8_layMarks 16 = .ok (.iload 5, 2) := by decide +kernel
theorem dX8_layMarks_18 : decode cX8_layMarks 18 = .ok (.iload_n 3, 1) := by decide +kernel
theorem dX8_layMarks_19 : decode cX8_layMarks 19 = .ok (.irem, 1) := by decide +kernel
theorem dX8_layMarks_20 : decode cX8_layMarks 20 = .ok (.iload 4, 2) := by decide +kernel
theorem dX8_layMarks_22 : decode cX8_layMarks 22 = .ok (.isub, 1) := by decide +kernel
theorem dX8_layMarks_23 : decode cX8_layMarks 23 = .ok (.iastore, 1) := by decide +kernel
theorem dX8_layMarks_24 : decode cX8_layMarks 24 = .ok (.iload 5, 2) := by decide +kernel
theorem dX8_layMarks_26 : decode cX8_layMarks 26 = .ok (.iload_n 3, 1) := by decide +kernel
theorem dX8_layMarks_27 : decode cX8_layMarks 27 = .ok (.idiv, 1) := by decide +kernel
theorem dX8_layMarks_28 : decode cX8_layMarks 28 = .ok (.istore 5, 2) := by decide +kernel
theorem dX8_layMarks_30 : decode cX8_layMarks 30 = .ok (.iinc 6 (-1), 3) := by decide +kernel
theorem dX8_layMarks_33 : decode cX8_layMarks 33 = .ok (.goto (-27), 3) := by decide +kernel
theorem dX8_layMarks_36 : decode cX8_layMarks 36 = .ok (.return_, 1) := by decide +kernel
theorem dX8_mark_0 : decode cX8_mark 0 = .ok (.aload_n 0, 1) := by decide +kernel
theorem dX8_mark_1 : decode cX8_mark 1 = .ok (.aload_n 0, 1) := by decide +kernel
theorem dX8_mark_2 : decode cX8_mark 2 = .ok (.getfield 13, 3) := by decide +kernel
theorem dX8_mark_5 : decode cX8_mark 5 = .ok (.iload_n 1, 1) := by decide +kernel
theorem dX8_mark_6 : decode cX8_mark 6 = .ok (.iload_n 2, 1) := by decide +kernel
theorem dX8_mark_7 : decode cX8_mark 7 = .ok (.invokestatic 76, 3) := by decide +kernel
theorem dX8_mark_10 : decode cX8_mark 10 = .ok (.ifCond .ne 7, 3) := by decide +kernel
theorem dX8_mark_13 : decode cX8_mark 13 = .ok (.iconst 1, 1) := by decide +kernel
theorem dX8_mark_14 : decode cX8_mark 14 = .ok (.goto 20, 3) := by decide +kernel
theorem dX8_mark_17 : decode cX8_mark 17 = .ok (.iload_n 3, 1) := by decide +kernel
theorem dX8_mark_18 : decode cX8_mark 18 = .ok (.i2l, 1) := by decide +kernel
theorem dX8_mark_19 : decode cX8_mark 19 = .ok (.lconst 0, 1) := by decide +kernel
theorem dX8_mark_20 : decode cX8_mark 20 = .ok (.ldc2_w 228, 3) := by decide +kernel
theorem dX8_mark_23 : decode cX8_mark 23 = .ok (.invokestatic 64, 3) := by decide +kernel
theorem dX8_mark_26 : decode cX8_mark 26 = .ok (.ifCond .eq 7, 3) := by decide +kernel
theorem dX8_mark_29 : decode cX8_mark 29 = .ok (.iconst 0, 1) := by decide +kernel
theorem dX8_mark_30 : decode cX8_mark 30 = .ok (.goto 4, 3) := by decide +kernel
theorem dX8_mark_33 : decode cX8_mark 33 = .ok (.iconst 2, 1) := by decide +kernel
theorem dX8_mark_34 : decode cX8_mark 34 = .ok (.invokevirtual 164, 3) := by decide +kernel
theorem dX8_mark_37 : decode cX8_mark 37 = .ok (.ifCond .eq 5, 3) := by decide +kernel
theorem dX8_mark_40 : decode cX8_mark 40 = .ok (.iconst 0, 1) := by decide +kernel
theorem dX8_mark_41 : decode cX8_mark 41 = .ok (.ireturn, 1) := by decide +kernel
theorem dX8_mark_42 : decode cX8_mark 42 = .ok (.aload_n 0, 1) := by decide +kernel
theorem dX8_mark_43 : decode cX8_mark 43 = .ok (.invokevirtual 225, 3) := by decide +kernel
theorem dX8_mark_46 : decode cX8_mark 46 = .ok (.aload_n 0, 1) := by decide +kernel
theorem dX8_mark_47 : decode cX8_mark 47 = .ok (.getfield 13, 3) := by decide +kernel
theorem dX8_mark_50 : decode cX8_mark 50 = .ok (.iload_n 1, 1) := by decide +kernel
theorem dX8_mark_51 : decode cX8_mark 51 = .ok (.iload_n 2, 1) := by decide +kernel
theorem dX8_mark_52 : decode cX8_mark 52 = .ok (.invokestatic 60, 3) := by decide +kernel
theorem dX8_mark_55 : decode cX8_mark 55 = .ok (.bipush 11, 2) := by decide +kernel
theorem dX8_mark_57 : decode cX8_mark 57 = .ok (.iadd, 1) := by decide +kernel
theorem dX8_mark_58 : decode cX8_mark 58 = .ok (.iload_n 3, 1) := by decide +kernel
theorem dX8_mark_59 : decode cX8_mark 59 = .ok (.bipush 11, 2) := by decide +kernel
theorem dX8_mark_61 : decode cX8_mark 61 = .ok (.iconst 5, 1) := by decide +kernel
theorem dX8_mark_62 : decode cX8_mark 62 = .ok (.invokestatic 230, 3) := by decide +kernel
theorem dX8_mark_65 : decode cX8_mark 65 = .ok (.aload_n 0, 1) := by decide +kernel
theorem dX8_mark_66 : decode cX8_mark 66 = .ok (.getfield 13, 3) := by decide +kernel
theorem dX8_mark_69 : decode cX8_mark 69 = .ok (.iload_n 1, 1) := by decide +kernel
theorem dX8_mark_70 : decode cX8_mark 70 = .ok (.iload_n 2, 1) := by decide +kernel
theorem dX8_mark_71 : decode cX8_mark 71 = .ok (.invokestatic 60, 3) := by decide +kernel
theorem dX8_mark_74 : decode cX8_mark 74 = .ok (.bipush 11, 2) := by decide +kernel
theorem dX8_mark_76 : decode cX8_mark 76 = .ok (.iadd, 1) := by decide +kernel
theorem dX8_mark_77 : decode cX8_mark 77 = .ok (.invokestatic 113, 3) := by decide +kernel
theorem dX8_mark_80 : decode cX8_mark 80 = .ok (.ireturn, 1) := by decide +kernel
theorem dX8_component_0 : decode cX8_component 0 = .ok (.aload_n 0, 1) := by decide +kernel
theorem dX8_component_1 : decode cX8_component 1 = .ok (.aload_n 0, 1) := by decide +kernel
theorem dX8_component_2 : decode cX8_component 2 = .ok (.getfield 13, 3) := by decide +kernel
theorem dX8_component_5 : decode cX8_component 5 = .ok (.iload_n 1, 1) := by decide +kernel
theorem dX8_component_6 : decode cX8_component 6 = .ok (.invokestatic 68, 3) := by decide +kernel
theorem dX8_component_9 : decode cX8_component 9 = .ok (.ifCond .eq 15, 3) := by decide +kernel
theorem dX8_component_12 : decode cX8_component 12 = .ok (.iload_n 2, 1) := by decide +kernel
theorem dX8_component_13 : decode cX8_component 13 = .ok (.i2l, 1) := by decide +kernel
theorem dX8_component_14 : decode cX8_component 14 = .ok (.lconst 0, 1) := by decide +kernel
theorem dX8_component_15 : decode cX8_component 15 = .ok (.ldc2_w 234, 3) := by decide +kernel
theorem dX8_component_18 : decode cX8_component 18 = .ok (.invokestatic 64, 3) := by decide +kernel
theorem dX8_component_21 : decode cX8_component 21 = .ok (.ifCond .ne 7, 3) := by decide +kernel
theorem dX8_component_24 : decode cX8_component 24 = .ok (.iconst 1, 1) := by decide +kernel
theorem dX8_component_25 : decode cX8_component 25 = .ok (.goto 20, 3) := by decide +kernel
theorem dX8_component_28 : decode cX8_component 28 = .ok (.iload_n 3, 1) := by decide +kernel
theorem dX8_component_29 : decode cX8_component 29 = .ok (.i2l, 1) := by decide +kernel
theorem dX8_component_30 : decode cX8_component 30 = .ok (.lconst 0, 1) := by decide +kernel
theorem dX8_component_31 : decode cX8_component 31 = .ok (.ldc2_w 236, 3) := by decide +kernel
theorem dX8_component_34 : decode cX8_component 34 = .ok (.invokestatic 64, 3) := by decide +kernel
theorem dX8_component_37 : decode cX8_component 37 = .ok (.ifCond .eq 7, 3) := by decide +kernel
theorem dX8_component_40 : decode cX8_component 40 = .ok (.iconst 0, 1) := by decide +kernel
theorem dX8_component_41 : decode cX8_component 41 = .ok (.goto 4, 3) := by decide +kernel
theorem dX8_component_44 : decode cX8_component 44 = .ok (.iconst 2, 1) := by decide +kernel
theorem dX8_component_45 : decode cX8_component 45 = .ok (.invokevirtual 164, 3) := by decide +kernel
theorem dX8_component_48 : decode cX8_component 48 = .ok (.ifCond .eq 5, 3) := by decide +kernel
theorem dX8_component_51 : decode cX8_component 51 = .ok (.iconst 0, 1) := by decide +kernel
theorem dX8_component_52 : decode cX8_component 52 = .ok (.ireturn, 1) := by decide +kernel
theorem dX8_component_53 : decode cX8_component 53 = .ok (.aload_n 0, 1) := by decide +kernel
theorem dX8_component_54 : decode cX8_component 54 = .ok (.invokevirtual 225, 3) := by decide +kernel
theorem dX8_component_57 : decode cX8_component 57 = .ok (.aload_n 0, 1) := by decide +kernel
theorem dX8_component_58 : decode cX8_component 58 = .ok (.getfield 13, 3) := by decide +kernel
theorem dX8_component_61 : decode cX8_component 61 = .ok (.iload_n 1, 1) := by decide +kernel
theorem dX8_component_62 : decode cX8_component 62 = .ok (.invokestatic 72, 3) := by decide +kernel
theorem dX8_component_65 : decode cX8_component 65 = .ok (.iconst 2, 1) := by decide +kernel
theorem dX8_component_66 : decode cX8_component 66 = .ok (.iadd, 1) := by decide +kernel
theorem dX8_component_67 : decode cX8_component 67 = .ok (.iconst 5, 1) := by decide +kernel
theorem dX8_component_68 : decode cX8_component 68 = .ok (.iload_n 2, 1) := by decide +kernel
theorem dX8_component_69 : decode cX8_component 69 = .ok (.imul, 1) := by decide +kernel
theorem dX8_component_70 : decode cX8_component 70 = .ok (.iadd, 1) := by decide +kernel
theorem dX8_component_71 : decode cX8_component 71 = .ok (.iload_n 3, 1) := by decide +kernel
theorem dX8_component_72 : decode cX8_component 72 = .ok (.bipush 41, 2) := by decide +kernel
theorem dX8_component_74 : decode cX8_component 74 = .ok (.iconst 0, 1) := by decide +kernel
theorem dX8_component_75 : decode cX8_component 75 = .ok (.invokestatic 230, 3) := by decide +kernel
theorem dX8_component_78 : decode cX8_component 78 = .ok (.aload_n 0, 1) := by decide +kernel
theorem dX8_component_79 : decode cX8_component 79 = .ok (.getfield 13, 3) := by decide +kernel
theorem dX8_component_82 : decode cX8_component 82 = .ok (.iload_n 1, 1) := by decide +kernel
theorem dX8_component_83 : decode cX8_component 83 = .ok (.iload_n 2, 1) := by decide +kernel
theorem dX8_component_84 : decode cX8_component 84 = .ok (.invokestatic 139, 3) := by decide +kernel
theorem dX8_component_87 : decode cX8_component 87 = .ok (.ireturn, 1) := by decide +kernel
theorem dX8_whyNotCall_0 : decode cX8_whyNotCall 0 = .ok (.aload_n 0, 1) := by decide +kernel
theorem dX8_whyNotCall_1 : decode cX8_whyNotCall 1 = .ok (.iload_n 1, 1) := by decide +kernel
theorem dX8_whyNotCall_2 : decode cX8_whyNotCall 2 = .ok (.iload_n 2, 1) := by decide +kernel
theorem dX8_whyNotCall_3 : decode cX8_whyNotCall 3 = .ok (.iload_n 3, 1) := by decide +kernel
theorem dX8_whyNotCall_4 : decode cX8_whyNotCall 4 = .ok (.invokestatic 212, 3) := by decide +kernel
theorem dX8_whyNotCall_7 : decode cX8_whyNotCall 7 = .ok (.ifCond .ne 5, 3) := by decide +kernel
theorem dX8_whyNotCall_10 : decode cX8_whyNotCall 10 = .ok (.iconst 1, 1) := by decide +kernel
theorem dX8_whyNotCall_11 : decode cX8_whyNotCall 11 = .ok (.ireturn, 1) := by decide +kernel
theorem dX8_whyNotCall_12 : decode cX8_whyNotCall 12 = .ok (.iload 4, 2) := by decide +kernel
theorem dX8_whyNotCall_14 : decode cX8_whyNotCall 14 = .ok (.i2l, 1) := by decide +kernel
theorem dX8_whyNotCall_15 : decode cX8_whyNotCall 15 = .ok (.lconst 0, 1) := by decide +kernel
theorem dX8_whyNotCall_16 : decode cX8_whyNotCall 16 = .ok (.ldc2_w 238, 3) := by decide +kernel
theorem dX8_whyNotCall_19 : decode cX8_whyNotCall 19 = .ok (.invokestatic 64, 3) := by decide +kernel
theorem dX8_whyNotCall_22 : decode cX8_whyNotCall 22 = .ok (.ifCond .ne 5, 3) := by decide +kernel
theorem dX8_whyNotCall_25 : decode cX8_whyNotCall 25 = .ok (.iconst 2, 1) := by decide +kernel
theorem dX8_whyNotCall_26 : decode cX8_whyNotCall 26 = .ok (.ireturn, 1) := by decide +kernel
theorem dX8_whyNotCall_27 : decode cX8_whyNotCall 27 = .ok (.aload_n 0, 1) := by decide +kernel
theorem dX8_whyNotCall_28 : decode cX8_whyNotCall 28 = .ok (.iload_n 1, 1) := by decide +kernel
theorem dX8_whyNotCall_29 : decode cX8_whyNotCall 29 = .ok (.iload_n 2, 1) := by decide +kernel
theorem dX8_whyNotCall_30 : decode cX8_whyNotCall 30 = .ok (.invokestatic 60, 3) := by decide +kernel
theorem dX8_whyNotCall_33 : decode cX8_whyNotCall 33 = .ok (.iconst 0, 1) := by decide +kernel
theorem dX8_whyNotCall_34 : decode cX8_whyNotCall 34 = .ok (.iadd, 1) := by decide +kernel
theorem dX8_whyNotCall_35 : decode cX8_whyNotCall 35 = .ok (.iaload, 1) := by decide +kernel
theorem dX8_whyNotCall_36 : decode cX8_whyNotCall 36 = .ok (.ifCond .ne 23, 3) := by decide +kernel
theorem dX8_whyNotCall_39 : decode cX8_whyNotCall 39 = .ok (.iload 4, 2) := by decide +kernel
theorem dX8_whyNotCall_41 : decode cX8_whyNotCall 41 = .ok (.iconst 3, 1) := by decide +kernel
theorem dX8_whyNotCall_42 : decode cX8_whyNotCall 42 = .ok (.if_icmp .ne 21, 3) := by decide +kernel
theorem dX8_whyNotCall_45 : decode cX8_whyNotCall 45 = .ok (.aload_n 0, 1) := by decide +kernel
theorem dX8_whyNotCall_46 : decode cX8_whyNotCall 46 = .ok (.iload_n 1, 1) := by decide +kernel
theorem dX8_whyNotCall_47 : decode cX8_whyNotCall 47 = .ok (.iload_n 2, 1) := by decide +kernel
theorem dX8_whyNotCall_48 : decode cX8_whyNotCall 48 = .ok (.iload_n 3, 1) := by decide +kernel
theorem dX8_whyNotCall_49 : decode cX8_whyNotCall 49 = .ok (.invokestatic 102, 3) := by decide +kernel
theorem dX8_whyNotCall_52 : decode cX8_whyNotCall 52 = .ok (.iaload, 1) := by decide +kernel
theorem dX8_whyNotCall_53 : decode cX8_whyNotCall 53 = .ok (.invokestatic 185, 3) := by decide +kernel
theorem dX8_whyNotCall_56 : decode cX8_whyNotCall 56 = .ok (.ifCond .ne 7, 3) := by decide +kernel
theorem dX8_whyNotCall_59 : decode cX8_whyNotCall 59 = .ok (.iconst 3, 1) := by decide +kernel
theorem dX8_whyNotCall_60 : decode cX8_whyNotCall 60 = .ok (.goto 4, 3) := by decide +kernel
theorem dX8_whyNotCall_63 : decode cX8_whyNotCall 63 = .ok (.iconst 0, 1) := by decide +kernel
theorem dX8_whyNotCall_64 : decode cX8_whyNotCall 64 = .ok (.ireturn, 1) := by decide +kernel
theorem dX8_callOn_0 : decode cX8_callOn 0 = .ok (.aload_n 0, 1) := by decide +kernel
theorem dX8_callOn_1 : decode cX8_callOn 1 = .ok (.iload_n 1, 1) := by decide +kernel
theorem dX8_callOn_2 : decode cX8_callOn 2 = .ok (.iload_n 2, 1) := by decide +kernel
theorem dX8_callOn_3 : decode cX8_callOn 3 = .ok (.iload_n 3, 1) := by decide +kernel
theorem dX8_callOn_4 : decode cX8_callOn 4 = .ok (.invokestatic 102, 3) := by decide +kernel
theorem dX8_callOn_7 : decode cX8_callOn 7 = .ok (.iconst 2, 1) := by decide +kernel
theorem dX8_callOn_8 : decode cX8_callOn 8 = .ok (.iadd, 1) := by decide +kernel
theorem dX8_callOn_9 : decode cX8_callOn 9 = .ok (.iaload, 1) := by decide +kernel
theorem dX8_callOn_10 : decode cX8_callOn 10 = .ok (.istore 5, 2) := by decide +kernel
theorem dX8_callOn_12 : decode cX8_callOn 12 = .ok (.aload_n 0, 1) := by decide +kernel
theorem dX8_callOn_13 : decode cX8_callOn 13 = .ok (.iload_n 1, 1) := by decide +kernel
theorem dX8_callOn_14 : decode cX8_callOn 14 = .ok (.iload_n 2, 1) := by decide +kernel
theorem dX8_callOn_15 : decode cX8_callOn 15 = .ok (.iload_n 3, 1) := by decide +kernel
theorem dX8_callOn_16 : decode cX8_callOn 16 = .ok (.invokestatic 102, 3) := by decide +kernel
theorem dX8_callOn_19 : decode cX8_callOn 19 = .ok (.iconst 2, 1) := by decide +kernel
theorem dX8_callOn_20 : decode cX8_callOn 20 = .ok (.iadd, 1) := by decide +kernel
theorem dX8_callOn_21 : decode cX8_callOn 21 = .ok (.iload 4, 2) := by decide +kernel
theorem dX8_callOn_23 : decode cX8_callOn 23 = .ok (.iastore, 1) := by decide +kernel
theorem dX8_callOn_24 : decode cX8_callOn 24 = .ok (.iload 5, 2) := by decide +kernel
theorem dX8_callOn_26 : decode cX8_callOn 26 = .ok (.ireturn, 1) := by decide +kernel
theorem dX8_call_0 : decode cX8_call 0 = .ok (.aload_n 0, 1) := by decide +kernel
theorem dX8_call_1 : decode cX8_call 1 = .ok (.aload_n 0, 1) := by decide +kernel
theorem dX8_call_2 : decode cX8_call 2 = .ok (.getfield 13, 3) := by decide +kernel
theorem dX8_call_5 : decode cX8_call 5 = .ok (.iload_n 1, 1) := by decide +kernel
theorem dX8_call_6 : decode cX8_call 6 = .ok (.iload_n 2, 1) := by decide +kernel
theorem dX8_call_7 : decode cX8_call 7 = .ok (.iload_n 3, 1) := by decide +kernel
theorem dX8_call_8 : decode cX8_call 8 = .ok (.iload 4, 2) := by decide +kernel
theorem dX8_call_10 : decode cX8_call 10 = .ok (.invokestatic 240, 3) := by decide +kernel
theorem dX8_call_13 : decode cX8_call 13 = .ok (.invokevirtual 164, 3) := by decide +kernel
theorem dX8_call_16 : decode cX8_call 16 = .ok (.ifCond .eq 5, 3) := by decide +kernel
theorem dX8_call_19 : decode cX8_call 19 = .ok (.iconst 0, 1) := by decide +kernel
theorem dX8_call_20 : decode cX8_call 20 = .ok (.ireturn, 1) := by decide +kernel
theorem dX8_call_21 : decode cX8_call 21 = .ok (.aload_n 0, 1) := by decide +kernel
theorem dX8_call_22 : decode cX8_call 22 = .ok (.invokevirtual 225, 3) := by decide +kernel
theorem dX8_call_25 : decode cX8_call 25 = .ok (.aload_n 0, 1) := by decide +kernel
theorem dX8_call_26 : decode cX8_call 26 = .ok (.getfield 13, 3) := by decide +kernel
theorem dX8_call_29 : decode cX8_call 29 = .ok (.iload_n 1, 1) := by decide +kernel
theorem dX8_call_30 : decode cX8_call 30 = .ok (.iload_n 2, 1) := by decide +kernel
theorem dX8_call_31 : decode cX8_call 31 = .ok (.iload_n 3, 1) := by decide +kernel
theorem dX8_call_32 : decode cX8_call 32 = .ok (.iload 4, 2) := by decide +kernel
theorem dX8_call_34 : decode cX8_call 34 = .ok (.invokestatic 244, 3) := by decide +kernel
theorem dX8_call_37 : decode cX8_call 37 = .ok (.ireturn, 1) := by decide +kernel
theorem dX8_review_0 : decode cX8_review 0 = .ok (.aload_n 0, 1) := by decide +kernel
theorem dX8_review_1 : decode cX8_review 1 = .ok (.aload_n 0, 1) := by decide +kernel
theorem dX8_review_2 : decode cX8_review 2 = .ok (.getfield 13, 3) := by decide +kernel
theorem dX8_review_5 : decode cX8_review 5 = .ok (.iload_n 1, 1) := by decide +kernel
theorem dX8_review_6 : decode cX8_review 6 = .ok (.iload_n 2, 1) := by decide +kernel
theorem dX8_review_7 : decode cX8_review 7 = .ok (.invokestatic 76, 3) := by decide +kernel
theorem dX8_review_10 : decode cX8_review 10 = .ok (.ifCond .eq 7, 3) := by decide +kernel
theorem dX8_review_13 : decode cX8_review 13 = .ok (.iconst 0, 1) := by decide +kernel
theorem dX8_review_14 : decode cX8_review 14 = .ok (.goto 4, 3) := by decide +kernel
theorem dX8_review_17 : decode cX8_review 17 = .ok (.iconst 1, 1) := by decide +kernel
theorem dX8_review_18 : decode cX8_review 18 = .ok (.invokevirtual 164, 3) := by decide +kernel
theorem dX8_review_21 : decode cX8_review 21 = .ok (.ifCond .eq 5, 3) := by decide +kernel
theorem dX8_review_24 : decode cX8_review 24 = .ok (.iconst 0, 1) := by decide +kernel
theorem dX8_review_25 : decode cX8_review 25 = .ok (.ireturn, 1) := by decide +kernel
theorem dX8_review_26 : decode cX8_review 26 = .ok (.aload_n 0, 1) := by decide +kernel
theorem dX8_review_27 : decode cX8_review 27 = .ok (.invokevirtual 225, 3) := by decide +kernel
theorem dX8_review_30 : decode cX8_review 30 = .ok (.aload_n 0, 1) := by decide +kernel
theorem dX8_review_31 : decode cX8_review 31 = .ok (.getfield 13, 3) := by decide +kernel
theorem dX8_review_34 : decode cX8_review 34 = .ok (.iload_n 1, 1) := by decide +kernel
theorem dX8_review_35 : decode cX8_review 35 = .ok (.iload_n 2, 1) := by decide +kernel
theorem dX8_review_36 : decode cX8_review 36 = .ok (.invokestatic 60, 3) := by decide +kernel
theorem dX8_review_39 : decode cX8_review 39 = .ok (.bipush 17, 2) := by decide +kernel
theorem dX8_review_41 : decode cX8_review 41 = .ok (.iadd, 1) := by decide +kernel
theorem dX8_review_42 : decode cX8_review 42 = .ok (.iload_n 3, 1) := by decide +kernel
theorem dX8_review_43 : decode cX8_review 43 = .ok (.ifCond .eq 7, 3) := by decide +kernel
theorem dX8_review_46 : decode cX8_review 46 = .ok (.iconst 1, 1) := by decide +kernel
theorem dX8_review_47 : decode cX8_review 47 = .ok (.goto 4, 3) := by decide +kernel
theorem dX8_review_50 : decode cX8_review 50 = .ok (.iconst 0, 1) := by decide +kernel
theorem dX8_review_51 : decode cX8_review 51 = .ok (.iastore, 1) := by decide +kernel
theorem dX8_review_52 : decode cX8_review 52 = .ok (.aload_n 0, 1) := by decide +kernel
theorem dX8_review_53 : decode cX8_review 53 = .ok (.getfield 13, 3) := by decide +kernel
theorem dX8_review_56 : decode cX8_review 56 = .ok (.bipush 17, 2) := by decide +kernel
theorem dX8_review_58 : decode cX8_review 58 = .ok (.invokestatic 201, 3) := by decide +kernel
theorem dX8_review_61 : decode cX8_review 61 = .ok (.ireturn, 1) := by decide +kernel
theorem dX8_fall_0 : decode cX8_fall 0 = .ok (.aload_n 0, 1) := by decide +kernel
theorem dX8_fall_1 : decode cX8_fall 1 = .ok (.aload_n 0, 1) := by decide +kernel
theorem dX8_fall_2 : decode cX8_fall 2 = .ok (.getfield 13, 3) := by decide +kernel
theorem dX8_fall_5 : decode cX8_fall 5 = .ok (.iload_n 1, 1) := by decide +kernel
theorem dX8_fall_6 : decode cX8_fall 6 = .ok (.iload_n 2, 1) := by decide +kernel
theorem dX8_fall_7 : decode cX8_fall 7 = .ok (.invokestatic 76, 3) := by decide +kernel
theorem dX8_fall_10 : decode cX8_fall 10 = .ok (.ifCond .eq 7, 3) := by decide +kernel
theorem dX8_fall_13 : decode cX8_fall 13 = .ok (.iconst 0, 1) := by decide +kernel
theorem dX8_fall_14 : decode cX8_fall 14 = .ok (.goto 4, 3) := by decide +kernel
theorem dX8_fall_17 : decode cX8_fall 17 = .ok (.iconst 1, 1) := by decide +kernel
theorem dX8_fall_18 : decode cX8_fall 18 = .ok (.invokevirtual 164, 3) := by decide +kernel
theorem dX8_fall_21 : decode cX8_fall 21 = .ok (.ifCond .eq 5, 3) := by decide +kernel
theorem dX8_fall_24 : decode cX8_fall 24 = .ok (.iconst 0, 1) := by decide +kernel
theorem dX8_fall_25 : decode cX8_fall 25 = .ok (.ireturn, 1) := by decide +kernel
theorem dX8_fall_26 : decode cX8_fall 26 = .ok (.aload_n 0, 1) := by decide +kernel
theorem dX8_fall_27 : decode cX8_fall 27 = .ok (.invokevirtual 225, 3) := by decide +kernel
theorem dX8_fall_30 : decode cX8_fall 30 = .ok (.aload_n 0, 1) := by decide +kernel
theorem dX8_fall_31 : decode cX8_fall 31 = .ok (.getfield 13, 3) := by decide +kernel
theorem dX8_fall_34 : decode cX8_fall 34 = .ok (.iload_n 1, 1) := by decide +kernel
theorem dX8_fall_35 : decode cX8_fall 35 = .ok (.iload_n 2, 1) := by decide +kernel
theorem dX8_fall_36 : decode cX8_fall 36 = .ok (.invokestatic 60, 3) := by decide +kernel
theorem dX8_fall_39 : decode cX8_fall 39 = .ok (.bipush 16, 2) := by decide +kernel
theorem dX8_fall_41 : decode cX8_fall 41 = .ok (.iadd, 1) := by decide +kernel
theorem dX8_fall_42 : decode cX8_fall 42 = .ok (.iload_n 3, 1) := by decide +kernel
theorem dX8_fall_43 : decode cX8_fall 43 = .ok (.ifCond .eq 7, 3) := by decide +kernel
theorem dX8_fall_46 : decode cX8_fall 46 = .ok (.iconst 1, 1) := by decide +kernel
theorem dX8_fall_47 : decode cX8_fall 47 = .ok (.goto 4, 3) := by decide +kernel
theorem dX8_fall_50 : decode cX8_fall 50 = .ok (.iconst 0, 1) := by decide +kernel
theorem dX8_fall_51 : decode cX8_fall 51 = .ok (.iastore, 1) := by decide +kernel
theorem dX8_fall_52 : decode cX8_fall 52 = .ok (.aload_n 0, 1) := by decide +kernel
theorem dX8_fall_53 : decode cX8_fall 53 = .ok (.getfield 13, 3) := by decide +kernel
theorem dX8_fall_56 : decode cX8_fall 56 = .ok (.iload_n 1, 1) := by decide +kernel
theorem dX8_fall_57 : decode cX8_fall 57 = .ok (.bipush 16, 2) := by decide +kernel
theorem dX8_fall_59 : decode cX8_fall 59 = .ok (.invokestatic 156, 3) := by decide +kernel
theorem dX8_fall_62 : decode cX8_fall 62 = .ok (.ireturn, 1) := by decide +kernel
theorem dX8_penalty_0 : decode cX8_penalty 0 = .ok (.aload_n 0, 1) := by decide +kernel
theorem dX8_penalty_1 : decode cX8_penalty 1 = .ok (.aload_n 0, 1) := by decide +kernel
theorem dX8_penalty_2 : decode cX8_penalty 2 = .ok (.getfield 13, 3) := by decide +kernel
theorem dX8_penalty_5 : decode cX8_penalty 5 = .ok (.iload_n 1, 1) := by decide +kernel
theorem dX8_penalty_6 : decode cX8_penalty 6 = .ok (.invokestatic 68, 3) := by decide +kernel
theorem dX8_penalty_9 : decode cX8_penalty 9 = .ok (.ifCond .ne 7, 3) := by decide +kernel
theorem dX8_penalty_12 : decode cX8_penalty 12 = .ok (.iconst 1, 1) := by decide +kernel
theorem dX8_penalty_13 : decode cX8_penalty 13 = .ok (.goto 20, 3) := by decide +kernel
theorem dX8_penalty_16 : decode cX8_penalty 16 = .ok (.iload_n 2, 1) := by decide +kernel
theorem dX8_penalty_17 : decode cX8_penalty 17 = .ok (.i2l, 1) := by decide +kernel
theorem dX8_penalty_18 : decode cX8_penalty 18 = .ok (.lconst 0, 1) := by decide +kernel
theorem dX8_penalty_19 : decode cX8_penalty 19 = .ok (.ldc2_w 247, 3) := by decide +kernel
theorem dX8_penalty_22 : decode cX8_penalty 22 = .ok (.invokestatic 64, 3) := by decide +kernel
theorem dX8_penalty_25 : decode cX8_penalty 25 = .ok (.ifCond .eq 7, 3) := by decide +kernel
theorem dX8_penalty_28 : decode cX8_penalty 28 = .ok (.iconst 0, 1) := by decide +kernel
theorem dX8_penalty_29 : decode cX8_penalty 29 = .ok (.goto 4, 3) := by decide +kernel
theorem dX8_penalty_32 : decode cX8_penalty 32 = .ok (.iconst 2, 1) := by decide +kernel
theorem dX8_penalty_33 : decode cX8_penalty 33 = .ok (.invokevirtual 164, 3) := by decide +kernel
theorem dX8_penalty_36 : decode cX8_penalty 36 = .ok (.ifCond .eq 5, 3) := by decide +kernel
theorem dX8_penalty_39 : decode cX8_penalty 39 = .ok (.iconst 0, 1) := by decide +kernel
theorem dX8_penalty_40 : decode cX8_penalty 40 = .ok (.ireturn, 1) := by decide +kernel
theorem dX8_penalty_41 : decode cX8_penalty 41 = .ok (.aload_n 0, 1) := by decide +kernel
theorem dX8_penalty_42 : decode cX8_penalty 42 = .ok (.invokevirtual 225, 3) := by decide +kernel
theorem dX8_penalty_45 : decode cX8_penalty 45 = .ok (.aload_n 0, 1) := by decide +kernel
theorem dX8_penalty_46 : decode cX8_penalty 46 = .ok (.getfield 13, 3) := by decide +kernel
theorem dX8_penalty_49 : decode cX8_penalty 49 = .ok (.iload_n 1, 1) := by decide +kernel
theorem dX8_penalty_50 : decode cX8_penalty 50 = .ok (.invokestatic 72, 3) := by decide +kernel
theorem dX8_penalty_53 : decode cX8_penalty 53 = .ok (.iconst 1, 1) := by decide +kernel
theorem dX8_penalty_54 : decode cX8_penalty 54 = .ok (.iadd, 1) := by decide +kernel
theorem dX8_penalty_55 : decode cX8_penalty 55 = .ok (.iaload, 1) := by decide +kernel
theorem dX8_penalty_56 : decode cX8_penalty 56 = .ok (.istore_n 3, 1) := by decide +kernel
theorem dX8_penalty_57 : decode cX8_penalty 57 = .ok (.aload_n 0, 1) := by decide +kernel
theorem dX8_penalty_58 : decode cX8_penalty 58 = .ok (.getfield 13, 3) := by decide +kernel
theorem dX8_penalty_61 : decode cX8_penalty 61 = .ok (.iload_n 1, 1) := by decide +kernel
theorem dX8_penalty_62 : decode cX8_penalty 62 = .ok (.invokestatic 72, 3) := by decide +kernel
theorem dX8_penalty_65 : decode cX8_penalty 65 = .ok (.iconst 1, 1) := by decide +kernel
theorem dX8_penalty_66 : decode cX8_penalty 66 = .ok (.iadd, 1) := by decide +kernel
theorem dX8_penalty_67 : decode cX8_penalty 67 = .ok (.iload_n 2, 1) := by decide +kernel
theorem dX8_penalty_68 : decode cX8_penalty 68 = .ok (.iastore, 1) := by decide +kernel
theorem dX8_penalty_69 : decode cX8_penalty 69 = .ok (.iload_n 3, 1) := by decide +kernel
theorem dX8_penalty_70 : decode cX8_penalty 70 = .ok (.ireturn, 1) := by decide +kernel
theorem dX8_isSetting_0 : decode cX8_isSetting 0 = .ok (.iload_n 0, 1) := by decide +kernel
theorem dX8_isSetting_1 : decode cX8_isSetting 1 = .ok (.i2l, 1) := by decide +kernel
theorem dX8_isSetting_2 : decode cX8_isSetting 2 = .ok (.lconst 0, 1) := by decide +kernel
theorem dX8_isSetting_3 : decode cX8_isSetting 3 = .ok (.ldc2_w 216, 3) := by decide +kernel
theorem dX8_isSetting_6 : decode cX8_isSetting 6 = .ok (.invokestatic 64, 3) := by decide +kernel
theorem dX8_isSetting_9 : decode cX8_isSetting 9 = .ok (.ifCond .eq 61, 3) := by decide +kernel
theorem dX8_isSetting_12 : decode cX8_isSetting 12 = .ok (.iload_n 1, 1) := by decide +kernel
theorem dX8_isSetting_13 : decode cX8_isSetting 13 = .ok (.i2l, 1) := by decide +kernel
theorem dX8_isSetting_14 : decode cX8_isSetting 14 = .ok (.iload_n 0, 1) := by decide +kernel
theorem dX8_isSetting_15 : decode cX8_isSetting 15 = .ok (.ifCond .ne 9, 3) := by decide +kernel
theorem dX8_isSetting_18 : decode cX8_isSetting 18 = .ok (.ldc2_w 249, 3) := by decide +kernel
theorem dX8_isSetting_21 : decode cX8_isSetting 21 = .ok (.goto 4, 3) := by decide +kernel
theorem dX8_isSetting_24 : decode cX8_isSetting 24 = .ok (.lconst 0, 1) := by decide +kernel
theorem dX8_isSetting_25 : decode cX8_isSetting 25 = .ok (.iload_n 0, 1) := by decide +kernel
theorem dX8_isSetting_26 : decode cX8_isSetting 26 = .ok (.ifCond .ne 9, 3) := by decide +kernel
theorem dX8_isSetting_29 : decode cX8_isSetting 29 = .ok (.ldc2_w 251, 3) := by decide +kernel
theorem dX8_isSetting_32 : decode cX8_isSetting 32 = .ok (.goto 28, 3) := by decide +kernel
theorem dX8_isSetting_35 : decode cX8_isSetting 35 = .ok (.iload_n 0, 1) := by decide +kernel
theorem dX8_isSetting_36 : decode cX8_isSetting 36 = .ok (.iconst 2, 1) := by decide +kernel
theorem dX8_isSetting_37 : decode cX8_isSetting 37 = .ok (.if_icmp .ne 9, 3) := by decide +kernel
theorem dX8_isSetting_40 : decode cX8_isSetting 40 = .ok (.ldc2_w 253, 3) := by decide +kernel
theorem dX8_isSetting_43 : decode cX8_isSetting 43 = .ok (.goto 17, 3) := by decide +kernel
theorem dX8_isSetting_46 : decode cX8_isSetting 46 = .ok (.iload_n 0, 1) := by decide +kernel
theorem dX8_isSetting_47 : decode cX8_isSetting 47 = .ok (.iconst 4, 1) := by decide +kernel
theorem dX8_isSetting_48 : decode cX8_isSetting 48 = .ok (.if_icmp .ne 9, 3) := by decide +kernel
theorem dX8_isSetting_51 : decode cX8_isSetting 51 = .ok (.ldc2_w 255, 3) := by decide +kernel
theorem dX8_isSetting_54 : decode cX8_isSetting 54 = .ok (.goto 6, 3) := by decide +kernel
theorem dX8_isSetting_57 : decode cX8_isSetting 57 = .ok (.ldc2_w 199, 3) := by decide +kernel
theorem dX8_isSetting_60 : decode cX8_isSetting 60 = .ok (.invokestatic 64, 3) := by decide +kernel
theorem dX8_isSetting_63 : decode cX8_isSetting 63 = .ok (.ifCond .eq 7, 3) := by decide +kernel
theorem dX8_isSetting_66 : decode cX8_isSetting 66 = .ok (.iconst 1, 1) := by decide +kernel
theorem dX8_isSetting_67 : decode cX8_isSetting 67 = .ok (.goto 4, 3) := by decide +kernel
theorem dX8_isSetting_70 : decode cX8_isSetting 70 = .ok (.iconst 0, 1) := by decide +kernel
theorem dX8_isSetting_71 : decode cX8_isSetting 71 = .ok (.ireturn, 1) := by decide +kernel
theorem dX8_set_0 : decode cX8_set 0 = .ok (.aload_n 0, 1) := by decide +kernel
theorem dX8_set_1 : decode cX8_set 1 = .ok (.iload_n 1, 1) := by decide +kernel
theorem dX8_set_2 : decode cX8_set 2 = .ok (.iload_n 2, 1) := by decide +kernel
theorem dX8_set_3 : decode cX8_set 3 = .ok (.invokestatic 257, 3) := by decide +kernel
theorem dX8_set_6 : decode cX8_set 6 = .ok (.ifCond .eq 7, 3) := by decide +kernel
theorem dX8_set_9 : decode cX8_set 9 = .ok (.iconst 0, 1) := by decide +kernel
theorem dX8_set_10 : decode cX8_set 10 = .ok (.goto 4, 3) := by decide +kernel
theorem dX8_set_13 : decode cX8_set 13 = .ok (.iconst 1, 1) := by decide +kernel
theorem dX8_set_14 : decode cX8_set 14 = .ok (.invokevirtual 164, 3) := by decide +kernel
theorem dX8_set_17 : decode cX8_set 17 = .ok (.ifCond .eq 5, 3) := by decide +kernel
theorem dX8_set_20 : decode cX8_set 20 = .ok (.iconst 0, 1) := by decide +kernel
theorem dX8_set_21 : decode cX8_set 21 = .ok (.ireturn, 1) := by decide +kernel
theorem dX8_set_22 : decode cX8_set 22 = .ok (.aload_n 0, 1) := by decide +kernel
theorem dX8_set_23 : decode cX8_set 23 = .ok (.invokevirtual 225, 3) := by decide +kernel
theorem dX8_set_26 : decode cX8_set 26 = .ok (.aload_n 0, 1) := by decide +kernel
theorem dX8_set_27 : decode cX8_set 27 = .ok (.getfield 13, 3) := by decide +kernel
theorem dX8_set_30 : decode cX8_set 30 = .ok (.iconst 1, 1) := by decide +kernel
theorem dX8_set_31 : decode cX8_set 31 = .ok (.iload_n 1, 1) := by decide +kernel
theorem dX8_set_32 : decode cX8_set 32 = .ok (.iadd, 1) := by decide +kernel
theorem dX8_set_33 : decode cX8_set 33 = .ok (.iaload, 1) := by decide +kernel
theorem dX8_set_34 : decode cX8_set 34 = .ok (.istore_n 3, 1) := by decide +kernel
theorem dX8_set_35 : decode cX8_set 35 = .ok (.aload_n 0, 1) := by decide +kernel
theorem dX8_set_36 : decode cX8_set 36 = .ok (.getfield 13, 3) := by decide +kernel
theorem dX8_set_39 : decode cX8_set 39 = .ok (.iconst 1, 1) := by decide +kernel
theorem dX8_set_40 : decode cX8_set 40 = .ok (.iload_n 1, 1) := by decide +kernel
theorem dX8_set_41 : decode cX8_set 41 = .ok (.iadd, 1) := by decide +kernel
theorem dX8_set_42 : decode cX8_set 42 = .ok (.iload_n 2, 1) := by decide +kernel
theorem dX8_set_43 : decode cX8_set 43 = .ok (.iastore, 1) := by decide +kernel
theorem dX8_set_44 : decode cX8_set 44 = .ok (.iload_n 3, 1) := by decide +kernel
theorem dX8_set_45 : decode cX8_set 45 = .ok (.ireturn, 1) := by decide +kernel
theorem dX8_undo_0 : decode cX8_undo 0 = .ok (.aload_n 0, 1) := by decide +kernel
theorem dX8_undo_1 : decode cX8_undo 1 = .ok (.aload_n 0, 1) := by decide +kernel
theorem dX8_undo_2 : decode cX8_undo 2 = .ok (.getfield 218, 3) := by decide +kernel
theorem dX8_undo_5 : decode cX8_undo 5 = .ok (.ifCond .ne 7, 3) := by decide +kernel
theorem dX8_undo_8 : decode cX8_undo 8 = .ok (.iconst 1, 1) := by decide +kernel
theorem dX8_undo_9 : decode cX8_undo 9 = .ok (.goto 4, 3) := by decide +kernel
theorem dX8_undo_12 : decode cX8_undo 12 = .ok (.iconst 0, 1) := by decide +kernel
theorem dX8_undo_13 : decode cX8_undo 13 = .ok (.invokevirtual 164, 3) := by decide +kernel
theorem dX8_undo_16 : decode cX8_undo 16 = .ok (.ifCond .eq 5, 3) := by decide +kernel
theorem dX8_undo_19 : decode cX8_undo 19 = .ok (.iconst 0, 1) := by decide +kernel
theorem dX8_undo_20 : decode cX8_undo 20 = .ok (.ireturn, 1) := by decide +kernel
theorem dX8_undo_21 : decode cX8_undo 21 = .ok (.aload_n 0, 1) := by decide +kernel
theorem dX8_undo_22 : decode cX8_undo 22 = .ok (.dup, 1) := by decide +kernel
theorem dX8_undo_23 : decode cX8_undo 23 = .ok (.getfield 218, 3) := by decide +kernel
theorem dX8_undo_26 : decode cX8_undo 26 = .ok (.iconst 1, 1) := by decide +kernel
theorem dX8_undo_27 : decode cX8_undo 27 = .ok (.isub, 1) := by decide +kernel
theorem dX8_undo_28 : decode cX8_undo 28 = .ok (.putfield 218, 3) := by decide +kernel
theorem dX8_undo_31 : decode cX8_undo 31 = .ok (.aload_n 0, 1) := by decide +kernel
theorem dX8_undo_32 : decode cX8_undo 32 = .ok (.getfield 19, 3) := by decide +kernel
theorem dX8_undo_35 : decode cX8_undo 35 = .ok (.sipush 938, 3) := by decide +kernel
theorem dX8_undo_38 : decode cX8_undo 38 = .ok (.aload_n 0, 1) := by decide +kernel
theorem dX8_undo_39 : decode cX8_undo 39 = .ok (.getfield 218, 3) := by decide +kernel
theorem dX8_undo_42 : decode cX8_undo 42 = .ok (.imul, 1) := by decide +kernel
theorem dX8_undo_43 : decode cX8_undo 43 = .ok (.aload_n 0, 1) := by decide +kernel
theorem dX8_undo_44 : decode cX8_undo 44 = .ok (.getfield 13, 3) := by decide +kernel
theorem dX8_undo_47 : decode cX8_undo 47 = .ok (.iconst 0, 1) := by decide +kernel
theorem dX8_undo_48 : decode cX8_undo 48 = .ok (.invokestatic 221, 3) := by decide +kernel
theorem dX8_undo_51 : decode cX8_undo 51 = .ok (.aload_n 0, 1) := by decide +kernel
theorem dX8_undo_52 : decode cX8_undo 52 = .ok (.getfield 218, 3) := by decide +kernel
theorem dX8_undo_55 : decode cX8_undo 55 = .ok (.ireturn, 1) := by decide +kernel
theorem dX8_ifCalled_0 : decode cX8_ifCalled 0 = .ok (.aload_n 0, 1) := by decide +kernel
theorem dX8_ifCalled_1 : decode cX8_ifCalled 1 = .ok (.aload_n 0, 1) := by decide +kernel
theorem dX8_ifCalled_2 : decode cX8_ifCalled 2 = .ok (.getfield 13, 3) := by decide +kernel
theorem dX8_ifCalled_5 : decode cX8_ifCalled 5 = .ok (.iload_n 1, 1) := by decide +kernel
theorem dX8_ifCalled_6 : decode cX8_ifCalled 6 = .ok (.iload_n 2, 1) := by decide +kernel
theorem dX8_ifCalled_7 : decode cX8_ifCalled 7 = .ok (.iload_n 3, 1) := by decide +kernel
theorem dX8_ifCalled_8 : decode cX8_ifCalled 8 = .ok (.iload 4, 2) := by decide +kernel
theorem dX8_ifCalled_10 : decode cX8_ifCalled 10 = .ok (.invokestatic 240, 3) := by decide +kernel
theorem dX8_ifCalled_13 : decode cX8_ifCalled 13 = .ok (.invokevirtual 164, 3) := by decide +kernel
theorem dX8_ifCalled_16 : decode cX8_ifCalled 16 = .ok (.ifCond .eq 5, 3) := by decide +kernel
theorem dX8_ifCalled_19 : decode cX8_ifCalled 19 = .ok (.iconst 0, 1) := by decide +kernel
theorem dX8_ifCalled_20 : decode cX8_ifCalled 20 = .ok (.ireturn, 1) := by decide +kernel
theorem dX8_ifCalled_21 : decode cX8_ifCalled 21 = .ok (.aload_n 0, 1) := by decide +kernel
theorem dX8_ifCalled_22 : decode cX8_ifCalled 22 = .ok (.getfield 13, 3) := by decide +kernel
theorem dX8_ifCalled_25 : decode cX8_ifCalled 25 = .ok (.iconst 0, 1) := by decide +kernel
theorem dX8_ifCalled_26 : decode cX8_ifCalled 26 = .ok (.aload_n 0, 1) := by decide +kernel
theorem dX8_ifCalled_27 : decode cX8_ifCalled 27 = .ok (.getfield 16, 3) := by decide +kernel
theorem dX8_ifCalled_30 : decode cX8_ifCalled 30 = .ok (.iconst 0, 1) := by decide +kernel
theorem dX8_ifCalled_31 : decode cX8_ifCalled 31 = .ok (.invokestatic 221, 3) := by decide +kernel
theorem dX8_ifCalled_34 : decode cX8_ifCalled 34 = .ok (.aload_n 0, 1) := by decide +kernel
theorem dX8_ifCalled_35 : decode cX8_ifCalled 35 = .ok (.getfield 16, 3) := by decide +kernel
theorem dX8_ifCalled_38 : decode cX8_ifCalled 38 = .ok (.iload_n 1, 1) := by decide +kernel
theorem dX8_ifCalled_39 : decode cX8_ifCalled 39 = .ok (.iload_n 2, 1) := by decide +kernel
theorem dX8_ifCalled_40 : decode cX8_ifCalled 40 = .ok (.iload_n 3, 1) := by decide +kernel
theorem dX8_ifCalled_41 : decode cX8_ifCalled 41 = .ok (.iload 4, 2) := by decide +kernel
theorem dX8_ifCalled_43 : decode cX8_ifCalled 43 = .ok (.invokestatic 244, 3) := by decide +kernel
theorem dX8_ifCalled_46 : decode cX8_ifCalled 46 = .ok (.pop, 1) := by decide +kernel
theorem dX8_ifCalled_47 : decode cX8_ifCalled 47 = .ok (.aload_n 0, 1) := by decide +kernel
theorem dX8_ifCalled_48 : decode cX8_ifCalled 48 = .ok (.aload_n 0, 1) := by decide +kernel
theorem dX8_ifCalled_49 : decode cX8_ifCalled 49 = .ok (.getfield 16, 3) := by decide +kernel
theorem dX8_ifCalled_52 : decode cX8_ifCalled 52 = .ok (.iload_n 1, 1) := by decide +kernel
theorem dX8_ifCalled_53 : decode cX8_ifCalled 53 = .ok (.invokevirtual 146, 3) := by decide +kernel
theorem dX8_ifCalled_56 : decode cX8_ifCalled 56 = .ok (.ireturn, 1) := by decide +kernel
theorem dX8_ifReplaced_0 : decode cX8_ifReplaced 0 = .ok (.aload_n 0, 1) := by decide +kernel
theorem dX8_ifReplaced_1 : decode cX8_ifReplaced 1 = .ok (.aload_n 0, 1) := by decide +kernel
theorem dX8_ifReplaced_2 : decode cX8_ifReplaced 2 = .ok (.getfield 13, 3) := by decide +kernel
theorem dX8_ifReplaced_5 : decode cX8_ifReplaced 5 = .ok (.iload_n 1, 1) := by decide +kernel
theorem dX8_ifReplaced_6 : decode cX8_ifReplaced 6 = .ok (.iload_n 2, 1) := by decide +kernel
theorem dX8_ifReplaced_7 : decode cX8_ifReplaced 7 = .ok (.invokestatic 76, 3) := by decide +kernel
theorem dX8_ifReplaced_10 : decode cX8_ifReplaced 10 = .ok (.ifCond .ne 7, 3) := by decide +kernel
theorem dX8_ifReplaced_13 : decode cX8_ifReplaced 13 = .ok (.iconst 1, 1) := by decide +kernel
theorem dX8_ifReplaced_14 : decode cX8_ifReplaced 14 = .ok (.goto 26, 3) := by decide +kernel
theorem dX8_ifReplaced_17 : decode cX8_ifReplaced 17 = .ok (.aload_n 0, 1) := by decide +kernel
theorem dX8_ifReplaced_18 : decode cX8_ifReplaced 18 = .ok (.invokevirtual 196, 3) := by decide +kernel
theorem dX8_ifReplaced_21 : decode cX8_ifReplaced 21 = .ok (.iconst (-1), 1) := by decide +kernel
theorem dX8_ifReplaced_22 : decode cX8_ifReplaced 22 = .ok (.if_icmp .ne 17, 3) := by decide +kernel
theorem dX8_ifReplaced_25 : decode cX8_ifReplaced 25 = .ok (.aload_n 0, 1) := by decide +kernel
theorem dX8_ifReplaced_26 : decode cX8_ifReplaced 26 = .ok (.getfield 29, 3) := by decide +kernel
theorem dX8_ifReplaced_29 : decode cX8_ifReplaced 29 = .ok (.iconst 0, 1) := by decide +kernel
theorem dX8_ifReplaced_30 : decode cX8_ifReplaced 30 = .ok (.iaload, 1) := by decide +kernel
theorem dX8_ifReplaced_31 : decode cX8_ifReplaced 31 = .ok (.iconst 1, 1) := by decide +kernel
theorem dX8_ifReplaced_32 : decode cX8_ifReplaced 32 = .ok (.if_icmp .ne 7, 3) := by decide +kernel
theorem dX8_ifReplaced_35 : decode cX8_ifReplaced 35 = .ok (.iconst 0, 1) := by decide +kernel
theorem dX8_ifReplaced_36 : decode cX8_ifReplaced 36 = .ok (.goto 4, 3) := by decide +kernel
theorem dX8_ifReplaced_39 : decode cX8_ifReplaced 39 = .ok (.iconst 2, 1) := by decide +kernel
theorem dX8_ifReplaced_40 : decode cX8_ifReplaced 40 = .ok (.invokevirtual 164, 3) := by decide +kernel
theorem dX8_ifReplaced_43 : decode cX8_ifReplaced 43 = .ok (.ifCond .eq 5, 3) := by decide +kernel
theorem dX8_ifReplaced_46 : decode cX8_ifReplaced 46 = .ok (.iconst 0, 1) := by decide +kernel
theorem dX8_ifReplaced_47 : decode cX8_ifReplaced 47 = .ok (.ireturn, 1) := by decide +kernel
theorem dX8_ifReplaced_48 : decode cX8_ifReplaced 48 = .ok (.aload_n 0, 1) := by decide +kernel
theorem dX8_ifReplaced_49 : decode cX8_ifReplaced 49 = .ok (.getfield 13, 3) := by decide +kernel
theorem dX8_ifReplaced_52 : decode cX8_ifReplaced 52 = .ok (.iconst 0, 1) := by decide +kernel
theorem dX8_ifReplaced_53 : decode cX8_ifReplaced 53 = .ok (.aload_n 0, 1) := by decide +kernel
theorem dX8_ifReplaced_54 : decode cX8_ifReplaced 54 = .ok (.getfield 16, 3) := by decide +kernel
theorem dX8_ifReplaced_57 : decode cX8_ifReplaced 57 = .ok (.iconst 0, 1) := by decide +kernel
theorem dX8_ifReplaced_58 : decode cX8_ifReplaced 58 = .ok (.invokestatic 221, 3) := by decide +kernel
theorem dX8_ifReplaced_61 : decode cX8_ifReplaced 61 = .ok (.iconst 0, 1) := by decide +kernel
theorem dX8_ifReplaced_62 : decode cX8_ifReplaced 62 = .ok (.istore_n 3, 1) := by decide +kernel
theorem dX8_ifReplaced_63 : decode cX8_ifReplaced 63 = .ok (.iload_n 3, 1) := by decide +kernel
theorem dX8_ifReplaced_64 : decode cX8_ifReplaced 64 = .ok (.bipush 18, 2) := by decide +kernel
theorem dX8_ifReplaced_66 : decode cX8_ifReplaced 66 = .ok (.if_icmp .ge 30, 3) := by decide +kernel
theorem dX8_ifReplaced_69 : decode cX8_ifReplaced 69 = .ok (.aload_n 0, 1) := by decide +kernel
theorem dX8_ifReplaced_70 : decode cX8_ifReplaced 70 = .ok (.getfield 16, 3) := by decide +kernel
theorem dX8_ifReplaced_73 : decode cX8_ifReplaced 73 = .ok (.iload_n 1, 1) := by decide +kernel
theorem dX8_ifReplaced_74 : decode cX8_ifReplaced 74 = .ok (.iload_n 2, 1) := by decide +kernel
theorem dX8_ifReplaced_75 : decode cX8_ifReplaced 75 = .ok (.invokestatic 60, 3) := by decide +kernel
theorem dX8_ifReplaced_78 : decode cX8_ifReplaced 78 = .ok (.iload_n 3, 1) := by decide +kernel
theorem dX8_ifReplaced_79 : decode cX8_ifReplaced 79 = .ok (.iadd, 1) := by decide +kernel
theorem dX8_ifReplaced_80 : decode cX8_ifReplaced 80 = .ok (.aload_n 0, 1) := by decide +kernel
theorem dX8_ifReplaced_81 : decode cX8_ifReplaced 81 = .ok (.getfield 29, 3) := by decide +kernel
theorem dX8_ifReplaced_84 : decode cX8_ifReplaced 84 = .ok (.bipush 17, 2) := by decide +kernel
theorem dX8_ifReplaced_86 : decode cX8_ifReplaced 86 = .ok (.iload_n 3, 1) := by decide +kernel
theorem dX8_ifReplaced_87 : decode cX8_ifReplaced 87 = .ok (.iadd, 1) := by decide +kernel
theorem dX8_ifReplaced_88 : decode cX8_ifReplaced 88 = .ok (.iaload, 1) := by decide +kernel
theorem dX8_ifReplaced_89 : decode cX8_ifReplaced 89 = .ok (.iastore, 1) := by decide +kernel
theorem dX8_ifReplaced_90 : decode cX8_ifReplaced 90 = .ok (.iinc 3 1, 3) := by decide +kernel
theorem dX8_ifReplaced_93 : decode cX8_ifReplaced 93 = .ok (.goto (-30), 3) := by decide +kernel
theorem dX8_ifReplaced_96 : decode cX8_ifReplaced 96 = .ok (.aload_n 0, 1) := by decide +kernel
theorem dX8_ifReplaced_97 : decode cX8_ifReplaced 97 = .ok (.aload_n 0, 1) := by decide +kernel
theorem dX8_ifReplaced_98 : decode cX8_ifReplaced 98 = .ok (.getfield 16, 3) := by decide +kernel
theorem dX8_ifReplaced_101 : decode cX8_ifReplaced 101 = .ok (.iload_n 1, 1) := by decide +kernel
theorem dX8_ifReplaced_102 : decode cX8_ifReplaced 102 = .ok (.invokevirtual 146, 3) := by decide +kernel
theorem dX8_ifReplaced_105 : decode cX8_ifReplaced 105 = .ok (.ireturn, 1) := by decide +kernel
theorem dX8_bestSwap_0 : decode cX8_bestSwap 0 = .ok (.aload_n 0, 1) := by decide +kernel
theorem dX8_bestSwap_1 : decode cX8_bestSwap 1 = .ok (.aload_n 0, 1) := by decide +kernel
theorem dX8_bestSwap_2 : decode cX8_bestSwap 2 = .ok (.getfield 13, 3) := by decide +kernel
theorem dX8_bestSwap_5 : decode cX8_bestSwap 5 = .ok (.iload_n 1, 1) := by decide +kernel
theorem dX8_bestSwap_6 : decode cX8_bestSwap 6 = .ok (.invokestatic 68, 3) := by decide +kernel
theorem dX8_bestSwap_9 : decode cX8_bestSwap 9 = .ok (.ifCond .ne 7, 3) := by decide +kernel
theorem dX8_bestSwap_12 : decode cX8_bestSwap 12 = .ok (.iconst 1, 1) := by decide +kernel
theorem dX8_bestSwap_13 : decode cX8_bestSwap 13 = .ok (.goto 20, 3) := by decide +kernel
theorem dX8_bestSwap_16 : decode cX8_bestSwap 16 = .ok (.iload_n 2, 1) := by decide +kernel
theorem dX8_bestSwap_17 : decode cX8_bestSwap 17 = .ok (.i2l, 1) := by decide +kernel
theorem dX8_bestSwap_18 : decode cX8_bestSwap 18 = .ok (.lconst 0, 1) := by decide +kernel
theorem dX8_bestSwap_19 : decode cX8_bestSwap 19 = .ok (.ldc2_w 234, 3) := by decide +kernel
theorem dX8_bestSwap_22 : decode cX8_bestSwap 22 = .ok (.invokestatic 64, 3) := by decide +kernel
theorem dX8_bestSwap_25 : decode cX8_bestSwap 25 = .ok (.ifCond .eq 7, 3) := by decide +kernel
theorem dX8_bestSwap_28 : decode cX8_bestSwap 28 = .ok (.iconst 0, 1) := by decide +kernel
theorem dX8_bestSwap_29 : decode cX8_bestSwap 29 = .ok (.goto 4, 3) := by decide +kernel
theorem dX8_bestSwap_32 : decode cX8_bestSwap 32 = .ok (.iconst 2, 1) := by decide +kernel
theorem dX8_bestSwap_33 : decode cX8_bestSwap 33 = .ok (.invokevirtual 164, 3) := by decide +kernel
theorem dX8_bestSwap_36 : decode cX8_bestSwap 36 = .ok (.ifCond .eq 5, 3) := by decide +kernel
theorem dX8_bestSwap_39 : decode cX8_bestSwap 39 = .ok (.iconst 0, 1) := by decide +kernel
theorem dX8_bestSwap_40 : decode cX8_bestSwap 40 = .ok (.ireturn, 1) := by decide +kernel
theorem dX8_bestSwap_41 : decode cX8_bestSwap 41 = .ok (.iconst (-1), 1) := by decide +kernel
theorem dX8_bestSwap_42 : decode cX8_bestSwap 42 = .ok (.istore_n 3, 1) := by decide +kernel
theorem dX8_bestSwap_43 : decode cX8_bestSwap 43 = .ok (.iconst (-1), 1) := by decide +kernel
theorem dX8_bestSwap_44 : decode cX8_bestSwap 44 = .ok (.istore 4, 2) := by decide +kernel
theorem dX8_bestSwap_46 : decode cX8_bestSwap 46 = .ok (.iconst 0, 1) := by decide +kernel
theorem dX8_bestSwap_47 : decode cX8_bestSwap 47 = .ok (.istore 5, 2) := by decide +kernel
theorem dX8_bestSwap_49 : decode cX8_bestSwap 49 = .ok (.iconst 0, 1) := by decide +kernel
theorem dX8_bestSwap_50 : decode cX8_bestSwap 50 = .ok (.istore 6, 2) := by decide +kernel
theorem dX8_bestSwap_52 : decode cX8_bestSwap 52 = .ok (.iload 6, 2) := by decide +kernel
theorem dX8_bestSwap_54 : decode cX8_bestSwap 54 = .ok (.aload_n 0, 1) := by decide +kernel
theorem dX8_bestSwap_55 : decode cX8_bestSwap 55 = .ok (.getfield 13, 3) := by decide +kernel
theorem dX8_bestSwap_58 : decode cX8_bestSwap 58 = .ok (.iload_n 1, 1) := by decide +kernel
theorem dX8_bestSwap_59 : decode cX8_bestSwap 59 = .ok (.invokestatic 72, 3) := by decide +kernel
theorem dX8_bestSwap_62 : decode cX8_bestSwap 62 = .ok (.iconst 0, 1) := by decide +kernel
theorem dX8_bestSwap_63 : decode cX8_bestSwap 63 = .ok (.iadd, 1) := by decide +kernel
theorem dX8_bestSwap_64 : decode cX8_bestSwap 64 = .ok (.iaload, 1) := by decide +kernel
theorem dX8_bestSwap_65 : decode cX8_bestSwap 65 = .ok (.if_icmp .ge 156, 3) := by decide +kernel
theorem dX8_bestSwap_68 : decode cX8_bestSwap 68 = .ok (.iload 6, 2) := by decide +kernel
theorem dX8_bestSwap_70 : decode cX8_bestSwap 70 = .ok (.iconst 1, 1) := by decide +kernel
theorem dX8_bestSwap_71 : decode cX8_bestSwap 71 = .ok (.iadd, 1) := by decide +kernel
theorem dX8_bestSwap_72 : decode cX8_bestSwap 72 = .ok (.istore 7, 2) := by decide +kernel
theorem dX8_bestSwap_74 : decode cX8_bestSwap 74 = .ok (.iload 7, 2) := by decide +kernel
theorem dX8_bestSwap_76 : decode cX8_bestSwap 76 = .ok (.aload_n 0, 1) := by decide +kernel
theorem dX8_bestSwap_77 : decode cX8_bestSwap 77 = .ok (.getfield 13, 3) := by decide +kernel
theorem dX8_bestSwap_80 : decode cX8_bestSwap 80 = .ok (.iload_n 1, 1) := by decide +kernel
theorem dX8_bestSwap_81 : decode cX8_bestSwap 81 = .ok (.invokestatic 72, 3) := by decide +kernel
theorem dX8_bestSwap_84 : decode cX8_bestSwap 84 = .ok (.iconst 0, 1) := by decide +kernel
theorem dX8_bestSwap_85 : decode cX8_bestSwap 85 = .ok (.iadd, 1) := by decide +kernel
theorem dX8_bestSwap_86 : decode cX8_bestSwap 86 = .ok (.iaload, 1) := by decide +kernel
theorem dX8_bestSwap_87 : decode cX8_bestSwap 87 = .ok (.if_icmp .ge 128, 3) := by decide +kernel
theorem dX8_bestSwap_90 : decode cX8_bestSwap 90 = .ok (.aload_n 0, 1) := by decide +kernel
theorem dX8_bestSwap_91 : decode cX8_bestSwap 91 = .ok (.getfield 13, 3) := by decide +kernel
theorem dX8_bestSwap_94 : decode cX8_bestSwap 94 = .ok (.iconst 0, 1) := by decide +kernel
theorem dX8_bestSwap_95 : decode cX8_bestSwap 95 = .ok (.aload_n 0, 1) := by decide +kernel
theorem dX8_bestSwap_96 : decode cX8_bestSwap 96 = .ok (.getfield 16, 3) := by decide +kernel
theorem dX8_bestSwap_99 : decode cX8_bestSwap 99 = .ok (.iconst 0, 1) := by decide +kernel
theorem dX8_bestSwap_100 : decode cX8_bestSwap 100 = .ok (.invokestatic 221, 3) := by decide +kernel
theorem dX8_bestSwap_103 : decode cX8_bestSwap 103 = .ok (.iconst 0, 1) := by decide +kernel
theorem dX8_bestSwap_104 : decode cX8_bestSwap 104 = .ok (.istore 8, 2) := by decide +kernel
theorem dX8_bestSwap_106 : decode cX8_bestSwap 106 = .ok (.iload 8, 2) := by decide +kernel
theorem dX8_bestSwap_108 : decode cX8_bestSwap 108 = .ok (.bipush 18, 2) := by decide +kernel
theorem dX8_bestSwap_110 : decode cX8_bestSwap 110 = .ok (.if_icmp .ge 65, 3) := by decide +kernel
theorem dX8_bestSwap_113 : decode cX8_bestSwap 113 = .ok (.aload_n 0, 1) := by decide +kernel
theorem dX8_bestSwap_114 : decode cX8_bestSwap 114 = .ok (.getfield 16, 3) := by decide +kernel
theorem dX8_bestSwap_117 : decode cX8_bestSwap 117 = .ok (.iload_n 1, 1) := by decide +kernel
theorem dX8_bestSwap_118 : decode cX8_bestSwap 118 = .ok (.iload 6, 2) := by decide +kernel
theorem dX8_bestSwap_120 : decode cX8_bestSwap 120 = .ok (.invokestatic 60, 3) := by decide +kernel
theorem dX8_bestSwap_123 : decode cX8_bestSwap 123 = .ok (.iload 8, 2) := by decide +kernel
theorem dX8_bestSwap_125 : decode cX8_bestSwap 125 = .ok (.iadd, 1) := by decide +kernel
theorem dX8_bestSwap_126 : decode cX8_bestSwap 126 = .ok (.aload_n 0, 1) := by decide +kernel
theorem dX8_bestSwap_127 : decode cX8_bestSwap 127 = .ok (.getfield 13, 3) := by decide +kernel
theorem dX8_bestSwap_130 : decode cX8_bestSwap 130 = .ok (.iload_n 1, 1) := by decide +kernel
theorem dX8_bestSwap_131 : decode cX8_bestSwap 131 = .ok (.iload 7, 2) := by decide +kernel
theorem dX8_bestSwap_133 : decode cX8_bestSwap 133 = .ok (.invokestatic 60, 3) := by decide +kernel
theorem dX8_bestSwap_136 : decode cX8_bestSwap 136 = .ok (.iload 8, 2) := by decide +kernel
theorem dX8_bestSwap_138 : decode cX8_bestSwap 138 = .ok (.iadd, 1) := by decide +kernel
theorem dX8_bestSwap_139 : decode cX8_bestSwap 139 = .ok (.iaload, 1) := by decide +kernel
theorem dX8_bestSwap_140 : decode cX8_bestSwap 140 = .ok (.iastore, 1) := by decide +kernel
theorem dX8_bestSwap_141 : decode cX8_bestSwap 141 = .ok (.aload_n 0, 1) := by decide +kernel
theorem dX8_bestSwap_142 : decode cX8_bestSwap 142 = .ok (.getfield 16, 3) := by decide +kernel
theorem dX8_bestSwap_145 : decode cX8_bestSwap 145 = .ok (.iload_n 1, 1) := by decide +kernel
theorem dX8_bestSwap_146 : decode cX8_bestSwap 146 = .ok (.iload 7, 2) := by decide +kernel
theorem dX8_bestSwap_148 : decode cX8_bestSwap 148 = .ok (.invokestatic 60, 3) := by decide +kernel
theorem dX8_bestSwap_151 : decode cX8_bestSwap 151 = .ok (.iload 8, 2) := by decide +kernel
theorem dX8_bestSwap_153 : decode cX8_bestSwap 153 = .ok (.iadd, 1) := by decide +kernel
theorem dX8_bestSwap_154 : decode cX8_bestSwap 154 = .ok (.aload_n 0, 1) := by decide +kernel
theorem dX8_bestSwap_155 : decode cX8_bestSwap 155 = .ok (.getfield 13, 3) := by decide +kernel
theorem dX8_bestSwap_158 : decode cX8_bestSwap 158 = .ok (.iload_n 1, 1) := by decide +kernel
theorem dX8_bestSwap_159 : decode cX8_bestSwap 159 = .ok (.iload 6, 2) := by decide +kernel
theorem dX8_bestSwap_161 : decode cX8_bestSwap 161 = .ok (.invokestatic 60, 3) := by decide +kernel
theorem dX8_bestSwap_164 : decode cX8_bestSwap 164 = .ok (.iload 8, 2) := by decide +kernel
theorem dX8_bestSwap_166 : decode cX8_bestSwap 166 = .ok (.iadd, 1) := by decide +kernel
theorem dX8_bestSwap_167 : decode cX8_bestSwap 167 = .ok (.iaload, 1) := by decide +kernel
theorem dX8_bestSwap_168 : decode cX8_bestSwap 168 = .ok (.iastore, 1) := by decide +kernel
theorem dX8_bestSwap_169 : decode cX8_bestSwap 169 = .ok (.iinc 8 1, 3) := by decide +kernel
theorem dX8_bestSwap_172 : decode cX8_bestSwap 172 = .ok (.goto (-66), 3) := by decide +kernel
theorem dX8_bestSwap_175 : decode cX8_bestSwap 175 = .ok (.aload_n 0, 1) := by decide +kernel
theorem dX8_bestSwap_176 : decode cX8_bestSwap 176 = .ok (.aload_n 0, 1) := by decide +kernel
theorem dX8_bestSwap_177 : decode cX8_bestSwap 177 = .ok (.getfield 16, 3) := by decide +kernel
theorem dX8_bestSwap_180 : decode cX8_bestSwap 180 = .ok (.iload_n 1, 1) := by decide +kernel
theorem dX8_bestSwap_181 : decode cX8_bestSwap 181 = .ok (.invokevirtual 146, 3) := by decide +kernel
theorem dX8_bestSwap_184 : decode cX8_bestSwap 184 = .ok (.istore 8, 2) := by decide +kernel
theorem dX8_bestSwap_186 : decode cX8_bestSwap 186 = .ok (.iload_n 3, 1) := by decide +kernel
theorem dX8_bestSwap_187 : decode cX8_bestSwap 187 = .ok (.iconst (-1), 1) := by decide +kernel
theorem dX8_bestSwap_188 : decode cX8_bestSwap 188 = .ok (.if_icmp .eq 10, 3) := by decide +kernel
theorem dX8_bestSwap_191 : decode cX8_bestSwap 191 = .ok (.iload 8, 2) := by decide +kernel
theorem dX8_bestSwap_193 : decode cX8_bestSwap 193 = .ok (.iload 5, 2) := by decide +kernel
theorem dX8_bestSwap_195 : decode cX8_bestSwap 195 = .ok (.if_icmp .le 14, 3) := by decide +kernel
theorem dX8_bestSwap_198 : decode cX8_bestSwap 198 = .ok (.iload 6, 2) := by decide +kernel
theorem dX8_bestSwap_200 : decode cX8_bestSwap 200 = .ok (.istore_n 3, 1) := by decide +kernel
theorem dX8_bestSwap_201 : decode cX8_bestSwap 201 = .ok (.iload 7, 2) := by decide +kernel
theorem dX8_bestSwap_203 : decode cX8_bestSwap 203 = .ok (.istore 4, 2) := by decide +kernel
theorem dX8_bestSwap_205 : decode cX8_bestSwap 205 = .ok (.iload 8, 2) := by decide +kernel
theorem dX8_bestSwap_207 : decode cX8_bestSwap 207 = .ok (.istore 5, 2) := by decide +kernel
theorem dX8_bestSwap_209 : decode cX8_bestSwap 209 = .ok (.iinc 7 1, 3) := by decide +kernel
theorem dX8_bestSwap_212 : decode cX8_bestSwap 212 = .ok (.goto (-138), 3) := by decide +kernel
theorem dX8_bestSwap_215 : decode cX8_bestSwap 215 = .ok (.iinc 6 1, 3) := by decide +kernel
theorem dX8_bestSwap_218 : decode cX8_bestSwap 218 = .ok (.goto (-166), 3) := by decide +kernel
theorem dX8_bestSwap_221 : decode cX8_bestSwap 221 = .ok (.iload_n 3, 1) := by decide +kernel
theorem dX8_bestSwap_222 : decode cX8_bestSwap 222 = .ok (.iconst (-1), 1) := by decide +kernel
theorem dX8_bestSwap_223 : decode cX8_bestSwap 223 = .ok (.if_icmp .ne 7, 3) := by decide +kernel
theorem dX8_bestSwap_226 : decode cX8_bestSwap 226 = .ok (.iconst (-1), 1) := by decide +kernel
theorem dX8_bestSwap_227 : decode cX8_bestSwap 227 = .ok (.goto 23, 3) := by decide +kernel
theorem dX8_bestSwap_230 : decode cX8_bestSwap 230 = .ok (.iload_n 2, 1) := by decide +kernel
theorem dX8_bestSwap_231 : decode cX8_bestSwap 231 = .ok (.ifCond .ne 8, 3) := by decide +kernel
theorem dX8_bestSwap_234 : decode cX8_bestSwap 234 = .ok (.iload 5, 2) := by decide +kernel
theorem dX8_bestSwap_236 : decode cX8_bestSwap 236 = .ok (.goto 14, 3) := by decide +kernel
theorem dX8_bestSwap_239 : decode cX8_bestSwap 239 = .ok (.iload_n 2, 1) := by decide +kernel
theorem dX8_bestSwap_240 : decode cX8_bestSwap 240 = .ok (.iconst 1, 1) := by decide +kernel
theorem dX8_bestSwap_241 : decode cX8_bestSwap 241 = .ok (.if_icmp .ne 7, 3) := by decide +kernel
theorem dX8_bestSwap_244 : decode cX8_bestSwap 244 = .ok (.iload_n 3, 1) := by decide +kernel
theorem dX8_bestSwap_245 : decode cX8_bestSwap 245 = .ok (.goto 5, 3) := by decide +kernel
theorem dX8_bestSwap_248 : decode cX8_bestSwap 248 = .ok (.iload 4, 2) := by decide +kernel
theorem dX8_bestSwap_250 : decode cX8_bestSwap 250 = .ok (.ireturn, 1) := by decide +kernel
theorem dX8_needs_0 : decode cX8_needs 0 = .ok (.aload_n 0, 1) := by decide +kernel
theorem dX8_needs_1 : decode cX8_needs 1 = .ok (.aload_n 0, 1) := by decide +kernel
theorem dX8_needs_2 : decode cX8_needs 2 = .ok (.getfield 13, 3) := by decide +kernel
theorem dX8_needs_5 : decode cX8_needs 5 = .ok (.iload_n 1, 1) := by decide +kernel
theorem dX8_needs_6 : decode cX8_needs 6 = .ok (.iload_n 2, 1) := by decide +kernel
theorem dX8_needs_7 : decode cX8_needs 7 = .ok (.invokestatic 76, 3) := by decide +kernel
theorem dX8_needs_10 : decode cX8_needs 10 = .ok (.ifCond .eq 7, 3) := by decide +kernel
theorem dX8_needs_13 : decode cX8_needs 13 = .ok (.iconst 0, 1) := by decide +kernel
theorem dX8_needs_14 : decode cX8_needs 14 = .ok (.goto 4, 3) := by decide +kernel
theorem dX8_needs_17 : decode cX8_needs 17 = .ok (.iconst 1, 1) := by decide +kernel
theorem dX8_needs_18 : decode cX8_needs 18 = .ok (.invokevirtual 164, 3) := by decide +kernel
theorem dX8_needs_21 : decode cX8_needs 21 = .ok (.ifCond .eq 5, 3) := by decide +kernel
theorem dX8_needs_24 : decode cX8_needs 24 = .ok (.iconst 0, 1) := by decide +kernel
theorem dX8_needs_25 : decode cX8_needs 25 = .ok (.ireturn, 1) := by decide +kernel
theorem dX8_needs_26 : decode cX8_needs 26 = .ok (.aload_n 0, 1) := by decide +kernel
theorem dX8_needs_27 : decode cX8_needs 27 = .ok (.aload_n 0, 1) := by decide +kernel
theorem dX8_needs_28 : decode cX8_needs 28 = .ok (.getfield 13, 3) := by decide +kernel
theorem dX8_needs_31 : decode cX8_needs 31 = .ok (.invokevirtual 149, 3) := by decide +kernel
theorem dX8_needs_34 : decode cX8_needs 34 = .ok (.aload_n 0, 1) := by decide +kernel
theorem dX8_needs_35 : decode cX8_needs 35 = .ok (.aload_n 0, 1) := by decide +kernel
theorem dX8_needs_36 : decode cX8_needs 36 = .ok (.getfield 13, 3) := by decide +kernel
theorem dX8_needs_39 : decode cX8_needs 39 = .ok (.iload_n 1, 1) := by decide +kernel
theorem dX8_needs_40 : decode cX8_needs 40 = .ok (.iload_n 2, 1) := by decide +kernel
theorem dX8_needs_41 : decode cX8_needs 41 = .ok (.invokevirtual 135, 3) := by decide +kernel
theorem dX8_needs_44 : decode cX8_needs 44 = .ok (.aload_n 0, 1) := by decide +kernel
theorem dX8_needs_45 : decode cX8_needs 45 = .ok (.getfield 44, 3) := by decide +kernel
theorem dX8_needs_48 : decode cX8_needs 48 = .ok (.iload_n 2, 1) := by decide +kernel
theorem dX8_needs_49 : decode cX8_needs 49 = .ok (.iaload, 1) := by decide +kernel
theorem dX8_needs_50 : decode cX8_needs 50 = .ok (.istore_n 3, 1) := by decide +kernel
theorem dX8_needs_51 : decode cX8_needs 51 = .ok (.aload_n 0, 1) := by decide +kernel
theorem dX8_needs_52 : decode cX8_needs 52 = .ok (.getfield 50, 3) := by decide +kernel
theorem dX8_needs_55 : decode cX8_needs 55 = .ok (.iload_n 1, 1) := by decide +kernel
theorem dX8_needs_56 : decode cX8_needs 56 = .ok (.iaload, 1) := by decide +kernel
theorem dX8_needs_57 : decode cX8_needs 57 = .ok (.istore 4, 2) := by decide +kernel
theorem dX8_needs_59 : decode cX8_needs 59 = .ok (.aload_n 0, 1) := by decide +kernel
theorem dX8_needs_60 : decode cX8_needs 60 = .ok (.getfield 53, 3) := by decide +kernel
theorem dX8_needs_63 : decode cX8_needs 63 = .ok (.iload_n 1, 1) := by decide +kernel
theorem dX8_needs_64 : decode cX8_needs 64 = .ok (.iaload, 1) := by decide +kernel
theorem dX8_needs_65 : decode cX8_needs 65 = .ok (.istore 5, 2) := by decide +kernel
theorem dX8_needs_67 : decode cX8_needs 67 = .ok (.iconst 0, 1) := by decide +kernel
theorem dX8_needs_68 : decode cX8_needs 68 = .ok (.istore 6, 2) := by decide +kernel
theorem dX8_needs_70 : decode cX8_needs 70 = .ok (.iconst 0, 1) := by decide +kernel
theorem dX8_needs_71 : decode cX8_needs 71 = .ok (.istore 7, 2) := by decide +kernel
theorem dX8_needs_73 : decode cX8_needs 73 = .ok (.iload 7, 2) := by decide +kernel
theorem dX8_needs_75 : decode cX8_needs 75 = .ok (.aload_n 0, 1) := by decide +kernel
theorem dX8_needs_76 : decode cX8_needs 76 = .ok (.getfield 13, 3) := by decide +kernel
theorem dX8_needs_79 : decode cX8_needs 79 = .ok (.iload_n 1, 1) := by decide +kernel
theorem dX8_needs_80 : decode cX8_needs 80 = .ok (.iload_n 2, 1) := by decide +kernel
theorem dX8_needs_81 : decode cX8_needs 81 = .ok (.invokestatic 60, 3) := by decide +kernel
theorem dX8_needs_84 : decode cX8_needs 84 = .ok (.iconst 1, 1) := by decide +kernel
theorem dX8_needs_85 : decode cX8_needs 85 = .ok (.iadd, 1) := by decide +kernel
theorem dX8_needs_86 : decode cX8_needs 86 = .ok (.iaload, 1) := by decide +kernel
theorem dX8_needs_87 : decode cX8_needs 87 = .ok (.if_icmp .ge 43, 3) := by decide +kernel
theorem dX8_needs_90 : decode cX8_needs 90 = .ok (.aload_n 0, 1) := by decide +kernel
theorem dX8_needs_91 : decode cX8_needs 91 = .ok (.getfield 32, 3) := by decide +kernel
theorem dX8_needs_94 : decode cX8_needs 94 = .ok (.iconst 3, 1) := by decide +kernel
theorem dX8_needs_95 : decode cX8_needs 95 = .ok (.iload_n 2, 1) := by decide +kernel
theorem dX8_needs_96 : decode cX8_needs 96 = .ok (.imul, 1) := by decide +kernel
theorem dX8_needs_97 : decode cX8_needs 97 = .ok (.iload 7, 2) := by decide +kernel
theorem dX8_needs_99 : decode cX8_needs 99 = .ok (.iadd, 1) := by decide +kernel
theorem dX8_needs_100 : decode cX8_needs 100 = .ok (.iaload, 1) := by decide +kernel
theorem dX8_needs_101 : decode cX8_needs 101 = .ok (.iload 6, 2) := by decide +kernel
theorem dX8_needs_103 : decode cX8_needs 103 = .ok (.if_icmp .le 17, 3) := by decide +kernel
theorem dX8_needs_106 : decode cX8_needs 106 = .ok (.aload_n 0, 1) := by decide +kernel
theorem dX8_needs_107 : decode cX8_needs 107 = .ok (.getfield 32, 3) := by decide +kernel
theorem dX8_needs_110 : decode cX8_needs 110 = .ok (.iconst 3, 1) := by decide +kernel
theorem dX8_needs_111 : decode cX8_needs 111 = .ok (.iload_n 2, 1) := by decide +kernel
theorem dX8_needs_112 : decode cX8_needs 112 = .ok (.imul, 1) := by decide +kernel
theorem dX8_needs_113 : decode cX8_needs 113 = .ok (.iload 7, 2) := by decide +kernel
theorem dX8_needs_115 : decode cX8_needs 115 = .ok (.iadd, 1) := by decide +kernel
theorem dX8_needs_116 : decode cX8_needs 116 = .ok (.iaload, 1) := by decide +kernel
theorem dX8_needs_117 : decode cX8_needs 117 = .ok (.goto 5, 3) := by decide +kernel
theorem dX8_needs_120 : decode cX8_needs 120 = .ok (.iload 6, 2) := by decide +kernel
theorem dX8_needs_122 : decode cX8_needs 122 = .ok (.istore 6, 2) := by decide +kernel
theorem dX8_needs_124 : decode cX8_needs 124 = .ok (.iinc 7 1, 3) := by decide +kernel
theorem dX8_needs_127 : decode cX8_needs 127 = .ok (.goto (-54), 3) := by decide +kernel
theorem dX8_needs_130 : decode cX8_needs 130 = .ok (.bipush (-15), 2) := by decide +kernel
theorem dX8_needs_132 : decode cX8_needs 132 = .ok (.istore 7, 2) := by decide +kernel
theorem dX8_needs_134 : decode cX8_needs 134 = .ok (.iload 7, 2) := by decide +kernel
theorem dX8_needs_136 : decode cX8_needs 136 = .ok (.bipush 15, 2) := by decide +kernel
theorem dX8_needs_138 : decode cX8_needs 138 = .ok (.if_icmp .gt 65, 3) := by decide +kernel
theorem dX8_needs_141 : decode cX8_needs 141 = .ok (.aload_n 0, 1) := by decide +kernel
theorem dX8_needs_142 : decode cX8_needs 142 = .ok (.getfield 50, 3) := by decide +kernel
theorem dX8_needs_145 : decode cX8_needs 145 = .ok (.iload_n 1, 1) := by decide +kernel
theorem dX8_needs_146 : decode cX8_needs 146 = .ok (.iload 4, 2) := by decide +kernel
theorem dX8_needs_148 : decode cX8_needs 148 = .ok (.iload_n 3, 1) := by decide +kernel
theorem dX8_needs_149 : decode cX8_needs 149 = .ok (.isub, 1) := by decide +kernel
theorem dX8_needs_150 : decode cX8_needs 150 = .ok (.iload 7, 2) := by decide +kernel
theorem dX8_needs_152 : decode cX8_needs 152 = .ok (.iload 6, 2) := by decide +kernel
theorem dX8_needs_154 : decode cX8_needs 154 = .ok (.imul, 1) := by decide +kernel
theorem dX8_needs_155 : decode cX8_needs 155 = .ok (.invokestatic 126, 3) := by decide +kernel
theorem dX8_needs_158 : decode cX8_needs 158 = .ok (.iadd, 1) := by decide +kernel
theorem dX8_needs_159 : decode cX8_needs 159 = .ok (.iastore, 1) := by decide +kernel
theorem dX8_needs_160 : decode cX8_needs 160 = .ok (.aload_n 0, 1) := by decide +kernel
theorem dX8_needs_161 : decode cX8_needs 161 = .ok (.getfield 53, 3) := by decide +kernel
theorem dX8_needs_164 : decode cX8_needs 164 = .ok (.iload_n 1, 1) := by decide +kernel
theorem dX8_needs_165 : decode cX8_needs 165 = .ok (.iload 5, 2) := by decide +kernel
theorem dX8_needs_167 : decode cX8_needs 167 = .ok (.iload_n 3, 1) := by decide +kernel
theorem dX8_needs_168 : decode cX8_needs 168 = .ok (.isub, 1) := by decide +kernel
theorem dX8_needs_169 : decode cX8_needs 169 = .ok (.iload 7, 2) := by decide +kernel
theorem dX8_needs_171 : decode cX8_needs 171 = .ok (.iload 6, 2) := by decide +kernel
theorem dX8_needs_173 : decode cX8_needs 173 = .ok (.imul, 1) := by decide +kernel
theorem dX8_needs_174 : decode cX8_needs 174 = .ok (.invokestatic 126, 3) := by decide +kernel
theorem dX8_needs_177 : decode cX8_needs 177 = .ok (.iadd, 1) := by decide +kernel
theorem dX8_needs_178 : decode cX8_needs 178 = .ok (.iastore, 1) := by decide +kernel
theorem dX8_needs_179 : decode cX8_needs 179 = .ok (.aload_n 0, 1) := by decide +kernel
theorem dX8_needs_180 : decode cX8_needs 180 = .ok (.aload_n 0, 1) := by decide +kernel
theorem dX8_needs_181 : decode cX8_needs 181 = .ok (.getfield 13, 3) := by decide +kernel
theorem dX8_needs_184 : decode cX8_needs 184 = .ok (.iload_n 1, 1) := by decide +kernel
theorem dX8_needs_185 : decode cX8_needs 185 = .ok (.invokevirtual 153, 3) := by decide +kernel
theorem dX8_needs_188 : decode cX8_needs 188 = .ok (.ifCond .ne 9, 3) := by decide +kernel
theorem dX8_needs_191 : decode cX8_needs 191 = .ok (.bipush 100, 2) := by decide +kernel
theorem dX8_needs_193 : decode cX8_needs 193 = .ok (.iload 7, 2) := by decide +kernel
theorem dX8_needs_195 : decode cX8_needs 195 = .ok (.iadd, 1) := by decide +kernel
theorem dX8_needs_196 : decode cX8_needs 196 = .ok (.ireturn, 1) := by decide +kernel
theorem dX8_needs_197 : decode cX8_needs 197 = .ok (.iinc 7 1, 3) := by decide +kernel
theorem dX8_needs_200 : decode cX8_needs 200 = .ok (.goto (-66), 3) := by decide +kernel
theorem dX8_needs_203 : decode cX8_needs 203 = .ok (.iconst (-1), 1) := by decide +kernel
theorem dX8_needs_204 : decode cX8_needs 204 = .ok (.ireturn, 1) := by decide +kernel
theorem dX8_behind_0 : decode cX8_behind 0 = .ok (.aload_n 0, 1) := by decide +kernel
theorem dX8_behind_1 : decode cX8_behind 1 = .ok (.aload_n 0, 1) := by decide +kernel
theorem dX8_behind_2 : decode cX8_behind 2 = .ok (.getfield 13, 3) := by decide +kernel
theorem dX8_behind_5 : decode cX8_behind 5 = .ok (.iload_n 1, 1) := by decide +kernel
theorem dX8_behind_6 : decode cX8_behind 6 = .ok (.invokestatic 68, 3) := by decide +kernel
theorem dX8_behind_9 : decode cX8_behind 9 = .ok (.ifCond .eq 7, 3) := by decide +kernel
theorem dX8_behind_12 : decode cX8_behind 12 = .ok (.iconst 0, 1) := by decide +kernel
theorem dX8_behind_13 : decode cX8_behind 13 = .ok (.goto 4, 3) := by decide +kernel
theorem dX8_behind_16 : decode cX8_behind 16 = .ok (.iconst 1, 1) := by decide +kernel
theorem dX8_behind_17 : decode cX8_behind 17 = .ok (.invokevirtual 164, 3) := by decide +kernel
theorem dX8_behind_20 : decode cX8_behind 20 = .ok (.ifCond .eq 5, 3) := by decide +kernel
theorem dX8_behind_23 : decode cX8_behind 23 = .ok (.iconst 0, 1) := by decide +kernel
theorem dX8_behind_24 : decode cX8_behind 24 = .ok (.ireturn, 1) := by decide +kernel
theorem dX8_behind_25 : decode cX8_behind 25 = .ok (.aload_n 0, 1) := by decide +kernel
theorem dX8_behind_26 : decode cX8_behind 26 = .ok (.aload_n 0, 1) := by decide +kernel
theorem dX8_behind_27 : decode cX8_behind 27 = .ok (.getfield 13, 3) := by decide +kernel
theorem dX8_behind_30 : decode cX8_behind 30 = .ok (.invokevirtual 204, 3) := by decide +kernel
theorem dX8_behind_33 : decode cX8_behind 33 = .ok (.istore_n 2, 1) := by decide +kernel
theorem dX8_behind_34 : decode cX8_behind 34 = .ok (.aload_n 0, 1) := by decide +kernel
theorem dX8_behind_35 : decode cX8_behind 35 = .ok (.getfield 50, 3) := by decide +kernel
theorem dX8_behind_38 : decode cX8_behind 38 = .ok (.iload_n 2, 1) := by decide +kernel
theorem dX8_behind_39 : decode cX8_behind 39 = .ok (.iaload, 1) := by decide +kernel
theorem dX8_behind_40 : decode cX8_behind 40 = .ok (.aload_n 0, 1) := by decide +kernel
theorem dX8_behind_41 : decode cX8_behind 41 = .ok (.getfield 50, 3) := by decide +kernel
theorem dX8_behind_44 : decode cX8_behind 44 = .ok (.iload_n 1, 1) := by decide +kernel
theorem dX8_behind_45 : decode cX8_behind 45 = .ok (.iaload, 1) := by decide +kernel
theorem dX8_behind_46 : decode cX8_behind 46 = .ok (.isub, 1) := by decide +kernel
theorem dX8_behind_47 : decode cX8_behind 47 = .ok (.ireturn, 1) := by decide +kernel
theorem dX8_command_0 : decode cX8_command 0 = .ok (.bipush 10, 2) := by decide +kernel
theorem dX8_command_2 : decode cX8_command 2 = .ok (.iload_n 3, 1) := by decide +kernel
theorem dX8_command_3 : decode cX8_command 3 = .ok (.imul, 1) := by decide +kernel
theorem dX8_command_4 : decode cX8_command 4 = .ok (.iload 4, 2) := by decide +kernel
theorem dX8_command_6 : decode cX8_command 6 = .ok (.iadd, 1) := by decide +kernel
theorem dX8_command_7 : decode cX8_command 7 = .ok (.istore 6, 2) := by decide +kernel
theorem dX8_command_9 : decode cX8_command 9 = .ok (.bipush 100, 2) := by decide +kernel
theorem dX8_command_11 : decode cX8_command 11 = .ok (.iload_n 3, 1) := by decide +kernel
theorem dX8_command_12 : decode cX8_command 12 = .ok (.imul, 1) := by decide +kernel
theorem dX8_command_13 : decode cX8_command 13 = .ok (.bipush 10, 2) := by decide +kernel
theorem dX8_command_15 : decode cX8_command 15 = .ok (.iload 4, 2) := by decide +kernel
theorem dX8_command_17 : decode cX8_command 17 = .ok (.imul, 1) := by decide +kernel
theorem dX8_command_18 : decode cX8_command 18 = .ok (.iadd, 1) := by decide +kernel
theorem dX8_command_19 : decode cX8_command 19 = .ok (.iload 5, 2) := by decide +kernel
theorem dX8_command_21 : decode cX8_command 21 = .ok (.iadd, 1) := by decide +kernel
theorem dX8_command_22 : decode cX8_command 22 = .ok (.istore 7, 2) := by decide +kernel
theorem dX8_command_24 : decode cX8_command 24 = .ok (.iload_n 1, 1) := by decide +kernel
theorem dX8_command_25 : decode cX8_command 25 = .ok (.tableswitch 351 1 9 #[51, 100, 51, 138, 171, 194, 240, 274, 322], 51) := by decide +kernel
theorem dX8_command_76 : decode cX8_command 76 = .ok (.iload 5, 2) := by decide +kernel
theorem dX8_command_78 : decode cX8_command 78 = .ok (.iconst 1, 1) := by decide +kernel
theorem dX8_command_79 : decode cX8_command 79 = .ok (.if_icmp .gt 16, 3) := by decide +kernel
theorem dX8_command_82 : decode cX8_command 82 = .ok (.aload_n 0, 1) := by decide +kernel
theorem dX8_command_83 : decode cX8_command 83 = .ok (.getfield 16, 3) := by decide +kernel
theorem dX8_command_86 : decode cX8_command 86 = .ok (.iload_n 2, 1) := by decide +kernel
theorem dX8_command_87 : decode cX8_command 87 = .ok (.iload 6, 2) := by decide +kernel
theorem dX8_command_89 : decode cX8_command 89 = .ok (.invokestatic 76, 3) := by decide +kernel
theorem dX8_command_92 : decode cX8_command 92 = .ok (.ifCond .ne 5, 3) := by decide +kernel
theorem dX8_command_95 : decode cX8_command 95 = .ok (.iconst 0, 1) := by decide +kernel
theorem dX8_command_96 : decode cX8_command 96 = .ok (.ireturn, 1) := by decide +kernel
theorem dX8_command_97 : decode cX8_command 97 = .ok (.aload_n 0, 1) := by decide +kernel
theorem dX8_command_98 : decode cX8_command 98 = .ok (.getfield 16, 3) := by decide +kernel
theorem dX8_command_101 : decode cX8_command 101 = .ok (.iload_n 2, 1) := by decide +kernel
theorem dX8_command_102 : decode cX8_command 102 = .ok (.iload 6, 2) := by decide +kernel
theorem dX8_command_104 : decode cX8_command 104 = .ok (.invokestatic 60, 3) := by decide +kernel
theorem dX8_command_107 : decode cX8_command 107 = .ok (.iload_n 1, 1) := by decide +kernel
theorem dX8_command_108 : decode cX8_command 108 = .ok (.iconst 1, 1) := by decide +kernel
theorem dX8_command_109 : decode cX8_command 109 = .ok (.if_icmp .ne 8, 3) := by decide +kernel
theorem dX8_command_112 : decode cX8_command 112 = .ok (.bipush 16, 2) := by decide +kernel
theorem dX8_command_114 : decode cX8_command 114 = .ok (.goto 5, 3) := by decide +kernel
theorem dX8_command_117 : decode cX8_command 117 = .ok (.bipush 17, 2) := by decide +kernel
theorem dX8_command_119 : decode cX8_command 119 = .ok (.iadd, 1) := by decide +kernel
theorem dX8_command_120 : decode cX8_command 120 = .ok (.iload 5, 2) := by decide +kernel
theorem dX8_command_122 : decode cX8_command 122 = .ok (.iastore, 1) := by decide +kernel
theorem dX8_command_123 : decode cX8_command 123 = .ok (.iconst 1, 1) := by decide +kernel
theorem dX8_command_124 : decode cX8_command 124 = .ok (.ireturn, 1) := by decide +kernel
theorem dX8_command_125 : decode cX8_command 125 = .ok (.aload_n 0, 1) := by decide +kernel
theorem dX8_command_126 : decode cX8_command 126 = .ok (.getfield 16, 3) := by decide +kernel
theorem dX8_command_129 : decode cX8_command 129 = .ok (.iload_n 2, 1) := by decide +kernel
theorem dX8_command_130 : decode cX8_command 130 = .ok (.iload_n 3, 1) := by decide +kernel
theorem dX8_command_131 : decode cX8_command 131 = .ok (.iload 4, 2) := by decide +kernel
theorem dX8_command_133 : decode cX8_command 133 = .ok (.iload 5, 2) := by decide +kernel
theorem dX8_command_135 : decode cX8_command 135 = .ok (.invokestatic 240, 3) := by decide +kernel
theorem dX8_command_138 : decode cX8_command 138 = .ok (.ifCond .ne 23, 3) := by decide +kernel
theorem dX8_command_141 : decode cX8_command 141 = .ok (.aload_n 0, 1) := by decide +kernel
theorem dX8_command_142 : decode cX8_command 142 = .ok (.getfield 16, 3) := by decide +kernel
