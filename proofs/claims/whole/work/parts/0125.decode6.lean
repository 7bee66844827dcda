theorem dX11_putRight_13 : decode cX11_putRight 13 = .ok (.iload_n 1, 1) := by decide +kernel
theorem dX11_putRight_14 : decode cX11_putRight 14 = .ok (.iconst 0, 1) := by decide +kernel
theorem dX11_putRight_15 : decode cX11_putRight 15 = .ok (.invokevirtual 266, 3) := by decide +kernel
theorem dX11_putRight_18 : decode cX11_putRight 18 = .ok (.istore_n 3, 1) := by decide +kernel
theorem dX11_putRight_19 : decode cX11_putRight 19 = .ok (.iload_n 3, 1) := by decide +kernel
theorem dX11_putRight_20 : decode cX11_putRight 20 = .ok (.ifCond .ge 5, 3) := by decide +kernel
theorem dX11_putRight_23 : decode cX11_putRight 23 = .ok (.iload_n 3, 1) := by decide +kernel
theorem dX11_putRight_24 : decode cX11_putRight 24 = .ok (.ireturn, 1) := by decide +kernel
theorem dX11_putRight_25 : decode cX11_putRight 25 = .ok (.aload_n 0, 1) := by decide +kernel
theorem dX11_putRight_26 : decode cX11_putRight 26 = .ok (.getfield 99, 3) := by decide +kernel
theorem dX11_putRight_29 : decode cX11_putRight 29 = .ok (.iconst 2, 1) := by decide +kernel
theorem dX11_putRight_30 : decode cX11_putRight 30 = .ok (.iload_n 1, 1) := by decide +kernel
theorem dX11_putRight_31 : decode cX11_putRight 31 = .ok (.imul, 1) := by decide +kernel
theorem dX11_putRight_32 : decode cX11_putRight 32 = .ok (.iaload, 1) := by decide +kernel
theorem dX11_putRight_33 : decode cX11_putRight 33 = .ok (.istore 4, 2) := by decide +kernel
theorem dX11_putRight_35 : decode cX11_putRight 35 = .ok (.aload_n 0, 1) := by decide +kernel
theorem dX11_putRight_36 : decode cX11_putRight 36 = .ok (.getfield 29, 3) := by decide +kernel
theorem dX11_putRight_39 : decode cX11_putRight 39 = .ok (.iload 4, 2) := by decide +kernel
theorem dX11_putRight_41 : decode cX11_putRight 41 = .ok (.iaload, 1) := by decide +kernel
theorem dX11_putRight_42 : decode cX11_putRight 42 = .ok (.bipush 12, 2) := by decide +kernel
theorem dX11_putRight_44 : decode cX11_putRight 44 = .ok (.if_icmp .eq 9, 3) := by decide +kernel
theorem dX11_putRight_47 : decode cX11_putRight 47 = .ok (.aload_n 0, 1) := by decide +kernel
theorem dX11_putRight_48 : decode cX11_putRight 48 = .ok (.iconst 3, 1) := by decide +kernel
theorem dX11_putRight_49 : decode cX11_putRight 49 = .ok (.invokevirtual 153, 3) := by decide +kernel
theorem dX11_putRight_52 : decode cX11_putRight 52 = .ok (.ireturn, 1) := by decide +kernel
theorem dX11_putRight_53 : decode cX11_putRight 53 = .ok (.bipush 13, 2) := by decide +kernel
theorem dX11_putRight_55 : decode cX11_putRight 55 = .ok (.iload_n 2, 1) := by decide +kernel
theorem dX11_putRight_56 : decode cX11_putRight 56 = .ok (.iconst 1, 1) := by decide +kernel
theorem dX11_putRight_57 : decode cX11_putRight 57 = .ok (.isub, 1) := by decide +kernel
theorem dX11_putRight_58 : decode cX11_putRight 58 = .ok (.imul, 1) := by decide +kernel
theorem dX11_putRight_59 : decode cX11_putRight 59 = .ok (.istore 5, 2) := by decide +kernel
theorem dX11_putRight_61 : decode cX11_putRight 61 = .ok (.iconst 0, 1) := by decide +kernel
theorem dX11_putRight_62 : decode cX11_putRight 62 = .ok (.istore 6, 2) := by decide +kernel
theorem dX11_putRight_64 : decode cX11_putRight 64 = .ok (.iload 6, 2) := by decide +kernel
theorem dX11_putRight_66 : decode cX11_putRight 66 = .ok (.sipush 144, 3) := by decide +kernel
theorem dX11_putRight_69 : decode cX11_putRight 69 = .ok (.if_icmp .ge 30, 3) := by decide +kernel
theorem dX11_putRight_72 : decode cX11_putRight 72 = .ok (.aload_n 0, 1) := by decide +kernel
theorem dX11_putRight_73 : decode cX11_putRight 73 = .ok (.getfield 111, 3) := by decide +kernel
theorem dX11_putRight_76 : decode cX11_putRight 76 = .ok (.iload 6, 2) := by decide +kernel
theorem dX11_putRight_78 : decode cX11_putRight 78 = .ok (.iload 6, 2) := by decide +kernel
theorem dX11_putRight_80 : decode cX11_putRight 80 = .ok (.iload 5, 2) := by decide +kernel
theorem dX11_putRight_82 : decode cX11_putRight 82 = .ok (.if_icmp .ne 7, 3) := by decide +kernel
theorem dX11_putRight_85 : decode cX11_putRight 85 = .ok (.iconst 0, 1) := by decide +kernel
theorem dX11_putRight_86 : decode cX11_putRight 86 = .ok (.goto 6, 3) := by decide +kernel
theorem dX11_putRight_89 : decode cX11_putRight 89 = .ok (.ldc_w 272, 3) := by decide +kernel
theorem dX11_putRight_92 : decode cX11_putRight 92 = .ok (.iastore, 1) := by decide +kernel
theorem dX11_putRight_93 : decode cX11_putRight 93 = .ok (.iinc 6 1, 3) := by decide +kernel
theorem dX11_putRight_96 : decode cX11_putRight 96 = .ok (.goto (-32), 3) := by decide +kernel
theorem dX11_putRight_99 : decode cX11_putRight 99 = .ok (.iconst 1, 1) := by decide +kernel
theorem dX11_putRight_100 : decode cX11_putRight 100 = .ok (.istore 6, 2) := by decide +kernel
theorem dX11_putRight_102 : decode cX11_putRight 102 = .ok (.iload 6, 2) := by decide +kernel
theorem dX11_putRight_104 : decode cX11_putRight 104 = .ok (.ifCond .eq 90, 3) := by decide +kernel
theorem dX11_putRight_107 : decode cX11_putRight 107 = .ok (.iconst 0, 1) := by decide +kernel
theorem dX11_putRight_108 : decode cX11_putRight 108 = .ok (.istore 6, 2) := by decide +kernel
theorem dX11_putRight_110 : decode cX11_putRight 110 = .ok (.iconst 0, 1) := by decide +kernel
theorem dX11_putRight_111 : decode cX11_putRight 111 = .ok (.istore 7, 2) := by decide +kernel
theorem dX11_putRight_113 : decode cX11_putRight 113 = .ok (.iload 7, 2) := by decide +kernel
theorem dX11_putRight_115 : decode cX11_putRight 115 = .ok (.sipush 144, 3) := by decide +kernel
theorem dX11_putRight_118 : decode cX11_putRight 118 = .ok (.if_icmp .ge 73, 3) := by decide +kernel
theorem dX11_putRight_121 : decode cX11_putRight 121 = .ok (.iconst 0, 1) := by decide +kernel
theorem dX11_putRight_122 : decode cX11_putRight 122 = .ok (.istore 8, 2) := by decide +kernel
theorem dX11_putRight_124 : decode cX11_putRight 124 = .ok (.iload 8, 2) := by decide +kernel
theorem dX11_putRight_126 : decode cX11_putRight 126 = .ok (.iconst 3, 1) := by decide +kernel
theorem dX11_putRight_127 : decode cX11_putRight 127 = .ok (.if_icmp .ge 58, 3) := by decide +kernel
theorem dX11_putRight_130 : decode cX11_putRight 130 = .ok (.aload_n 0, 1) := by decide +kernel
theorem dX11_putRight_131 : decode cX11_putRight 131 = .ok (.getfield 111, 3) := by decide +kernel
theorem dX11_putRight_134 : decode cX11_putRight 134 = .ok (.iload 7, 2) := by decide +kernel
theorem dX11_putRight_136 : decode cX11_putRight 136 = .ok (.iload 8, 2) := by decide +kernel
theorem dX11_putRight_138 : decode cX11_putRight 138 = .ok (.invokestatic 273, 3) := by decide +kernel
theorem dX11_putRight_141 : decode cX11_putRight 141 = .ok (.iaload, 1) := by decide +kernel
theorem dX11_putRight_142 : decode cX11_putRight 142 = .ok (.aload_n 0, 1) := by decide +kernel
theorem dX11_putRight_143 : decode cX11_putRight 143 = .ok (.iload 4, 2) := by decide +kernel
theorem dX11_putRight_145 : decode cX11_putRight 145 = .ok (.iload 7, 2) := by decide +kernel
theorem dX11_putRight_147 : decode cX11_putRight 147 = .ok (.iload 8, 2) := by decide +kernel
theorem dX11_putRight_149 : decode cX11_putRight 149 = .ok (.invokevirtual 276, 3) := by decide +kernel
theorem dX11_putRight_152 : decode cX11_putRight 152 = .ok (.iadd, 1) := by decide +kernel
theorem dX11_putRight_153 : decode cX11_putRight 153 = .ok (.istore 9, 2) := by decide +kernel
theorem dX11_putRight_155 : decode cX11_putRight 155 = .ok (.iload 9, 2) := by decide +kernel
theorem dX11_putRight_157 : decode cX11_putRight 157 = .ok (.aload_n 0, 1) := by decide +kernel
theorem dX11_putRight_158 : decode cX11_putRight 158 = .ok (.getfield 111, 3) := by decide +kernel
theorem dX11_putRight_161 : decode cX11_putRight 161 = .ok (.iload 7, 2) := by decide +kernel
theorem dX11_putRight_163 : decode cX11_putRight 163 = .ok (.iaload, 1) := by decide +kernel
theorem dX11_putRight_164 : decode cX11_putRight 164 = .ok (.if_icmp .ge 15, 3) := by decide +kernel
theorem dX11_putRight_167 : decode cX11_putRight 167 = .ok (.aload_n 0, 1) := by decide +kernel
theorem dX11_putRight_168 : decode cX11_putRight 168 = .ok (.getfield 111, 3) := by decide +kernel
theorem dX11_putRight_171 : decode cX11_putRight 171 = .ok (.iload 7, 2) := by decide +kernel
theorem dX11_putRight_173 : decode cX11_putRight 173 = .ok (.iload 9, 2) := by decide +kernel
theorem dX11_putRight_175 : decode cX11_putRight 175 = .ok (.iastore, 1) := by decide +kernel
theorem dX11_putRight_176 : decode cX11_putRight 176 = .ok (.iconst 1, 1) := by decide +kernel
theorem dX11_putRight_177 : decode cX11_putRight 177 = .ok (.istore 6, 2) := by decide +kernel
theorem dX11_putRight_179 : decode cX11_putRight 179 = .ok (.iinc 8 1, 3) := by decide +kernel
theorem dX11_putRight_182 : decode cX11_putRight 182 = .ok (.goto (-58), 3) := by decide +kernel
theorem dX11_putRight_185 : decode cX11_putRight 185 = .ok (.iinc 7 1, 3) := by decide +kernel
theorem dX11_putRight_188 : decode cX11_putRight 188 = .ok (.goto (-75), 3) := by decide +kernel
theorem dX11_putRight_191 : decode cX11_putRight 191 = .ok (.goto (-89), 3) := by decide +kernel
theorem dX11_putRight_194 : decode cX11_putRight 194 = .ok (.bipush 12, 2) := by decide +kernel
theorem dX11_putRight_196 : decode cX11_putRight 196 = .ok (.aload_n 0, 1) := by decide +kernel
theorem dX11_putRight_197 : decode cX11_putRight 197 = .ok (.getfield 35, 3) := by decide +kernel
theorem dX11_putRight_200 : decode cX11_putRight 200 = .ok (.iload 4, 2) := by decide +kernel
theorem dX11_putRight_202 : decode cX11_putRight 202 = .ok (.iaload, 1) := by decide +kernel
theorem dX11_putRight_203 : decode cX11_putRight 203 = .ok (.imul, 1) := by decide +kernel
theorem dX11_putRight_204 : decode cX11_putRight 204 = .ok (.aload_n 0, 1) := by decide +kernel
theorem dX11_putRight_205 : decode cX11_putRight 205 = .ok (.iload_n 1, 1) := by decide +kernel
theorem dX11_putRight_206 : decode cX11_putRight 206 = .ok (.invokevirtual 263, 3) := by decide +kernel
theorem dX11_putRight_209 : decode cX11_putRight 209 = .ok (.iadd, 1) := by decide +kernel
theorem dX11_putRight_210 : decode cX11_putRight 210 = .ok (.iconst 1, 1) := by decide +kernel
theorem dX11_putRight_211 : decode cX11_putRight 211 = .ok (.isub, 1) := by decide +kernel
theorem dX11_putRight_212 : decode cX11_putRight 212 = .ok (.istore 7, 2) := by decide +kernel
theorem dX11_putRight_214 : decode cX11_putRight 214 = .ok (.aload_n 0, 1) := by decide +kernel
theorem dX11_putRight_215 : decode cX11_putRight 215 = .ok (.getfield 111, 3) := by decide +kernel
theorem dX11_putRight_218 : decode cX11_putRight 218 = .ok (.iload 7, 2) := by decide +kernel
theorem dX11_putRight_220 : decode cX11_putRight 220 = .ok (.iaload, 1) := by decide +kernel
theorem dX11_putRight_221 : decode cX11_putRight 221 = .ok (.istore 8, 2) := by decide +kernel
theorem dX11_putRight_223 : decode cX11_putRight 223 = .ok (.aload_n 0, 1) := by decide +kernel
theorem dX11_putRight_224 : decode cX11_putRight 224 = .ok (.iload 8, 2) := by decide +kernel
theorem dX11_putRight_226 : decode cX11_putRight 226 = .ok (.sipush 1000, 3) := by decide +kernel
theorem dX11_putRight_229 : decode cX11_putRight 229 = .ok (.irem, 1) := by decide +kernel
theorem dX11_putRight_230 : decode cX11_putRight 230 = .ok (.putfield 114, 3) := by decide +kernel
theorem dX11_putRight_233 : decode cX11_putRight 233 = .ok (.iconst 0, 1) := by decide +kernel
theorem dX11_putRight_234 : decode cX11_putRight 234 = .ok (.istore 9, 2) := by decide +kernel
theorem dX11_putRight_236 : decode cX11_putRight 236 = .ok (.iload 9, 2) := by decide +kernel
theorem dX11_putRight_238 : decode cX11_putRight 238 = .ok (.aload_n 0, 1) := by decide +kernel
theorem dX11_putRight_239 : decode cX11_putRight 239 = .ok (.getfield 114, 3) := by decide +kernel
theorem dX11_putRight_242 : decode cX11_putRight 242 = .ok (.if_icmp .ge 69, 3) := by decide +kernel
theorem dX11_putRight_245 : decode cX11_putRight 245 = .ok (.iconst 0, 1) := by decide +kernel
theorem dX11_putRight_246 : decode cX11_putRight 246 = .ok (.istore 10, 2) := by decide +kernel
theorem dX11_putRight_248 : decode cX11_putRight 248 = .ok (.aload_n 0, 1) := by decide +kernel
theorem dX11_putRight_249 : decode cX11_putRight 249 = .ok (.getfield 111, 3) := by decide +kernel
theorem dX11_putRight_252 : decode cX11_putRight 252 = .ok (.iload 7, 2) := by decide +kernel
theorem dX11_putRight_254 : decode cX11_putRight 254 = .ok (.iload 10, 2) := by decide +kernel
theorem dX11_putRight_256 : decode cX11_putRight 256 = .ok (.invokestatic 273, 3) := by decide +kernel
theorem dX11_putRight_259 : decode cX11_putRight 259 = .ok (.iaload, 1) := by decide +kernel
theorem dX11_putRight_260 : decode cX11_putRight 260 = .ok (.aload_n 0, 1) := by decide +kernel
theorem dX11_putRight_261 : decode cX11_putRight 261 = .ok (.iload 4, 2) := by decide +kernel
theorem dX11_putRight_263 : decode cX11_putRight 263 = .ok (.iload 7, 2) := by decide +kernel
theorem dX11_putRight_265 : decode cX11_putRight 265 = .ok (.iload 10, 2) := by decide +kernel
theorem dX11_putRight_267 : decode cX11_putRight 267 = .ok (.invokevirtual 276, 3) := by decide +kernel
theorem dX11_putRight_270 : decode cX11_putRight 270 = .ok (.iadd, 1) := by decide +kernel
theorem dX11_putRight_271 : decode cX11_putRight 271 = .ok (.aload_n 0, 1) := by decide +kernel
theorem dX11_putRight_272 : decode cX11_putRight 272 = .ok (.getfield 111, 3) := by decide +kernel
theorem dX11_putRight_275 : decode cX11_putRight 275 = .ok (.iload 7, 2) := by decide +kernel
theorem dX11_putRight_277 : decode cX11_putRight 277 = .ok (.iaload, 1) := by decide +kernel
theorem dX11_putRight_278 : decode cX11_putRight 278 = .ok (.if_icmp .eq 9, 3) := by decide +kernel
theorem dX11_putRight_281 : decode cX11_putRight 281 = .ok (.iinc 10 1, 3) := by decide +kernel
theorem dX11_putRight_284 : decode cX11_putRight 284 = .ok (.goto (-36), 3) := by decide +kernel
theorem dX11_putRight_287 : decode cX11_putRight 287 = .ok (.aload_n 0, 1) := by decide +kernel
theorem dX11_putRight_288 : decode cX11_putRight 288 = .ok (.getfield 118, 3) := by decide +kernel
theorem dX11_putRight_291 : decode cX11_putRight 291 = .ok (.iload 9, 2) := by decide +kernel
theorem dX11_putRight_293 : decode cX11_putRight 293 = .ok (.iload 10, 2) := by decide +kernel
theorem dX11_putRight_295 : decode cX11_putRight 295 = .ok (.iastore, 1) := by decide +kernel
theorem dX11_putRight_296 : decode cX11_putRight 296 = .ok (.iload 7, 2) := by decide +kernel
theorem dX11_putRight_298 : decode cX11_putRight 298 = .ok (.iload 10, 2) := by decide +kernel
theorem dX11_putRight_300 : decode cX11_putRight 300 = .ok (.invokestatic 273, 3) := by decide +kernel
theorem dX11_putRight_303 : decode cX11_putRight 303 = .ok (.istore 7, 2) := by decide +kernel
theorem dX11_putRight_305 : decode cX11_putRight 305 = .ok (.iinc 9 1, 3) := by decide +kernel
theorem dX11_putRight_308 : decode cX11_putRight 308 = .ok (.goto (-72), 3) := by decide +kernel
theorem dX11_putRight_311 : decode cX11_putRight 311 = .ok (.aload_n 0, 1) := by decide +kernel
theorem dX11_putRight_312 : decode cX11_putRight 312 = .ok (.aload_n 0, 1) := by decide +kernel
theorem dX11_putRight_313 : decode cX11_putRight 313 = .ok (.getfield 114, 3) := by decide +kernel
theorem dX11_putRight_316 : decode cX11_putRight 316 = .ok (.putfield 280, 3) := by decide +kernel
theorem dX11_putRight_319 : decode cX11_putRight 319 = .ok (.iload 8, 2) := by decide +kernel
theorem dX11_putRight_321 : decode cX11_putRight 321 = .ok (.sipush 1000, 3) := by decide +kernel
theorem dX11_putRight_324 : decode cX11_putRight 324 = .ok (.idiv, 1) := by decide +kernel
theorem dX11_putRight_325 : decode cX11_putRight 325 = .ok (.ireturn, 1) := by decide +kernel
theorem dX11_act_0 : decode cX11_act 0 = .ok (.iload_n 1, 1) := by decide +kernel
theorem dX11_act_1 : decode cX11_act 1 = .ok (.iconst 0, 1) := by decide +kernel
theorem dX11_act_2 : decode cX11_act 2 = .ok (.aload_n 0, 1) := by decide +kernel
theorem dX11_act_3 : decode cX11_act 3 = .ok (.getfield 114, 3) := by decide +kernel
theorem dX11_act_6 : decode cX11_act 6 = .ok (.iconst 1, 1) := by decide +kernel
theorem dX11_act_7 : decode cX11_act 7 = .ok (.isub, 1) := by decide +kernel
theorem dX11_act_8 : decode cX11_act 8 = .ok (.invokestatic 145, 3) := by decide +kernel
theorem dX11_act_11 : decode cX11_act 11 = .ok (.ifCond .eq 12, 3) := by decide +kernel
theorem dX11_act_14 : decode cX11_act 14 = .ok (.aload_n 0, 1) := by decide +kernel
theorem dX11_act_15 : decode cX11_act 15 = .ok (.getfield 118, 3) := by decide +kernel
theorem dX11_act_18 : decode cX11_act 18 = .ok (.iload_n 1, 1) := by decide +kernel
theorem dX11_act_19 : decode cX11_act 19 = .ok (.iaload, 1) := by decide +kernel
theorem dX11_act_20 : decode cX11_act 20 = .ok (.goto 5, 3) := by decide +kernel
theorem dX11_act_23 : decode cX11_act 23 = .ok (.bipush (-9), 2) := by decide +kernel
theorem dX11_act_25 : decode cX11_act 25 = .ok (.ireturn, 1) := by decide +kernel
theorem dX11_isFault_0 : decode cX11_isFault 0 = .ok (.iload_n 0, 1) := by decide +kernel
theorem dX11_isFault_1 : decode cX11_isFault 1 = .ok (.tableswitch 93 0 3 #[31, 33, 59, 85], 31) := by decide +kernel
theorem dX11_isFault_32 : decode cX11_isFault 32 = .ok (.iconst 1, 1) := by decide +kernel
theorem dX11_isFault_33 : decode cX11_isFault 33 = .ok (.ireturn, 1) := by decide +kernel
theorem dX11_isFault_34 : decode cX11_isFault 34 = .ok (.iload_n 1, 1) := by decide +kernel
theorem dX11_isFault_35 : decode cX11_isFault 35 = .ok (.iconst 1, 1) := by decide +kernel
theorem dX11_isFault_36 : decode cX11_isFault 36 = .ok (.bipush 11, 2) := by decide +kernel
theorem dX11_isFault_38 : decode cX11_isFault 38 = .ok (.invokestatic 145, 3) := by decide +kernel
theorem dX11_isFault_41 : decode cX11_isFault 41 = .ok (.ifCond .eq 17, 3) := by decide +kernel
theorem dX11_isFault_44 : decode cX11_isFault 44 = .ok (.iload_n 2, 1) := by decide +kernel
theorem dX11_isFault_45 : decode cX11_isFault 45 = .ok (.iconst 0, 1) := by decide +kernel
theorem dX11_isFault_46 : decode cX11_isFault 46 = .ok (.bipush 47, 2) := by decide +kernel
theorem dX11_isFault_48 : decode cX11_isFault 48 = .ok (.invokestatic 145, 3) := by decide +kernel
theorem dX11_isFault_51 : decode cX11_isFault 51 = .ok (.ifCond .eq 7, 3) := by decide +kernel
theorem dX11_isFault_54 : decode cX11_isFault 54 = .ok (.iconst 1, 1) := by decide +kernel
theorem dX11_isFault_55 : decode cX11_isFault 55 = .ok (.goto 4, 3) := by decide +kernel
theorem dX11_isFault_58 : decode cX11_isFault 58 = .ok (.iconst 0, 1) := by decide +kernel
theorem dX11_isFault_59 : decode cX11_isFault 59 = .ok (.ireturn, 1) := by decide +kernel
theorem dX11_isFault_60 : decode cX11_isFault 60 = .ok (.iload_n 1, 1) := by decide +kernel
theorem dX11_isFault_61 : decode cX11_isFault 61 = .ok (.iconst 1, 1) := by decide +kernel
theorem dX11_isFault_62 : decode cX11_isFault 62 = .ok (.bipush 12, 2) := by decide +kernel
theorem dX11_isFault_64 : decode cX11_isFault 64 = .ok (.invokestatic 145, 3) := by decide +kernel
theorem dX11_isFault_67 : decode cX11_isFault 67 = .ok (.ifCond .eq 17, 3) := by decide +kernel
theorem dX11_isFault_70 : decode cX11_isFault 70 = .ok (.iload_n 2, 1) := by decide +kernel
theorem dX11_isFault_71 : decode cX11_isFault 71 = .ok (.iconst 0, 1) := by decide +kernel
theorem dX11_isFault_72 : decode cX11_isFault 72 = .ok (.bipush 24, 2) := by decide +kernel
theorem dX11_isFault_74 : decode cX11_isFault 74 = .ok (.invokestatic 145, 3) := by decide +kernel
theorem dX11_isFault_77 : decode cX11_isFault 77 = .ok (.ifCond .eq 7, 3) := by decide +kernel
theorem dX11_isFault_80 : decode cX11_isFault 80 = .ok (.iconst 1, 1) := by decide +kernel
theorem dX11_isFault_81 : decode cX11_isFault 81 = .ok (.goto 4, 3) := by decide +kernel
theorem dX11_isFault_84 : decode cX11_isFault 84 = .ok (.iconst 0, 1) := by decide +kernel
theorem dX11_isFault_85 : decode cX11_isFault 85 = .ok (.ireturn, 1) := by decide +kernel
theorem dX11_isFault_86 : decode cX11_isFault 86 = .ok (.iload_n 1, 1) := by decide +kernel
theorem dX11_isFault_87 : decode cX11_isFault 87 = .ok (.iconst 1, 1) := by decide +kernel
theorem dX11_isFault_88 : decode cX11_isFault 88 = .ok (.bipush 11, 2) := by decide +kernel
theorem dX11_isFault_90 : decode cX11_isFault 90 = .ok (.invokestatic 145, 3) := by decide +kernel
theorem dX11_isFault_93 : decode cX11_isFault 93 = .ok (.ireturn, 1) := by decide +kernel
theorem dX11_isFault_94 : decode cX11_isFault 94 = .ok (.iload_n 0, 1) := by decide +kernel
theorem dX11_isFault_95 : decode cX11_isFault 95 = .ok (.iconst 4, 1) := by decide +kernel
theorem dX11_isFault_96 : decode cX11_isFault 96 = .ok (.if_icmp .ne 27, 3) := by decide +kernel
theorem dX11_isFault_99 : decode cX11_isFault 99 = .ok (.iload_n 1, 1) := by decide +kernel
theorem dX11_isFault_100 : decode cX11_isFault 100 = .ok (.iconst 0, 1) := by decide +kernel
theorem dX11_isFault_101 : decode cX11_isFault 101 = .ok (.bipush 47, 2) := by decide +kernel
theorem dX11_isFault_103 : decode cX11_isFault 103 = .ok (.invokestatic 145, 3) := by decide +kernel
theorem dX11_isFault_106 : decode cX11_isFault 106 = .ok (.ifCond .eq 17, 3) := by decide +kernel
theorem dX11_isFault_109 : decode cX11_isFault 109 = .ok (.iload_n 2, 1) := by decide +kernel
theorem dX11_isFault_110 : decode cX11_isFault 110 = .ok (.iload_n 1, 1) := by decide +kernel
theorem dX11_isFault_111 : decode cX11_isFault 111 = .ok (.bipush 47, 2) := by decide +kernel
theorem dX11_isFault_113 : decode cX11_isFault 113 = .ok (.invokestatic 145, 3) := by decide +kernel
theorem dX11_isFault_116 : decode cX11_isFault 116 = .ok (.ifCond .eq 7, 3) := by decide +kernel
theorem dX11_isFault_119 : decode cX11_isFault 119 = .ok (.iconst 1, 1) := by decide +kernel
theorem dX11_isFault_120 : decode cX11_isFault 120 = .ok (.goto 4, 3) := by decide +kernel
theorem dX11_isFault_123 : decode cX11_isFault 123 = .ok (.iconst 0, 1) := by decide +kernel
theorem dX11_isFault_124 : decode cX11_isFault 124 = .ok (.ireturn, 1) := by decide +kernel
theorem dX11_dueAt_0 : decode cX11_dueAt 0 = .ok (.iload_n 0, 1) := by decide +kernel
theorem dX11_dueAt_1 : decode cX11_dueAt 1 = .ok (.iconst 1, 1) := by decide +kernel
theorem dX11_dueAt_2 : decode cX11_dueAt 2 = .ok (.isub, 1) := by decide +kernel
theorem dX11_dueAt_3 : decode cX11_dueAt 3 = .ok (.iload_n 1, 1) := by decide +kernel
theorem dX11_dueAt_4 : decode cX11_dueAt 4 = .ok (.iadd, 1) := by decide +kernel
theorem dX11_dueAt_5 : decode cX11_dueAt 5 = .ok (.bipush 12, 2) := by decide +kernel
theorem dX11_dueAt_7 : decode cX11_dueAt 7 = .ok (.irem, 1) := by decide +kernel
theorem dX11_dueAt_8 : decode cX11_dueAt 8 = .ok (.iconst 1, 1) := by decide +kernel
theorem dX11_dueAt_9 : decode cX11_dueAt 9 = .ok (.iadd, 1) := by decide +kernel
theorem dX11_dueAt_10 : decode cX11_dueAt 10 = .ok (.istore 5, 2) := by decide +kernel
theorem dX11_dueAt_12 : decode cX11_dueAt 12 = .ok (.iload_n 2, 1) := by decide +kernel
theorem dX11_dueAt_13 : decode cX11_dueAt 13 = .ok (.tableswitch 100 1 4 #[31, 54, 68, 83], 31) := by decide +kernel
theorem dX11_dueAt_44 : decode cX11_dueAt 44 = .ok (.iload_n 1, 1) := by decide +kernel
theorem dX11_dueAt_45 : decode cX11_dueAt 45 = .ok (.iload 4, 2) := by decide +kernel
theorem dX11_dueAt_47 : decode cX11_dueAt 47 = .ok (.if_icmp .ge 8, 3) := by decide +kernel
theorem dX11_dueAt_50 : decode cX11_dueAt 50 = .ok (.iload 5, 2) := by decide +kernel
theorem dX11_dueAt_52 : decode cX11_dueAt 52 = .ok (.goto 14, 3) := by decide +kernel
theorem dX11_dueAt_55 : decode cX11_dueAt 55 = .ok (.iload 5, 2) := by decide +kernel
theorem dX11_dueAt_57 : decode cX11_dueAt 57 = .ok (.iconst 1, 1) := by decide +kernel
theorem dX11_dueAt_58 : decode cX11_dueAt 58 = .ok (.isub, 1) := by decide +kernel
theorem dX11_dueAt_59 : decode cX11_dueAt 59 = .ok (.iload_n 3, 1) := by decide +kernel
theorem dX11_dueAt_60 : decode cX11_dueAt 60 = .ok (.iadd, 1) := by decide +kernel
theorem dX11_dueAt_61 : decode cX11_dueAt 61 = .ok (.bipush 12, 2) := by decide +kernel
theorem dX11_dueAt_63 : decode cX11_dueAt 63 = .ok (.irem, 1) := by decide +kernel
theorem dX11_dueAt_64 : decode cX11_dueAt 64 = .ok (.iconst 1, 1) := by decide +kernel
theorem dX11_dueAt_65 : decode cX11_dueAt 65 = .ok (.iadd, 1) := by decide +kernel
theorem dX11_dueAt_66 : decode cX11_dueAt 66 = .ok (.ireturn, 1) := by decide +kernel
theorem dX11_dueAt_67 : decode cX11_dueAt 67 = .ok (.iload 5, 2) := by decide +kernel
theorem dX11_dueAt_69 : decode cX11_dueAt 69 = .ok (.iload_n 3, 1) := by decide +kernel
theorem dX11_dueAt_70 : decode cX11_dueAt 70 = .ok (.if_icmp .ne 8, 3) := by decide +kernel
theorem dX11_dueAt_73 : decode cX11_dueAt 73 = .ok (.iload 4, 2) := by decide +kernel
theorem dX11_dueAt_75 : decode cX11_dueAt 75 = .ok (.goto 5, 3) := by decide +kernel
theorem dX11_dueAt_78 : decode cX11_dueAt 78 = .ok (.iload 5, 2) := by decide +kernel
theorem dX11_dueAt_80 : decode cX11_dueAt 80 = .ok (.ireturn, 1) := by decide +kernel
theorem dX11_dueAt_81 : decode cX11_dueAt 81 = .ok (.iload 5, 2) := by decide +kernel
theorem dX11_dueAt_83 : decode cX11_dueAt 83 = .ok (.iload_n 3, 1) := by decide +kernel
theorem dX11_dueAt_84 : decode cX11_dueAt 84 = .ok (.if_icmp .le 10, 3) := by decide +kernel
theorem dX11_dueAt_87 : decode cX11_dueAt 87 = .ok (.iload 5, 2) := by decide +kernel
theorem dX11_dueAt_89 : decode cX11_dueAt 89 = .ok (.iload_n 3, 1) := by decide +kernel
theorem dX11_dueAt_90 : decode cX11_dueAt 90 = .ok (.isub, 1) := by decide +kernel
theorem dX11_dueAt_91 : decode cX11_dueAt 91 = .ok (.goto 4, 3) := by decide +kernel
theorem dX11_dueAt_94 : decode cX11_dueAt 94 = .ok (.iconst 0, 1) := by decide +kernel
theorem dX11_dueAt_95 : decode cX11_dueAt 95 = .ok (.ireturn, 1) := by decide +kernel
theorem dX11_dueAt_96 : decode cX11_dueAt 96 = .ok (.iload_n 1, 1) := by decide +kernel
theorem dX11_dueAt_97 : decode cX11_dueAt 97 = .ok (.iload_n 3, 1) := by decide +kernel
theorem dX11_dueAt_98 : decode cX11_dueAt 98 = .ok (.iload 4, 2) := by decide +kernel
theorem dX11_dueAt_100 : decode cX11_dueAt 100 = .ok (.invokestatic 145, 3) := by decide +kernel
theorem dX11_dueAt_103 : decode cX11_dueAt 103 = .ok (.ifCond .eq 7, 3) := by decide +kernel
theorem dX11_dueAt_106 : decode cX11_dueAt 106 = .ok (.iconst 0, 1) := by decide +kernel
theorem dX11_dueAt_107 : decode cX11_dueAt 107 = .ok (.goto 5, 3) := by decide +kernel
theorem dX11_dueAt_110 : decode cX11_dueAt 110 = .ok (.iload 5, 2) := by decide +kernel
theorem dX11_dueAt_112 : decode cX11_dueAt 112 = .ok (.ireturn, 1) := by decide +kernel
theorem dX11_dueAt_113 : decode cX11_dueAt 113 = .ok (.iload 5, 2) := by decide +kernel
theorem dX11_dueAt_115 : decode cX11_dueAt 115 = .ok (.ireturn, 1) := by decide +kernel
theorem dX11_due_0 : decode cX11_due 0 = .ok (.iload_n 1, 1) := by decide +kernel
theorem dX11_due_1 : decode cX11_due 1 = .ok (.iconst 1, 1) := by decide +kernel
theorem dX11_due_2 : decode cX11_due 2 = .ok (.bipush 12, 2) := by decide +kernel
theorem dX11_due_4 : decode cX11_due 4 = .ok (.invokestatic 145, 3) := by decide +kernel
theorem dX11_due_7 : decode cX11_due 7 = .ok (.ifCond .eq 37, 3) := by decide +kernel
theorem dX11_due_10 : decode cX11_due 10 = .ok (.iload_n 2, 1) := by decide +kernel
theorem dX11_due_11 : decode cX11_due 11 = .ok (.iconst 0, 1) := by decide +kernel
theorem dX11_due_12 : decode cX11_due 12 = .ok (.bipush 47, 2) := by decide +kernel
theorem dX11_due_14 : decode cX11_due 14 = .ok (.invokestatic 145, 3) := by decide +kernel
theorem dX11_due_17 : decode cX11_due 17 = .ok (.ifCond .eq 27, 3) := by decide +kernel
theorem dX11_due_20 : decode cX11_due 20 = .ok (.iload_n 3, 1) := by decide +kernel
theorem dX11_due_21 : decode cX11_due 21 = .ok (.iload 4, 2) := by decide +kernel
theorem dX11_due_23 : decode cX11_due 23 = .ok (.iload 5, 2) := by decide +kernel
theorem dX11_due_25 : decode cX11_due 25 = .ok (.invokestatic 283, 3) := by decide +kernel
theorem dX11_due_28 : decode cX11_due 28 = .ok (.ifCond .eq 16, 3) := by decide +kernel
theorem dX11_due_31 : decode cX11_due 31 = .ok (.iload_n 1, 1) := by decide +kernel
theorem dX11_due_32 : decode cX11_due 32 = .ok (.iload_n 2, 1) := by decide +kernel
theorem dX11_due_33 : decode cX11_due 33 = .ok (.iload_n 3, 1) := by decide +kernel
theorem dX11_due_34 : decode cX11_due 34 = .ok (.iload 4, 2) := by decide +kernel
theorem dX11_due_36 : decode cX11_due 36 = .ok (.iload 5, 2) := by decide +kernel
theorem dX11_due_38 : decode cX11_due 38 = .ok (.invokestatic 286, 3) := by decide +kernel
theorem dX11_due_41 : decode cX11_due 41 = .ok (.goto 4, 3) := by decide +kernel
theorem dX11_due_44 : decode cX11_due 44 = .ok (.iconst (-1), 1) := by decide +kernel
theorem dX11_due_45 : decode cX11_due 45 = .ok (.ireturn, 1) := by decide +kernel
theorem dX11_misfitsOf_0 : decode cX11_misfitsOf 0 = .ok (.iconst 0, 1) := by decide +kernel
theorem dX11_misfitsOf_1 : decode cX11_misfitsOf 1 = .ok (.istore 6, 2) := by decide +kernel
theorem dX11_misfitsOf_3 : decode cX11_misfitsOf 3 = .ok (.iconst 0, 1) := by decide +kernel
theorem dX11_misfitsOf_4 : decode cX11_misfitsOf 4 = .ok (.istore 7, 2) := by decide +kernel
theorem dX11_misfitsOf_6 : decode cX11_misfitsOf 6 = .ok (.iload 7, 2) := by decide +kernel
theorem dX11_misfitsOf_8 : decode cX11_misfitsOf 8 = .ok (.aload_n 0, 1) := by decide +kernel
theorem dX11_misfitsOf_9 : decode cX11_misfitsOf 9 = .ok (.getfield 17, 3) := by decide +kernel
theorem dX11_misfitsOf_12 : decode cX11_misfitsOf 12 = .ok (.iload_n 1, 1) := by decide +kernel
theorem dX11_misfitsOf_13 : decode cX11_misfitsOf 13 = .ok (.iaload, 1) := by decide +kernel
theorem dX11_misfitsOf_14 : decode cX11_misfitsOf 14 = .ok (.if_icmp .ge 54, 3) := by decide +kernel
theorem dX11_misfitsOf_17 : decode cX11_misfitsOf 17 = .ok (.aload_n 0, 1) := by decide +kernel
theorem dX11_misfitsOf_18 : decode cX11_misfitsOf 18 = .ok (.getfield 20, 3) := by decide +kernel
theorem dX11_misfitsOf_21 : decode cX11_misfitsOf 21 = .ok (.bipush 48, 2) := by decide +kernel
theorem dX11_misfitsOf_23 : decode cX11_misfitsOf 23 = .ok (.iload_n 1, 1) := by decide +kernel
theorem dX11_misfitsOf_24 : decode cX11_misfitsOf 24 = .ok (.imul, 1) := by decide +kernel
theorem dX11_misfitsOf_25 : decode cX11_misfitsOf 25 = .ok (.iload 7, 2) := by decide +kernel
theorem dX11_misfitsOf_27 : decode cX11_misfitsOf 27 = .ok (.iadd, 1) := by decide +kernel
theorem dX11_misfitsOf_28 : decode cX11_misfitsOf 28 = .ok (.iaload, 1) := by decide +kernel
theorem dX11_misfitsOf_29 : decode cX11_misfitsOf 29 = .ok (.istore 8, 2) := by decide +kernel
theorem dX11_misfitsOf_31 : decode cX11_misfitsOf 31 = .ok (.iload 6, 2) := by decide +kernel
theorem dX11_misfitsOf_33 : decode cX11_misfitsOf 33 = .ok (.iload 8, 2) := by decide +kernel
theorem dX11_misfitsOf_35 : decode cX11_misfitsOf 35 = .ok (.ifCond .lt 23, 3) := by decide +kernel
theorem dX11_misfitsOf_38 : decode cX11_misfitsOf 38 = .ok (.iload 8, 2) := by decide +kernel
theorem dX11_misfitsOf_40 : decode cX11_misfitsOf 40 = .ok (.iload_n 2, 1) := by decide +kernel
theorem dX11_misfitsOf_41 : decode cX11_misfitsOf 41 = .ok (.iload 7, 2) := by decide +kernel
theorem dX11_misfitsOf_43 : decode cX11_misfitsOf 43 = .ok (.iload_n 3, 1) := by decide +kernel
theorem dX11_misfitsOf_44 : decode cX11_misfitsOf 44 = .ok (.iload 4, 2) := by decide +kernel
theorem dX11_misfitsOf_46 : decode cX11_misfitsOf 46 = .ok (.iload 5, 2) := by decide +kernel
theorem dX11_misfitsOf_48 : decode cX11_misfitsOf 48 = .ok (.invokestatic 286, 3) := by decide +kernel
theorem dX11_misfitsOf_51 : decode cX11_misfitsOf 51 = .ok (.if_icmp .eq 7, 3) := by decide +kernel
theorem dX11_misfitsOf_54 : decode cX11_misfitsOf 54 = .ok (.iconst 1, 1) := by decide +kernel
theorem dX11_misfitsOf_55 : decode cX11_misfitsOf 55 = .ok (.goto 4, 3) := by decide +kernel
theorem dX11_misfitsOf_58 : decode cX11_misfitsOf 58 = .ok (.iconst 0, 1) := by decide +kernel
theorem dX11_misfitsOf_59 : decode cX11_misfitsOf 59 = .ok (.iadd, 1) := by decide +kernel
theorem dX11_misfitsOf_60 : decode cX11_misfitsOf 60 = .ok (.istore 6, 2) := by decide +kernel
theorem dX11_misfitsOf_62 : decode cX11_misfitsOf 62 = .ok (.iinc 7 1, 3) := by decide +kernel
theorem dX11_misfitsOf_65 : decode cX11_misfitsOf 65 = .ok (.goto (-59), 3) := by decide +kernel
theorem dX11_misfitsOf_68 : decode cX11_misfitsOf 68 = .ok (.iload 6, 2) := by decide +kernel
theorem dX11_misfitsOf_70 : decode cX11_misfitsOf 70 = .ok (.ireturn, 1) := by decide +kernel
theorem dX11_misfits_0 : decode cX11_misfits 0 = .ok (.iload_n 2, 1) := by decide +kernel
theorem dX11_misfits_1 : decode cX11_misfits 1 = .ok (.iconst 1, 1) := by decide +kernel
theorem dX11_misfits_2 : decode cX11_misfits 2 = .ok (.bipush 12, 2) := by decide +kernel
theorem dX11_misfits_4 : decode cX11_misfits 4 = .ok (.invokestatic 145, 3) := by decide +kernel
theorem dX11_misfits_7 : decode cX11_misfits 7 = .ok (.ifCond .eq 14, 3) := by decide +kernel
theorem dX11_misfits_10 : decode cX11_misfits 10 = .ok (.iload_n 3, 1) := by decide +kernel
theorem dX11_misfits_11 : decode cX11_misfits 11 = .ok (.iload 4, 2) := by decide +kernel
theorem dX11_misfits_13 : decode cX11_misfits 13 = .ok (.iload 5, 2) := by decide +kernel
theorem dX11_misfits_15 : decode cX11_misfits 15 = .ok (.invokestatic 283, 3) := by decide +kernel
theorem dX11_misfits_18 : decode cX11_misfits 18 = .ok (.ifCond .ne 5, 3) := by decide +kernel
theorem dX11_misfits_21 : decode cX11_misfits 21 = .ok (.iconst (-1), 1) := by decide +kernel
theorem dX11_misfits_22 : decode cX11_misfits 22 = .ok (.ireturn, 1) := by decide +kernel
theorem dX11_misfits_23 : decode cX11_misfits 23 = .ok (.aload_n 0, 1) := by decide +kernel
theorem dX11_misfits_24 : decode cX11_misfits 24 = .ok (.iload_n 1, 1) := by decide +kernel
theorem dX11_misfits_25 : decode cX11_misfits 25 = .ok (.invokevirtual 157, 3) := by decide +kernel
theorem dX11_misfits_28 : decode cX11_misfits 28 = .ok (.istore 6, 2) := by decide +kernel
theorem dX11_misfits_30 : decode cX11_misfits 30 = .ok (.iload 6, 2) := by decide +kernel
theorem dX11_misfits_32 : decode cX11_misfits 32 = .ok (.ifCond .ge 8, 3) := by decide +kernel
theorem dX11_misfits_35 : decode cX11_misfits 35 = .ok (.iload 6, 2) := by decide +kernel
theorem dX11_misfits_37 : decode cX11_misfits 37 = .ok (.goto 14, 3) := by decide +kernel
theorem dX11_misfits_40 : decode cX11_misfits 40 = .ok (.aload_n 0, 1) := by decide +kernel
theorem dX11_misfits_41 : decode cX11_misfits 41 = .ok (.iload_n 1, 1) := by decide +kernel
theorem dX11_misfits_42 : decode cX11_misfits 42 = .ok (.iload_n 2, 1) := by decide +kernel
theorem dX11_misfits_43 : decode cX11_misfits 43 = .ok (.iload_n 3, 1) := by decide +kernel
theorem dX11_misfits_44 : decode cX11_misfits 44 = .ok (.iload 4, 2) := by decide +kernel
theorem dX11_misfits_46 : decode cX11_misfits 46 = .ok (.iload 5, 2) := by decide +kernel
theorem dX11_misfits_48 : decode cX11_misfits 48 = .ok (.invokevirtual 290, 3) := by decide +kernel
theorem dX11_misfits_51 : decode cX11_misfits 51 = .ok (.ireturn, 1) := by decide +kernel
theorem dX11_tryFault_0 : decode cX11_tryFault 0 = .ok (.aload_n 0, 1) := by decide +kernel
theorem dX11_tryFault_1 : decode cX11_tryFault 1 = .ok (.iload_n 1, 1) := by decide +kernel
theorem dX11_tryFault_2 : decode cX11_tryFault 2 = .ok (.iload_n 2, 1) := by decide +kernel
theorem dX11_tryFault_3 : decode cX11_tryFault 3 = .ok (.iload_n 3, 1) := by decide +kernel
theorem dX11_tryFault_4 : decode cX11_tryFault 4 = .ok (.iload 4, 2) := by decide +kernel
theorem dX11_tryFault_6 : decode cX11_tryFault 6 = .ok (.iload 5, 2) := by decide +kernel
theorem dX11_tryFault_8 : decode cX11_tryFault 8 = .ok (.invokevirtual 290, 3) := by decide +kernel
theorem dX11_tryFault_11 : decode cX11_tryFault 11 = .ok (.istore 6, 2) := by decide +kernel
theorem dX11_tryFault_13 : decode cX11_tryFault 13 = .ok (.aload_n 0, 1) := by decide +kernel
theorem dX11_tryFault_14 : decode cX11_tryFault 14 = .ok (.dup, 1) := by decide +kernel
theorem dX11_tryFault_15 : decode cX11_tryFault 15 = .ok (.getfield 293, 3) := by decide +kernel
theorem dX11_tryFault_18 : decode cX11_tryFault 18 = .ok (.iload 6, 2) := by decide +kernel
theorem dX11_tryFault_20 : decode cX11_tryFault 20 = .ok (.ifCond .ne 7, 3) := by decide +kernel
theorem dX11_tryFault_23 : decode cX11_tryFault 23 = .ok (.iconst 1, 1) := by decide +kernel
theorem dX11_tryFault_24 : decode cX11_tryFault 24 = .ok (.goto 4, 3) := by decide +kernel
theorem dX11_tryFault_27 : decode cX11_tryFault 27 = .ok (.iconst 0, 1) := by decide +kernel
theorem dX11_tryFault_28 : decode cX11_tryFault 28 = .ok (.iadd, 1) := by decide +kernel
theorem dX11_tryFault_29 : decode cX11_tryFault 29 = .ok (.putfield 293, 3) := by decide +kernel
theorem dX11_tryFault_32 : decode cX11_tryFault 32 = .ok (.aload_n 0, 1) := by decide +kernel
theorem dX11_tryFault_33 : decode cX11_tryFault 33 = .ok (.getfield 296, 3) := by decide +kernel
theorem dX11_tryFault_36 : decode cX11_tryFault 36 = .ok (.ifCond .lt 12, 3) := by decide +kernel
theorem dX11_tryFault_39 : decode cX11_tryFault 39 = .ok (.iload 6, 2) := by decide +kernel
theorem dX11_tryFault_41 : decode cX11_tryFault 41 = .ok (.aload_n 0, 1) := by decide +kernel
theorem dX11_tryFault_42 : decode cX11_tryFault 42 = .ok (.getfield 296, 3) := by decide +kernel
theorem dX11_tryFault_45 : decode cX11_tryFault 45 = .ok (.if_icmp .ge 55, 3) := by decide +kernel
theorem dX11_tryFault_48 : decode cX11_tryFault 48 = .ok (.aload_n 0, 1) := by decide +kernel
theorem dX11_tryFault_49 : decode cX11_tryFault 49 = .ok (.iload 6, 2) := by decide +kernel
theorem dX11_tryFault_51 : decode cX11_tryFault 51 = .ok (.putfield 296, 3) := by decide +kernel
theorem dX11_tryFault_54 : decode cX11_tryFault 54 = .ok (.aload_n 0, 1) := by decide +kernel
theorem dX11_tryFault_55 : decode cX11_tryFault 55 = .ok (.getfield 121, 3) := by decide +kernel
theorem dX11_tryFault_58 : decode cX11_tryFault 58 = .ok (.iconst 0, 1) := by decide +kernel
theorem dX11_tryFault_59 : decode cX11_tryFault 59 = .ok (.iload_n 3, 1) := by decide +kernel
theorem dX11_tryFault_60 : decode cX11_tryFault 60 = .ok (.iastore, 1) := by decide +kernel
theorem dX11_tryFault_61 : decode cX11_tryFault 61 = .ok (.aload_n 0, 1) := by decide +kernel
theorem dX11_tryFault_62 : decode cX11_tryFault 62 = .ok (.getfield 121, 3) := by decide +kernel
theorem dX11_tryFault_65 : decode cX11_tryFault 65 = .ok (.iconst 1, 1) := by decide +kernel
theorem dX11_tryFault_66 : decode cX11_tryFault 66 = .ok (.iload_n 3, 1) := by decide +kernel
theorem dX11_tryFault_67 : decode cX11_tryFault 67 = .ok (.ifCond .ne 8, 3) := by decide +kernel
theorem dX11_tryFault_70 : decode cX11_tryFault 70 = .ok (.bipush (-9), 2) := by decide +kernel
theorem dX11_tryFault_72 : decode cX11_tryFault 72 = .ok (.goto 5, 3) := by decide +kernel
theorem dX11_tryFault_75 : decode cX11_tryFault 75 = .ok (.iload 4, 2) := by decide +kernel
theorem dX11_tryFault_77 : decode cX11_tryFault 77 = .ok (.iastore, 1) := by decide +kernel
theorem dX11_tryFault_78 : decode cX11_tryFault 78 = .ok (.aload_n 0, 1) := by decide +kernel
theorem dX11_tryFault_79 : decode cX11_tryFault 79 = .ok (.getfield 121, 3) := by decide +kernel
theorem dX11_tryFault_82 : decode cX11_tryFault 82 = .ok (.iconst 2, 1) := by decide +kernel
theorem dX11_tryFault_83 : decode cX11_tryFault 83 = .ok (.iload_n 3, 1) := by decide +kernel
theorem dX11_tryFault_84 : decode cX11_tryFault 84 = .ok (.ifCond .eq 8, 3) := by decide +kernel
theorem dX11_tryFault_87 : decode cX11_tryFault 87 = .ok (.iload_n 3, 1) := by decide +kernel
theorem dX11_tryFault_88 : decode cX11_tryFault 88 = .ok (.iconst 3, 1) := by decide +kernel
theorem dX11_tryFault_89 : decode cX11_tryFault 89 = .ok (.if_icmp .ne 8, 3) := by decide +kernel
theorem dX11_tryFault_92 : decode cX11_tryFault 92 = .ok (.bipush (-9), 2) := by decide +kernel
theorem dX11_tryFault_94 : decode cX11_tryFault 94 = .ok (.goto 5, 3) := by decide +kernel
theorem dX11_tryFault_97 : decode cX11_tryFault 97 = .ok (.iload 5, 2) := by decide +kernel
theorem dX11_tryFault_99 : decode cX11_tryFault 99 = .ok (.iastore, 1) := by decide +kernel
theorem dX11_tryFault_100 : decode cX11_tryFault 100 = .ok (.return_, 1) := by decide +kernel
theorem dX11_tryAll_0 : decode cX11_tryAll 0 = .ok (.aload_n 0, 1) := by decide +kernel
theorem dX11_tryAll_1 : decode cX11_tryAll 1 = .ok (.bipush (-9), 2) := by decide +kernel
theorem dX11_tryAll_3 : decode cX11_tryAll 3 = .ok (.putfield 296, 3) := by decide +kernel
theorem dX11_tryAll_6 : decode cX11_tryAll 6 = .ok (.aload_n 0, 1) := by decide +kernel
theorem dX11_tryAll_7 : decode cX11_tryAll 7 = .ok (.iconst 0, 1) := by decide +kernel
theorem dX11_tryAll_8 : decode cX11_tryAll 8 = .ok (.putfield 293, 3) := by decide +kernel
theorem dX11_tryAll_11 : decode cX11_tryAll 11 = .ok (.iconst 0, 1) := by decide +kernel
theorem dX11_tryAll_12 : decode cX11_tryAll 12 = .ok (.istore_n 3, 1) := by decide +kernel
theorem dX11_tryAll_13 : decode cX11_tryAll 13 = .ok (.iload_n 3, 1) := by decide +kernel
theorem dX11_tryAll_14 : decode cX11_tryAll 14 = .ok (.iconst 5, 1) := by decide +kernel
theorem dX11_tryAll_15 : decode cX11_tryAll 15 = .ok (.if_icmp .ge 85, 3) := by decide +kernel
theorem dX11_tryAll_18 : decode cX11_tryAll 18 = .ok (.iconst 0, 1) := by decide +kernel
theorem dX11_tryAll_19 : decode cX11_tryAll 19 = .ok (.istore 4, 2) := by decide +kernel
theorem dX11_tryAll_21 : decode cX11_tryAll 21 = .ok (.iload 4, 2) := by decide +kernel
theorem dX11_tryAll_23 : decode cX11_tryAll 23 = .ok (.bipush 48, 2) := by decide +kernel
theorem dX11_tryAll_25 : decode cX11_tryAll 25 = .ok (.if_icmp .ge 69, 3) := by decide +kernel
theorem dX11_tryAll_28 : decode cX11_tryAll 28 = .ok (.iconst 0, 1) := by decide +kernel
theorem dX11_tryAll_29 : decode cX11_tryAll 29 = .ok (.istore 5, 2) := by decide +kernel
theorem dX11_tryAll_31 : decode cX11_tryAll 31 = .ok (.iload 5, 2) := by decide +kernel
theorem dX11_tryAll_33 : decode cX11_tryAll 33 = .ok (.iload_n 3, 1) := by decide +kernel
theorem dX11_tryAll_34 : decode cX11_tryAll 34 = .ok (.ifCond .eq 8, 3) := by decide +kernel
theorem dX11_tryAll_37 : decode cX11_tryAll 37 = .ok (.iload_n 3, 1) := by decide +kernel
theorem dX11_tryAll_38 : decode cX11_tryAll 38 = .ok (.iconst 3, 1) := by decide +kernel
theorem dX11_tryAll_39 : decode cX11_tryAll 39 = .ok (.if_icmp .ne 7, 3) := by decide +kernel
theorem dX11_tryAll_42 : decode cX11_tryAll 42 = .ok (.iconst 1, 1) := by decide +kernel
theorem dX11_tryAll_43 : decode cX11_tryAll 43 = .ok (.goto 5, 3) := by decide +kernel
theorem dX11_tryAll_46 : decode cX11_tryAll 46 = .ok (.bipush 48, 2) := by decide +kernel
theorem dX11_tryAll_48 : decode cX11_tryAll 48 = .ok (.if_icmp .ge 40, 3) := by decide +kernel
theorem dX11_tryAll_51 : decode cX11_tryAll 51 = .ok (.iload_n 3, 1) := by decide +kernel
theorem dX11_tryAll_52 : decode cX11_tryAll 52 = .ok (.iload 4, 2) := by decide +kernel
theorem dX11_tryAll_54 : decode cX11_tryAll 54 = .ok (.iload 5, 2) := by decide +kernel
theorem dX11_tryAll_56 : decode cX11_tryAll 56 = .ok (.invokestatic 283, 3) := by decide +kernel
theorem dX11_tryAll_59 : decode cX11_tryAll 59 = .ok (.ifCond .eq 23, 3) := by decide +kernel
theorem dX11_tryAll_62 : decode cX11_tryAll 62 = .ok (.iload_n 3, 1) := by decide +kernel
theorem dX11_tryAll_63 : decode cX11_tryAll 63 = .ok (.ifCond .gt 8, 3) := by decide +kernel
theorem dX11_tryAll_66 : decode cX11_tryAll 66 = .ok (.iload 4, 2) := by decide +kernel
theorem dX11_tryAll_68 : decode cX11_tryAll 68 = .ok (.ifCond .ne 14, 3) := by decide +kernel
theorem dX11_tryAll_71 : decode cX11_tryAll 71 = .ok (.aload_n 0, 1) := by decide +kernel
theorem dX11_tryAll_72 : decode cX11_tryAll 72 = .ok (.iload_n 1, 1) := by decide +kernel
theorem dX11_tryAll_73 : decode cX11_tryAll 73 = .ok (.iload_n 2, 1) := by decide +kernel
theorem dX11_tryAll_74 : decode cX11_tryAll 74 = .ok (.iload_n 3, 1) := by decide +kernel
theorem dX11_tryAll_75 : decode cX11_tryAll 75 = .ok (.iload 4, 2) := by decide +kernel
theorem dX11_tryAll_77 : decode cX11_tryAll 77 = .ok (.iload 5, 2) := by decide +kernel
theorem dX11_tryAll_79 : decode cX11_tryAll 79 = .ok (.invokevirtual 299, 3) := by decide +kernel
theorem dX11_tryAll_82 : decode cX11_tryAll 82 = .ok (.iinc 5 1, 3) := by decide +kernel
theorem dX11_tryAll_85 : decode cX11_tryAll 85 = .ok (.goto (-54), 3) := by decide +kernel
theorem dX11_tryAll_88 : decode cX11_tryAll 88 = .ok (.iinc 4 1, 3) := by decide +kernel
theorem dX11_tryAll_91 : decode cX11_tryAll 91 = .ok (.goto (-70), 3) := by decide +kernel
theorem dX11_tryAll_94 : decode cX11_tryAll 94 = .ok (.iinc 3 1, 3) := by decide +kernel
theorem dX11_tryAll_97 : decode cX11_tryAll 97 = .ok (.goto (-84), 3) := by decide +kernel
theorem dX11_tryAll_100 : decode cX11_tryAll 100 = .ok (.return_, 1) := by decide +kernel
theorem dX11_fault_0 : decode cX11_fault 0 = .ok (.iload_n 2, 1) := by decide +kernel
theorem dX11_fault_1 : decode cX11_fault 1 = .ok (.iconst 1, 1) := by decide +kernel
theorem dX11_fault_2 : decode cX11_fault 2 = .ok (.bipush 12, 2) := by decide +kernel
theorem dX11_fault_4 : decode cX11_fault 4 = .ok (.invokestatic 145, 3) := by decide +kernel
theorem dX11_fault_7 : decode cX11_fault 7 = .ok (.ifCond .ne 5, 3) := by decide +kernel
theorem dX11_fault_10 : decode cX11_fault 10 = .ok (.iconst (-1), 1) := by decide +kernel
theorem dX11_fault_11 : decode cX11_fault 11 = .ok (.ireturn, 1) := by decide +kernel
theorem dX11_fault_12 : decode cX11_fault 12 = .ok (.aload_n 0, 1) := by decide +kernel
theorem dX11_fault_13 : decode cX11_fault 13 = .ok (.iload_n 1, 1) := by decide +kernel
theorem dX11_fault_14 : decode cX11_fault 14 = .ok (.invokevirtual 157, 3) := by decide +kernel
theorem dX11_fault_17 : decode cX11_fault 17 = .ok (.istore_n 3, 1) := by decide +kernel
theorem dX11_fault_18 : decode cX11_fault 18 = .ok (.iload_n 3, 1) := by decide +kernel
theorem dX11_fault_19 : decode cX11_fault 19 = .ok (.ifCond .ge 5, 3) := by decide +kernel
theorem dX11_fault_22 : decode cX11_fault 22 = .ok (.iload_n 3, 1) := by decide +kernel
theorem dX11_fault_23 : decode cX11_fault 23 = .ok (.ireturn, 1) := by decide +kernel
theorem dX11_fault_24 : decode cX11_fault 24 = .ok (.aload_n 0, 1) := by decide +kernel
theorem dX11_fault_25 : decode cX11_fault 25 = .ok (.iload_n 1, 1) := by decide +kernel
theorem dX11_fault_26 : decode cX11_fault 26 = .ok (.iload_n 2, 1) := by decide +kernel
theorem dX11_fault_27 : decode cX11_fault 27 = .ok (.invokevirtual 303, 3) := by decide +kernel
theorem dX11_fault_30 : decode cX11_fault 30 = .ok (.aload_n 0, 1) := by decide +kernel
theorem dX11_fault_31 : decode cX11_fault 31 = .ok (.aload_n 0, 1) := by decide +kernel
theorem dX11_fault_32 : decode cX11_fault 32 = .ok (.getfield 121, 3) := by decide +kernel
theorem dX11_fault_35 : decode cX11_fault 35 = .ok (.iconst 0, 1) := by decide +kernel
theorem dX11_fault_36 : decode cX11_fault 36 = .ok (.iaload, 1) := by decide +kernel
theorem dX11_fault_37 : decode cX11_fault 37 = .ok (.putfield 307, 3) := by decide +kernel
theorem dX11_fault_40 : decode cX11_fault 40 = .ok (.aload_n 0, 1) := by decide +kernel
theorem dX11_fault_41 : decode cX11_fault 41 = .ok (.aload_n 0, 1) := by decide +kernel
theorem dX11_fault_42 : decode cX11_fault 42 = .ok (.getfield 121, 3) := by decide +kernel
theorem dX11_fault_45 : decode cX11_fault 45 = .ok (.iconst 1, 1) := by decide +kernel
theorem dX11_fault_46 : decode cX11_fault 46 = .ok (.iaload, 1) := by decide +kernel
theorem dX11_fault_47 : decode cX11_fault 47 = .ok (.putfield 133, 3) := by decide +kernel
theorem dX11_fault_50 : decode cX11_fault 50 = .ok (.aload_n 0, 1) := by decide +kernel
theorem dX11_fault_51 : decode cX11_fault 51 = .ok (.aload_n 0, 1) := by decide +kernel
theorem dX11_fault_52 : decode cX11_fault 52 = .ok (.getfield 121, 3) := by decide +kernel
theorem dX11_fault_55 : decode cX11_fault 55 = .ok (.iconst 2, 1) := by decide +kernel
theorem dX11_fault_56 : decode cX11_fault 56 = .ok (.iaload, 1) := by decide +kernel
theorem dX11_fault_57 : decode cX11_fault 57 = .ok (.putfield 136, 3) := by decide +kernel
theorem dX11_fault_60 : decode cX11_fault 60 = .ok (.aload_n 0, 1) := by decide +kernel
theorem dX11_fault_61 : decode cX11_fault 61 = .ok (.aload_n 0, 1) := by decide +kernel
theorem dX11_fault_62 : decode cX11_fault 62 = .ok (.getfield 296, 3) := by decide +kernel
theorem dX11_fault_65 : decode cX11_fault 65 = .ok (.putfield 280, 3) := by decide +kernel
theorem dX11_fault_68 : decode cX11_fault 68 = .ok (.aload_n 0, 1) := by decide +kernel
theorem dX11_fault_69 : decode cX11_fault 69 = .ok (.getfield 307, 3) := by decide +kernel
theorem dX11_fault_72 : decode cX11_fault 72 = .ok (.ireturn, 1) := by decide +kernel
theorem dX11_faultTold_0 : decode cX11_faultTold 0 = .ok (.iload_n 1, 1) := by decide +kernel
theorem dX11_faultTold_1 : decode cX11_faultTold 1 = .ok (.ifCond .eq 10, 3) := by decide +kernel
theorem dX11_faultTold_4 : decode cX11_faultTold 4 = .ok (.aload_n 0, 1) := by decide +kernel
theorem dX11_faultTold_5 : decode cX11_faultTold 5 = .ok (.getfield 136, 3) := by decide +kernel
theorem dX11_faultTold_8 : decode cX11_faultTold 8 = .ok (.goto 7, 3) := by decide +kernel
theorem dX11_faultTold_11 : decode cX11_faultTold 11 = .ok (.aload_n 0, 1) := by decide +kernel
theorem dX11_faultTold_12 : decode cX11_faultTold 12 = .ok (.getfield 133, 3) := by decide +kernel
theorem dX11_faultTold_15 : decode cX11_faultTold 15 = .ok (.ireturn, 1) := by decide +kernel
theorem dX11_explained_0 : decode cX11_explained 0 = .ok (.iload_n 2, 1) := by decide +kernel
theorem dX11_explained_1 : decode cX11_explained 1 = .ok (.iconst 1, 1) := by decide +kernel
theorem dX11_explained_2 : decode cX11_explained 2 = .ok (.bipush 12, 2) := by decide +kernel
theorem dX11_explained_4 : decode cX11_explained 4 = .ok (.invokestatic 145, 3) := by decide +kernel
theorem dX11_explained_7 : decode cX11_explained 7 = .ok (.ifCond .ne 5, 3) := by decide +kernel
theorem dX11_explained_10 : decode cX11_explained 10 = .ok (.iconst (-1), 1) := by decide +kernel
theorem dX11_explained_11 : decode cX11_explained 11 = .ok (.ireturn, 1) := by decide +kernel
theorem dX11_explained_12 : decode cX11_explained 12 = .ok (.aload_n 0, 1) := by decide +kernel
theorem dX11_explained_13 : decode cX11_explained 13 = .ok (.iload_n 1, 1) := by decide +kernel
theorem dX11_explained_14 : decode cX11_explained 14 = .ok (.invokevirtual 157, 3) := by decide +kernel
theorem dX11_explained_17 : decode cX11_explained 17 = .ok (.istore_n 3, 1) := by decide +kernel
theorem dX11_explained_18 : decode cX11_explained 18 = .ok (.iload_n 3, 1) := by decide +kernel
theorem dX11_explained_19 : decode cX11_explained 19 = .ok (.ifCond .ge 5, 3) := by decide +kernel
theorem dX11_explained_22 : decode cX11_explained 22 = .ok (.iload_n 3, 1) := by decide +kernel
theorem dX11_explained_23 : decode cX11_explained 23 = .ok (.ireturn, 1) := by decide +kernel
theorem dX11_explained_24 : decode cX11_explained 24 = .ok (.aload_n 0, 1) := by decide +kernel
theorem dX11_explained_25 : decode cX11_explained 25 = .ok (.iload_n 1, 1) := by decide +kernel
theorem dX11_explained_26 : decode cX11_explained 26 = .ok (.iload_n 2, 1) := by decide +kernel
theorem dX11_explained_27 : decode cX11_explained 27 = .ok (.invokevirtual 303, 3) := by decide +kernel
theorem dX11_explained_30 : decode cX11_explained 30 = .ok (.aload_n 0, 1) := by decide +kernel
theorem dX11_explained_31 : decode cX11_explained 31 = .ok (.getfield 293, 3) := by decide +kernel
theorem dX11_explained_34 : decode cX11_explained 34 = .ok (.ireturn, 1) := by decide +kernel
theorem dX11_windy_0 : decode cX11_windy 0 = .ok (.iload_n 2, 1) := by decide +kernel
theorem dX11_windy_1 : decode cX11_windy 1 = .ok (.iconst 1, 1) := by decide +kernel
theorem dX11_windy_2 : decode cX11_windy 2 = .ok (.bipush 12, 2) := by decide +kernel
theorem dX11_windy_4 : decode cX11_windy 4 = .ok (.invokestatic 145, 3) := by decide +kernel
theorem dX11_windy_7 : decode cX11_windy 7 = .ok (.ifCond .eq 14, 3) := by decide +kernel
theorem dX11_windy_10 : decode cX11_windy 10 = .ok (.iload_n 3, 1) := by decide +kernel
theorem dX11_windy_11 : decode cX11_windy 11 = .ok (.iload 4, 2) := by decide +kernel
theorem dX11_windy_13 : decode cX11_windy 13 = .ok (.iload 5, 2) := by decide +kernel
theorem dX11_windy_15 : decode cX11_windy 15 = .ok (.invokestatic 283, 3) := by decide +kernel
theorem dX11_windy_18 : decode cX11_windy 18 = .ok (.ifCond .ne 5, 3) := by decide +kernel
theorem dX11_windy_21 : decode cX11_windy 21 = .ok (.iconst (-1), 1) := by decide +kernel
theorem dX11_windy_22 : decode cX11_windy 22 = .ok (.ireturn, 1) := by decide +kernel
theorem dX11_windy_23 : decode cX11_windy 23 = .ok (.aload_n 0, 1) := by decide +kernel
theorem dX11_windy_24 : decode cX11_windy 24 = .ok (.iload_n 1, 1) := by decide +kernel
theorem dX11_windy_25 : decode cX11_windy 25 = .ok (.invokevirtual 157, 3) := by decide +kernel
theorem dX11_windy_28 : decode cX11_windy 28 = .ok (.istore 6, 2) := by decide +kernel
theorem dX11_windy_30 : decode cX11_windy 30 = .ok (.iload 6, 2) := by decide +kernel
theorem dX11_windy_32 : decode cX11_windy 32 = .ok (.ifCond .ge 6, 3) := by decide +kernel
theorem dX11_windy_35 : decode cX11_windy 35 = .ok (.iload 6, 2) := by decide +kernel
theorem dX11_windy_37 : decode cX11_windy 37 = .ok (.ireturn, 1) := by decide +kernel
theorem dX11_windy_38 : decode cX11_windy 38 = .ok (.iconst 0, 1) := by decide +kernel
theorem dX11_windy_39 : decode cX11_windy 39 = .ok (.istore 7, 2) := by decide +kernel
theorem dX11_windy_41 : decode cX11_windy 41 = .ok (.iload 7, 2) := by decide +kernel
theorem dX11_windy_43 : decode cX11_windy 43 = .ok (.aload_n 0, 1) := by decide +kernel
theorem dX11_windy_44 : decode cX11_windy 44 = .ok (.getfield 17, 3) := by decide +kernel
theorem dX11_windy_47 : decode cX11_windy 47 = .ok (.iload_n 1, 1) := by decide +kernel
theorem dX11_windy_48 : decode cX11_windy 48 = .ok (.iaload, 1) := by decide +kernel
theorem dX11_windy_49 : decode cX11_windy 49 = .ok (.if_icmp .ge 43, 3) := by decide +kernel
theorem dX11_windy_52 : decode cX11_windy 52 = .ok (.aload_n 0, 1) := by decide +kernel
theorem dX11_windy_53 : decode cX11_windy 53 = .ok (.getfield 20, 3) := by decide +kernel
theorem dX11_windy_56 : decode cX11_windy 56 = .ok (.bipush 48, 2) := by decide +kernel
theorem dX11_windy_58 : decode cX11_windy 58 = .ok (.iload_n 1, 1) := by decide +kernel
theorem dX11_windy_59 : decode cX11_windy 59 = .ok (.imul, 1) := by decide +kernel
theorem dX11_windy_60 : decode cX11_windy 60 = .ok (.iload 7, 2) := by decide +kernel
theorem dX11_windy_62 : decode cX11_windy 62 = .ok (.iadd, 1) := by decide +kernel
theorem dX11_windy_63 : decode cX11_windy 63 = .ok (.iaload, 1) := by decide +kernel
theorem dX11_windy_64 : decode cX11_windy 64 = .ok (.iload_n 2, 1) := by decide +kernel
theorem dX11_windy_65 : decode cX11_windy 65 = .ok (.iload 7, 2) := by decide +kernel
theorem dX11_windy_67 : decode cX11_windy 67 = .ok (.iload_n 3, 1) := by decide +kernel
theorem dX11_windy_68 : decode cX11_windy 68 = .ok (.iload 4, 2) := by decide +kernel
theorem dX11_windy_70 : decode cX11_windy 70 = .ok (.iload 5, 2) := by decide +kernel
theorem dX11_windy_72 : decode cX11_windy 72 = .ok (.invokestatic 286, 3) := by decide +kernel
theorem dX11_windy_75 : decode cX11_windy 75 = .ok (.if_icmp .le 11, 3) := by decide +kernel
theorem dX11_windy_78 : decode cX11_windy 78 = .ok (.aload_n 0, 1) := by decide +kernel
theorem dX11_windy_79 : decode cX11_windy 79 = .ok (.iload 7, 2) := by decide +kernel
theorem dX11_windy_81 : decode cX11_windy 81 = .ok (.putfield 280, 3) := by decide +kernel
theorem dX11_windy_84 : decode cX11_windy 84 = .ok (.iconst 0, 1) := by decide +kernel
theorem dX11_windy_85 : decode cX11_windy 85 = .ok (.ireturn, 1) := by decide +kernel
theorem dX11_windy_86 : decode cX11_windy 86 = .ok (.iinc 7 1, 3) := by decide +kernel
theorem dX11_windy_89 : decode cX11_windy 89 = .ok (.goto (-48), 3) := by decide +kernel
theorem dX11_windy_92 : decode cX11_windy 92 = .ok (.iconst 1, 1) := by decide +kernel
theorem dX11_windy_93 : decode cX11_windy 93 = .ok (.ireturn, 1) := by decide +kernel
theorem dX11_wheel_0 : decode cX11_wheel 0 = .ok (.iload_n 1, 1) := by decide +kernel
theorem dX11_wheel_1 : decode cX11_wheel 1 = .ok (.bipush 6, 2) := by decide +kernel
theorem dX11_wheel_3 : decode cX11_wheel 3 = .ok (.sipush 200, 3) := by decide +kernel
theorem dX11_wheel_6 : decode cX11_wheel 6 = .ok (.invokestatic 145, 3) := by decide +kernel
theorem dX11_wheel_9 : decode cX11_wheel 9 = .ok (.ifCond .ne 5, 3) := by decide +kernel
theorem dX11_wheel_12 : decode cX11_wheel 12 = .ok (.iconst (-1), 1) := by decide +kernel
theorem dX11_wheel_13 : decode cX11_wheel 13 = .ok (.ireturn, 1) := by decide +kernel
theorem dX11_wheel_14 : decode cX11_wheel 14 = .ok (.aload_n 0, 1) := by decide +kernel
theorem dX11_wheel_15 : decode cX11_wheel 15 = .ok (.getfield 310, 3) := by decide +kernel
theorem dX11_wheel_18 : decode cX11_wheel 18 = .ok (.bipush 12, 2) := by decide +kernel
theorem dX11_wheel_20 : decode cX11_wheel 20 = .ok (.if_icmp .ne 6, 3) := by decide +kernel
theorem dX11_wheel_23 : decode cX11_wheel 23 = .ok (.bipush (-2), 2) := by decide +kernel
theorem dX11_wheel_25 : decode cX11_wheel 25 = .ok (.ireturn, 1) := by decide +kernel
theorem dX11_wheel_26 : decode cX11_wheel 26 = .ok (.aload_n 0, 1) := by decide +kernel
theorem dX11_wheel_27 : decode cX11_wheel 27 = .ok (.getfield 124, 3) := by decide +kernel
theorem dX11_wheel_30 : decode cX11_wheel 30 = .ok (.aload_n 0, 1) := by decide +kernel
theorem dX11_wheel_31 : decode cX11_wheel 31 = .ok (.getfield 310, 3) := by decide +kernel
theorem dX11_wheel_34 : decode cX11_wheel 34 = .ok (.iload_n 1, 1) := by decide +kernel
theorem dX11_wheel_35 : decode cX11_wheel 35 = .ok (.iastore, 1) := by decide +kernel
theorem dX11_wheel_36 : decode cX11_wheel 36 = .ok (.aload_n 0, 1) := by decide +kernel
theorem dX11_wheel_37 : decode cX11_wheel 37 = .ok (.dup, 1) := by decide +kernel
theorem dX11_wheel_38 : decode cX11_wheel 38 = .ok (.getfield 310, 3) := by decide +kernel
theorem dX11_wheel_41 : decode cX11_wheel 41 = .ok (.iconst 1, 1) := by decide +kernel
theorem dX11_wheel_42 : decode cX11_wheel 42 = .ok (.iadd, 1) := by decide +kernel
theorem dX11_wheel_43 : decode cX11_wheel 43 = .ok (.putfield 310, 3) := by decide +kernel
theorem dX11_wheel_46 : decode cX11_wheel 46 = .ok (.aload_n 0, 1) := by decide +kernel
theorem dX11_wheel_47 : decode cX11_wheel 47 = .ok (.getfield 310, 3) := by decide +kernel
theorem dX11_wheel_50 : decode cX11_wheel 50 = .ok (.iconst 1, 1) := by decide +kernel
theorem dX11_wheel_51 : decode cX11_wheel 51 = .ok (.isub, 1) := by decide +kernel
theorem dX11_wheel_52 : decode cX11_wheel 52 = .ok (.ireturn, 1) := by decide +kernel
theorem dX11_differs_0 : decode cX11_differs 0 = .ok (.lload_n 0, 1) := by decide +kernel
theorem dX11_differs_1 : decode cX11_differs 1 = .ok (.lload 6, 2) := by decide +kernel
theorem dX11_differs_3 : decode cX11_differs 3 = .ok (.lmul, 1) := by decide +kernel
theorem dX11_differs_4 : decode cX11_differs 4 = .ok (.lload 4, 2) := by decide +kernel
theorem dX11_differs_6 : decode cX11_differs 6 = .ok (.lload_n 2, 1) := by decide +kernel
theorem dX11_differs_7 : decode cX11_differs 7 = .ok (.lmul, 1) := by decide +kernel
theorem dX11_differs_8 : decode cX11_differs 8 = .ok (.lsub, 1) := by decide +kernel
theorem dX11_differs_9 : decode cX11_differs 9 = .ok (.lstore 8, 2) := by decide +kernel
theorem dX11_differs_11 : decode cX11_differs 11 = .ok (.lload 8, 2) := by decide +kernel
theorem dX11_differs_13 : decode cX11_differs 13 = .ok (.lconst 0, 1) := by decide +kernel
theorem dX11_differs_14 : decode cX11_differs 14 = .ok (.lcmp, 1) := by decide +kernel
theorem dX11_differs_15 : decode cX11_differs 15 = .ok (.ifCond .ge 9, 3) := by decide +kernel
theorem dX11_differs_18 : decode cX11_differs 18 = .ok (.lload 8, 2) := by decide +kernel
theorem dX11_differs_20 : decode cX11_differs 20 = .ok (.lneg, 1) := by decide +kernel
theorem dX11_differs_21 : decode cX11_differs 21 = .ok (.goto 5, 3) := by decide +kernel
theorem dX11_differs_24 : decode cX11_differs 24 = .ok (.lload 8, 2) := by decide +kernel
theorem dX11_differs_26 : decode cX11_differs 26 = .ok (.lreturn, 1) := by decide +kernel
theorem dX11_tryGears_0 : decode cX11_tryGears 0 = .ok (.lconst 1, 1) := by decide +kernel
theorem dX11_tryGears_1 : decode cX11_tryGears 1 = .ok (.lstore 4, 2) := by decide +kernel
theorem dX11_tryGears_3 : decode cX11_tryGears 3 = .ok (.lconst 1, 1) := by decide +kernel
theorem dX11_tryGears_4 : decode cX11_tryGears 4 = .ok (.lstore 6, 2) := by decide +kernel
theorem dX11_tryGears_6 : decode cX11_tryGears 6 = .ok (.iconst 0, 1) := by decide +kernel
theorem dX11_tryGears_7 : decode cX11_tryGears 7 = .ok (.istore 8, 2) := by decide +kernel
theorem dX11_tryGears_9 : decode cX11_tryGears 9 = .ok (.iload 8, 2) := by decide +kernel
theorem dX11_tryGears_11 : decode cX11_tryGears 11 = .ok (.iload_n 3, 1) := by decide +kernel
theorem dX11_tryGears_12 : decode cX11_tryGears 12 = .ok (.if_icmp .ge 51, 3) := by decide +kernel
theorem dX11_tryGears_15 : decode cX11_tryGears 15 = .ok (.lload 4, 2) := by decide +kernel
theorem dX11_tryGears_17 : decode cX11_tryGears 17 = .ok (.aload_n 0, 1) := by decide +kernel
theorem dX11_tryGears_18 : decode cX11_tryGears 18 = .ok (.getfield 124, 3) := by decide +kernel
theorem dX11_tryGears_21 : decode cX11_tryGears 21 = .ok (.aload_n 0, 1) := by decide +kernel
theorem dX11_tryGears_22 : decode cX11_tryGears 22 = .ok (.getfield 130, 3) := by decide +kernel
theorem dX11_tryGears_25 : decode cX11_tryGears 25 = .ok (.iconst 2, 1) := by decide +kernel
theorem dX11_tryGears_26 : decode cX11_tryGears 26 = .ok (.iload 8, 2) := by decide +kernel
theorem dX11_tryGears_28 : decode cX11_tryGears 28 = .ok (.imul, 1) := by decide +kernel
theorem dX11_tryGears_29 : decode cX11_tryGears 29 = .ok (.iaload, 1) := by decide +kernel
theorem dX11_tryGears_30 : decode cX11_tryGears 30 = .ok (.iaload, 1) := by decide +kernel
theorem dX11_tryGears_31 : decode cX11_tryGears 31 = .ok (.i2l, 1) := by decide +kernel
theorem dX11_tryGears_32 : decode cX11_tryGears 32 = .ok (.lmul, 1) := by decide +kernel
theorem dX11_tryGears_33 : decode cX11_tryGears 33 = .ok (.lstore 4, 2) := by decide +kernel
theorem dX11_tryGears_35 : decode cX11_tryGears 35 = .ok (.lload 6, 2) := by decide +kernel
theorem dX11_tryGears_37 : decode cX11_tryGears 37 = .ok (.aload_n 0, 1) := by decide +kernel
theorem dX11_tryGears_38 : decode cX11_tryGears 38 = .ok (.getfield 124, 3) := by decide +kernel
theorem dX11_tryGears_41 : decode cX11_tryGears 41 = .ok (.aload_n 0, 1) := by decide +kernel
theorem dX11_tryGears_42 : decode cX11_tryGears 42 = .ok (.getfield 130, 3) := by decide +kernel
theorem dX11_tryGears_45 : decode cX11_tryGears 45 = .ok (.iconst 2, 1) := by decide +kernel
theorem dX11_tryGears_46 : decode cX11_tryGears 46 = .ok (.iload 8, 2) := by decide +kernel
theorem dX11_tryGears_48 : decode cX11_tryGears 48 = .ok (.imul, 1) := by decide +kernel
theorem dX11_tryGears_49 : decode cX11_tryGears 49 = .ok (.iconst 1, 1) := by decide +kernel
theorem dX11_tryGears_50 : decode cX11_tryGears 50 = .ok (.iadd, 1) := by decide +kernel
theorem dX11_tryGears_51 : decode cX11_tryGears 51 = .ok (.iaload, 1) := by decide +kernel
theorem dX11_tryGears_52 : decode cX11_tryGears 52 = .ok (.iaload, 1) := by decide +kernel
theorem dX11_tryGears_53 : decode cX11_tryGears 53 = .ok (.i2l, 1) := by decide +kernel
theorem dX11_tryGears_54 : decode cX11_tryGears 54 = .ok (.lmul, 1) := by decide +kernel
theorem dX11_tryGears_55 : decode cX11_tryGears 55 = .ok (.lstore 6, 2) := by decide +kernel
theorem dX11_tryGears_57 : decode cX11_tryGears 57 = .ok (.iinc 8 1, 3) := by decide +kernel
theorem dX11_tryGears_60 : decode cX11_tryGears 60 = .ok (.goto (-51), 3) := by decide +kernel
theorem dX11_tryGears_63 : decode cX11_tryGears 63 = .ok (.aload_n 0, 1) := by decide +kernel
theorem dX11_tryGears_64 : decode cX11_tryGears 64 = .ok (.getfield 313, 3) := by decide +kernel
theorem dX11_tryGears_67 : decode cX11_tryGears 67 = .ok (.ifCond .eq 41, 3) := by decide +kernel
theorem dX11_tryGears_70 : decode cX11_tryGears 70 = .ok (.lload 4, 2) := by decide +kernel
theorem dX11_tryGears_72 : decode cX11_tryGears 72 = .ok (.lload 6, 2) := by decide +kernel
theorem dX11_tryGears_74 : decode cX11_tryGears 74 = .ok (.iload_n 1, 1) := by decide +kernel
theorem dX11_tryGears_75 : decode cX11_tryGears 75 = .ok (.i2l, 1) := by decide +kernel
theorem dX11_tryGears_76 : decode cX11_tryGears 76 = .ok (.iload_n 2, 1) := by decide +kernel
theorem dX11_tryGears_77 : decode cX11_tryGears 77 = .ok (.i2l, 1) := by decide +kernel
theorem dX11_tryGears_78 : decode cX11_tryGears 78 = .ok (.invokestatic 317, 3) := by decide +kernel
theorem dX11_tryGears_81 : decode cX11_tryGears 81 = .ok (.aload_n 0, 1) := by decide +kernel
theorem dX11_tryGears_82 : decode cX11_tryGears 82 = .ok (.getfield 321, 3) := by decide +kernel
theorem dX11_tryGears_85 : decode cX11_tryGears 85 = .ok (.lmul, 1) := by decide +kernel
theorem dX11_tryGears_86 : decode cX11_tryGears 86 = .ok (.aload_n 0, 1) := by decide +kernel
theorem dX11_tryGears_87 : decode cX11_tryGears 87 = .ok (.getfield 324, 3) := by decide +kernel
theorem dX11_tryGears_90 : decode cX11_tryGears 90 = .ok (.aload_n 0, 1) := by decide +kernel
theorem dX11_tryGears_91 : decode cX11_tryGears 91 = .ok (.getfield 321, 3) := by decide +kernel
theorem dX11_tryGears_94 : decode cX11_tryGears 94 = .ok (.iload_n 1, 1) := by decide +kernel
theorem dX11_tryGears_95 : decode cX11_tryGears 95 = .ok (.i2l, 1) := by decide +kernel
theorem dX11_tryGears_96 : decode cX11_tryGears 96 = .ok (.iload_n 2, 1) := by decide +kernel
theorem dX11_tryGears_97 : decode cX11_tryGears 97 = .ok (.i2l, 1) := by decide +kernel
theorem dX11_tryGears_98 : decode cX11_tryGears 98 = .ok (.invokestatic 317, 3) := by decide +kernel
theorem dX11_tryGears_101 : decode cX11_tryGears 101 = .ok (.lload 6, 2) := by decide +kernel
theorem dX11_tryGears_103 : decode cX11_tryGears 103 = .ok (.lmul, 1) := by decide +kernel
theorem dX11_tryGears_104 : decode cX11_tryGears 104 = .ok (.lcmp, 1) := by decide +kernel
theorem dX11_tryGears_105 : decode cX11_tryGears 105 = .ok (.ifCond .ge 49, 3) := by decide +kernel
theorem dX11_tryGears_108 : decode cX11_tryGears 108 = .ok (.aload_n 0, 1) := by decide +kernel
theorem dX11_tryGears_109 : decode cX11_tryGears 109 = .ok (.iconst 1, 1) := by decide +kernel
theorem dX11_tryGears_110 : decode cX11_tryGears 110 = .ok (.putfield 313, 3) := by decide +kernel
theorem dX11_tryGears_113 : decode cX11_tryGears 113 = .ok (.aload_n 0, 1) := by decide +kernel
theorem dX11_tryGears_114 : decode cX11_tryGears 114 = .ok (.lload 4, 2) := by decide +kernel
theorem dX11_tryGears_116 : decode cX11_tryGears 116 = .ok (.putfield 324, 3) := by decide +kernel
theorem dX11_tryGears_119 : decode cX11_tryGears 119 = .ok (.aload_n 0, 1) := by decide +kernel
theorem dX11_tryGears_120 : decode cX11_tryGears 120 = .ok (.lload 6, 2) := by decide +kernel
theorem dX11_tryGears_122 : decode cX11_tryGears 122 = .ok (.putfield 321, 3) := by decide +kernel
theorem dX11_tryGears_125 : decode cX11_tryGears 125 = .ok (.iconst 0, 1) := by decide +kernel
theorem dX11_tryGears_126 : decode cX11_tryGears 126 = .ok (.istore 8, 2) := by decide +kernel
theorem dX11_tryGears_128 : decode cX11_tryGears 128 = .ok (.iload 8, 2) := by decide +kernel
theorem dX11_tryGears_130 : decode cX11_tryGears 130 = .ok (.iconst 4, 1) := by decide +kernel
theorem dX11_tryGears_131 : decode cX11_tryGears 131 = .ok (.if_icmp .ge 23, 3) := by decide +kernel
theorem dX11_tryGears_134 : decode cX11_tryGears 134 = .ok (.aload_n 0, 1) := by decide +kernel
theorem dX11_tryGears_135 : decode cX11_tryGears 135 = .ok (.getfield 127, 3) := by decide +kernel
theorem dX11_tryGears_138 : decode cX11_tryGears 138 = .ok (.iload 8, 2) := by decide +kernel
theorem dX11_tryGears_140 : decode cX11_tryGears 140 = .ok (.aload_n 0, 1) := by decide +kernel
theorem dX11_tryGears_141 : decode cX11_tryGears 141 = .ok (.getfield 130, 3) := by decide +kernel
theorem dX11_tryGears_144 : decode cX11_tryGears 144 = .ok (.iload 8, 2) := by decide +kernel
theorem dX11_tryGears_146 : decode cX11_tryGears 146 = .ok (.iaload, 1) := by decide +kernel
theorem dX11_tryGears_147 : decode cX11_tryGears 147 = .ok (.iastore, 1) := by decide +kernel
theorem dX11_tryGears_148 : decode cX11_tryGears 148 = .ok (.iinc 8 1, 3) := by decide +kernel
theorem dX11_tryGears_151 : decode cX11_tryGears 151 = .ok (.goto (-23), 3) := by decide +kernel
theorem dX11_tryGears_154 : decode cX11_tryGears 154 = .ok (.return_, 1) := by decide +kernel
theorem dX11_nearest_0 : decode cX11_nearest 0 = .ok (.iload_n 1, 1) := by decide +kernel
theorem dX11_nearest_1 : decode cX11_nearest 1 = .ok (.iconst 1, 1) := by decide +kernel
theorem dX11_nearest_2 : decode cX11_nearest 2 = .ok (.sipush 10000, 3) := by decide +kernel
theorem dX11_nearest_5 : decode cX11_nearest 5 = .ok (.invokestatic 145, 3) := by decide +kernel
theorem dX11_nearest_8 : decode cX11_nearest 8 = .ok (.ifCond .eq 23, 3) := by decide +kernel
theorem dX11_nearest_11 : decode cX11_nearest 11 = .ok (.iload_n 2, 1) := by decide +kernel
theorem dX11_nearest_12 : decode cX11_nearest 12 = .ok (.iconst 1, 1) := by decide +kernel
theorem dX11_nearest_13 : decode cX11_nearest 13 = .ok (.sipush 10000, 3) := by decide +kernel
theorem dX11_nearest_16 : decode cX11_nearest 16 = .ok (.invokestatic 145, 3) := by decide +kernel
theorem dX11_nearest_19 : decode cX11_nearest 19 = .ok (.ifCond .eq 12, 3) := by decide +kernel
theorem dX11_nearest_22 : decode cX11_nearest 22 = .ok (.iload_n 3, 1) := by decide +kernel
theorem dX11_nearest_23 : decode cX11_nearest 23 = .ok (.iconst 1, 1) := by decide +kernel
theorem dX11_nearest_24 : decode cX11_nearest 24 = .ok (.iconst 2, 1) := by decide +kernel
theorem dX11_nearest_25 : decode cX11_nearest 25 = .ok (.invokestatic 145, 3) := by decide +kernel
theorem dX11_nearest_28 : decode cX11_nearest 28 = .ok (.ifCond .ne 5, 3) := by decide +kernel
theorem dX11_nearest_31 : decode cX11_nearest 31 = .ok (.iconst (-1), 1) := by decide +kernel
theorem dX11_nearest_32 : decode cX11_nearest 32 = .ok (.ireturn, 1) := by decide +kernel
theorem dX11_nearest_33 : decode cX11_nearest 33 = .ok (.aload_n 0, 1) := by decide +kernel
theorem dX11_nearest_34 : decode cX11_nearest 34 = .ok (.getfield 310, 3) := by decide +kernel
theorem dX11_nearest_37 : decode cX11_nearest 37 = .ok (.iconst 2, 1) := by decide +kernel
theorem dX11_nearest_38 : decode cX11_nearest 38 = .ok (.iload_n 3, 1) := by decide +kernel
theorem dX11_nearest_39 : decode cX11_nearest 39 = .ok (.imul, 1) := by decide +kernel
theorem dX11_nearest_40 : decode cX11_nearest 40 = .ok (.if_icmp .ge 9, 3) := by decide +kernel
theorem dX11_nearest_43 : decode cX11_nearest 43 = .ok (.aload_n 0, 1) := by decide +kernel
theorem dX11_nearest_44 : decode cX11_nearest 44 = .ok (.iconst 4, 1) := by decide +kernel
theorem dX11_nearest_45 : decode cX11_nearest 45 = .ok (.invokevirtual 153, 3) := by decide +kernel
theorem dX11_nearest_48 : decode cX11_nearest 48 = .ok (.ireturn, 1) := by decide +kernel
theorem dX11_nearest_49 : decode cX11_nearest 49 = .ok (.aload_n 0, 1) := by decide +kernel
theorem dX11_nearest_50 : decode cX11_nearest 50 = .ok (.iconst 0, 1) := by decide +kernel
theorem dX11_nearest_51 : decode cX11_nearest 51 = .ok (.putfield 313, 3) := by decide +kernel
theorem dX11_nearest_54 : decode cX11_nearest 54 = .ok (.iload_n 3, 1) := by decide +kernel
theorem dX11_nearest_55 : decode cX11_nearest 55 = .ok (.iconst 1, 1) := by decide +kernel
theorem dX11_nearest_56 : decode cX11_nearest 56 = .ok (.if_icmp .ne 15, 3) := by decide +kernel
theorem dX11_nearest_59 : decode cX11_nearest 59 = .ok (.aload_n 0, 1) := by decide +kernel
theorem dX11_nearest_60 : decode cX11_nearest 60 = .ok (.getfield 310, 3) := by decide +kernel
theorem dX11_nearest_63 : decode cX11_nearest 63 = .ok (.aload_n 0, 1) := by decide +kernel
theorem dX11_nearest_64 : decode cX11_nearest 64 = .ok (.getfield 310, 3) := by decide +kernel
theorem dX11_nearest_67 : decode cX11_nearest 67 = .ok (.imul, 1) := by decide +kernel
theorem dX11_nearest_68 : decode cX11_nearest 68 = .ok (.goto 22, 3) := by decide +kernel
theorem dX11_nearest_71 : decode cX11_nearest 71 = .ok (.aload_n 0, 1) := by decide +kernel
theorem dX11_nearest_72 : decode cX11_nearest 72 = .ok (.getfield 310, 3) := by decide +kernel
theorem dX11_nearest_75 : decode cX11_nearest 75 = .ok (.aload_n 0, 1) := by decide +kernel
theorem dX11_nearest_76 : decode cX11_nearest 76 = .ok (.getfield 310, 3) := by decide +kernel
theorem dX11_nearest_79 : decode cX11_nearest 79 = .ok (.imul, 1) := by decide +kernel
theorem dX11_nearest_80 : decode cX11_nearest 80 = .ok (.aload_n 0, 1) := by decide +kernel
theorem dX11_nearest_81 : decode cX11_nearest 81 = .ok (.getfield 310, 3) := by decide +kernel
theorem dX11_nearest_84 : decode cX11_nearest 84 = .ok (.imul, 1) := by decide +kernel
theorem dX11_nearest_85 : decode cX11_nearest 85 = .ok (.aload_n 0, 1) := by decide +kernel
theorem dX11_nearest_86 : decode cX11_nearest 86 = .ok (.getfield 310, 3) := by decide +kernel
theorem dX11_nearest_89 : decode cX11_nearest 89 = .ok (.imul, 1) := by decide +kernel
theorem dX11_nearest_90 : decode cX11_nearest 90 = .ok (.istore 4, 2) := by decide +kernel
theorem dX11_nearest_92 : decode cX11_nearest 92 = .ok (.iconst 0, 1) := by decide +kernel
theorem dX11_nearest_93 : decode cX11_nearest 93 = .ok (.istore 5, 2) := by decide +kernel
theorem dX11_nearest_95 : decode cX11_nearest 95 = .ok (.iload 5, 2) := by decide +kernel
theorem dX11_nearest_97 : decode cX11_nearest 97 = .ok (.iload 4, 2) := by decide +kernel
theorem dX11_nearest_99 : decode cX11_nearest 99 = .ok (.if_icmp .ge 113, 3) := by decide +kernel
theorem dX11_nearest_102 : decode cX11_nearest 102 = .ok (.iload 5, 2) := by decide +kernel
theorem dX11_nearest_104 : decode cX11_nearest 104 = .ok (.istore 6, 2) := by decide +kernel
theorem dX11_nearest_106 : decode cX11_nearest 106 = .ok (.iconst 1, 1) := by decide +kernel
theorem dX11_nearest_107 : decode cX11_nearest 107 = .ok (.istore 7, 2) := by decide +kernel
theorem dX11_nearest_109 : decode cX11_nearest 109 = .ok (.iconst 0, 1) := by decide +kernel
theorem dX11_nearest_110 : decode cX11_nearest 110 = .ok (.istore 8, 2) := by decide +kernel
theorem dX11_nearest_112 : decode cX11_nearest 112 = .ok (.iconst 2, 1) := by decide +kernel
theorem dX11_nearest_113 : decode cX11_nearest 113 = .ok (.iload_n 3, 1) := by decide +kernel
theorem dX11_nearest_114 : decode cX11_nearest 114 = .ok (.imul, 1) := by decide +kernel
theorem dX11_nearest_115 : decode cX11_nearest 115 = .ok (.iconst 1, 1) := by decide +kernel
theorem dX11_nearest_116 : decode cX11_nearest 116 = .ok (.isub, 1) := by decide +kernel
theorem dX11_nearest_117 : decode cX11_nearest 117 = .ok (.istore 9, 2) := by decide +kernel
theorem dX11_nearest_119 : decode cX11_nearest 119 = .ok (.iload 9, 2) := by decide +kernel
theorem dX11_nearest_121 : decode cX11_nearest 121 = .ok (.ifCond .lt 73, 3) := by decide +kernel
theorem dX11_nearest_124 : decode cX11_nearest 124 = .ok (.aload_n 0, 1) := by decide +kernel
theorem dX11_nearest_125 : decode cX11_nearest 125 = .ok (.getfield 130, 3) := by decide +kernel
theorem dX11_nearest_128 : decode cX11_nearest 128 = .ok (.iload 9, 2) := by decide +kernel
theorem dX11_nearest_130 : decode cX11_nearest 130 = .ok (.iload 6, 2) := by decide +kernel
theorem dX11_nearest_132 : decode cX11_nearest 132 = .ok (.aload_n 0, 1) := by decide +kernel
theorem dX11_nearest_133 : decode cX11_nearest 133 = .ok (.getfield 310, 3) := by decide +kernel
theorem dX11_nearest_136 : decode cX11_nearest 136 = .ok (.irem, 1) := by decide +kernel
theorem dX11_nearest_137 : decode cX11_nearest 137 = .ok (.iastore, 1) := by decide +kernel
theorem dX11_nearest_138 : decode cX11_nearest 138 = .ok (.iload 6, 2) := by decide +kernel
theorem dX11_nearest_140 : decode cX11_nearest 140 = .ok (.aload_n 0, 1) := by decide +kernel
theorem dX11_nearest_141 : decode cX11_nearest 141 = .ok (.getfield 310, 3) := by decide +kernel
theorem dX11_nearest_144 : decode cX11_nearest 144 = .ok (.idiv, 1) := by decide +kernel
theorem dX11_nearest_145 : decode cX11_nearest 145 = .ok (.istore 6, 2) := by decide +kernel
theorem dX11_nearest_147 : decode cX11_nearest 147 = .ok (.iload 7, 2) := by decide +kernel
theorem dX11_nearest_149 : decode cX11_nearest 149 = .ok (.ifCond .eq 22, 3) := by decide +kernel
theorem dX11_nearest_152 : decode cX11_nearest 152 = .ok (.iload 8, 2) := by decide +kernel
theorem dX11_nearest_154 : decode cX11_nearest 154 = .ok (.aload_n 0, 1) := by decide +kernel
theorem dX11_nearest_155 : decode cX11_nearest 155 = .ok (.getfield 130, 3) := by decide +kernel
theorem dX11_nearest_158 : decode cX11_nearest 158 = .ok (.iload 9, 2) := by decide +kernel
theorem dX11_nearest_160 : decode cX11_nearest 160 = .ok (.iaload, 1) := by decide +kernel
theorem dX11_nearest_161 : decode cX11_nearest 161 = .ok (.ishr, 1) := by decide +kernel
theorem dX11_nearest_162 : decode cX11_nearest 162 = .ok (.iconst 1, 1) := by decide +kernel
theorem dX11_nearest_163 : decode cX11_nearest 163 = .ok (.iand, 1) := by decide +kernel
theorem dX11_nearest_164 : decode cX11_nearest 164 = .ok (.ifCond .ne 7, 3) := by decide +kernel
theorem dX11_nearest_167 : decode cX11_nearest 167 = .ok (.iconst 1, 1) := by decide +kernel
theorem dX11_nearest_168 : decode cX11_nearest 168 = .ok (.goto 4, 3) := by decide +kernel
theorem dX11_nearest_171 : decode cX11_nearest 171 = .ok (.iconst 0, 1) := by decide +kernel
theorem dX11_nearest_172 : decode cX11_nearest 172 = .ok (.istore 7, 2) := by decide +kernel
theorem dX11_nearest_174 : decode cX11_nearest 174 = .ok (.iload 8, 2) := by decide +kernel
theorem dX11_nearest_176 : decode cX11_nearest 176 = .ok (.iconst 1, 1) := by decide +kernel
theorem dX11_nearest_177 : decode cX11_nearest 177 = .ok (.aload_n 0, 1) := by decide +kernel
theorem dX11_nearest_178 : decode cX11_nearest 178 = .ok (.getfield 130, 3) := by decide +kernel
theorem dX11_nearest_181 : decode cX11_nearest 181 = .ok (.iload 9, 2) := by decide +kernel
theorem dX11_nearest_183 : decode cX11_nearest 183 = .ok (.iaload, 1) := by decide +kernel
theorem dX11_nearest_184 : decode cX11_nearest 184 = .ok (.ishl, 1) := by decide +kernel
theorem dX11_nearest_185 : decode cX11_nearest 185 = .ok (.ior, 1) := by decide +kernel
theorem dX11_nearest_186 : decode cX11_nearest 186 = .ok (.istore 8, 2) := by decide +kernel
theorem dX11_nearest_188 : decode cX11_nearest 188 = .ok (.iinc 9 (-1), 3) := by decide +kernel
theorem dX11_nearest_191 : decode cX11_nearest 191 = .ok (.goto (-72), 3) := by decide +kernel
theorem dX11_nearest_194 : decode cX11_nearest 194 = .ok (.iload 7, 2) := by decide +kernel
theorem dX11_nearest_196 : decode cX11_nearest 196 = .ok (.ifCond .eq 10, 3) := by decide +kernel
theorem dX11_nearest_199 : decode cX11_nearest 199 = .ok (.aload_n 0, 1) := by decide +kernel
theorem dX11_nearest_200 : decode cX11_nearest 200 = .ok (.iload_n 1, 1) := by decide +kernel
theorem dX11_nearest_201 : decode cX11_nearest 201 = .ok (.iload_n 2, 1) := by decide +kernel
theorem dX11_nearest_202 : decode cX11_nearest 202 = .ok (.iload_n 3, 1) := by decide +kernel
theorem dX11_nearest_203 : decode cX11_nearest 203 = .ok (.invokevirtual 327, 3) := by decide +kernel
theorem dX11_nearest_206 : decode cX11_nearest 206 = .ok (.iinc 5 1, 3) := by decide +kernel
theorem dX11_nearest_209 : decode cX11_nearest 209 = .ok (.goto (-114), 3) := by decide +kernel
theorem dX11_nearest_212 : decode cX11_nearest 212 = .ok (.aload_n 0, 1) := by decide +kernel
theorem dX11_nearest_213 : decode cX11_nearest 213 = .ok (.iconst 2, 1) := by decide +kernel
theorem dX11_nearest_214 : decode cX11_nearest 214 = .ok (.iload_n 3, 1) := by decide +kernel
theorem dX11_nearest_215 : decode cX11_nearest 215 = .ok (.imul, 1) := by decide +kernel
theorem dX11_nearest_216 : decode cX11_nearest 216 = .ok (.putfield 331, 3) := by decide +kernel
theorem dX11_nearest_219 : decode cX11_nearest 219 = .ok (.aload_n 0, 1) := by decide +kernel
theorem dX11_nearest_220 : decode cX11_nearest 220 = .ok (.aload_n 0, 1) := by decide +kernel
theorem dX11_nearest_221 : decode cX11_nearest 221 = .ok (.getfield 324, 3) := by decide +kernel
theorem dX11_nearest_224 : decode cX11_nearest 224 = .ok (.aload_n 0, 1) := by decide +kernel
theorem dX11_nearest_225 : decode cX11_nearest 225 = .ok (.getfield 321, 3) := by decide +kernel
theorem dX11_nearest_228 : decode cX11_nearest 228 = .ok (.invokevirtual 334, 3) := by decide +kernel
theorem dX11_nearest_231 : decode cX11_nearest 231 = .ok (.ireturn, 1) := by decide +kernel
theorem dX11_chosen_0 : decode cX11_chosen 0 = .ok (.iload_n 1, 1) := by decide +kernel
theorem dX11_chosen_1 : decode cX11_chosen 1 = .ok (.iconst 0, 1) := by decide +kernel
theorem dX11_chosen_2 : decode cX11_chosen 2 = .ok (.aload_n 0, 1) := by decide +kernel
theorem dX11_chosen_3 : decode cX11_chosen 3 = .ok (.getfield 331, 3) := by decide +kernel
theorem dX11_chosen_6 : decode cX11_chosen 6 = .ok (.iconst 1, 1) := by decide +kernel
theorem dX11_chosen_7 : decode cX11_chosen 7 = .ok (.isub, 1) := by decide +kernel
theorem dX11_chosen_8 : decode cX11_chosen 8 = .ok (.invokestatic 145, 3) := by decide +kernel
theorem dX11_chosen_11 : decode cX11_chosen 11 = .ok (.ifCond .eq 12, 3) := by decide +kernel
theorem dX11_chosen_14 : decode cX11_chosen 14 = .ok (.aload_n 0, 1) := by decide +kernel
theorem dX11_chosen_15 : decode cX11_chosen 15 = .ok (.getfield 127, 3) := by decide +kernel
theorem dX11_chosen_18 : decode cX11_chosen 18 = .ok (.iload_n 1, 1) := by decide +kernel
theorem dX11_chosen_19 : decode cX11_chosen 19 = .ok (.iaload, 1) := by decide +kernel
theorem dX11_chosen_20 : decode cX11_chosen 20 = .ok (.goto 5, 3) := by decide +kernel
theorem dX11_chosen_23 : decode cX11_chosen 23 = .ok (.bipush (-9), 2) := by decide +kernel
theorem dX11_chosen_25 : decode cX11_chosen 25 = .ok (.ireturn, 1) := by decide +kernel
theorem dX11_dayOf_0 : decode cX11_dayOf 0 = .ok (.iconst 0, 1) := by decide +kernel
theorem dX11_dayOf_1 : decode cX11_dayOf 1 = .ok (.istore 4, 2) := by decide +kernel
theorem dX11_dayOf_3 : decode cX11_dayOf 3 = .ok (.iload_n 2, 1) := by decide +kernel
theorem dX11_dayOf_4 : decode cX11_dayOf 4 = .ok (.ifCond .eq 8, 3) := by decide +kernel
theorem dX11_dayOf_7 : decode cX11_dayOf 7 = .ok (.bipush 96, 2) := by decide +kernel
theorem dX11_dayOf_9 : decode cX11_dayOf 9 = .ok (.goto 5, 3) := by decide +kernel
theorem dX11_dayOf_12 : decode cX11_dayOf 12 = .ok (.bipush 24, 2) := by decide +kernel
theorem dX11_dayOf_14 : decode cX11_dayOf 14 = .ok (.istore 5, 2) := by decide +kernel
theorem dX11_dayOf_16 : decode cX11_dayOf 16 = .ok (.iconst 0, 1) := by decide +kernel
theorem dX11_dayOf_17 : decode cX11_dayOf 17 = .ok (.istore 6, 2) := by decide +kernel
theorem dX11_dayOf_19 : decode cX11_dayOf 19 = .ok (.iload 6, 2) := by decide +kernel
theorem dX11_dayOf_21 : decode cX11_dayOf 21 = .ok (.iload 5, 2) := by decide +kernel
theorem dX11_dayOf_23 : decode cX11_dayOf 23 = .ok (.if_icmp .ge 88, 3) := by decide +kernel
theorem dX11_dayOf_26 : decode cX11_dayOf 26 = .ok (.iload_n 2, 1) := by decide +kernel
theorem dX11_dayOf_27 : decode cX11_dayOf 27 = .ok (.ifCond .eq 10, 3) := by decide +kernel
theorem dX11_dayOf_30 : decode cX11_dayOf 30 = .ok (.iload 6, 2) := by decide +kernel
theorem dX11_dayOf_32 : decode cX11_dayOf 32 = .ok (.iconst 4, 1) := by decide +kernel
theorem dX11_dayOf_33 : decode cX11_dayOf 33 = .ok (.irem, 1) := by decide +kernel
theorem dX11_dayOf_34 : decode cX11_dayOf 34 = .ok (.goto 8, 3) := by decide +kernel
theorem dX11_dayOf_37 : decode cX11_dayOf 37 = .ok (.iload 6, 2) := by decide +kernel
theorem dX11_dayOf_39 : decode cX11_dayOf 39 = .ok (.bipush 12, 2) := by decide +kernel
theorem dX11_dayOf_41 : decode cX11_dayOf 41 = .ok (.irem, 1) := by decide +kernel
theorem dX11_dayOf_42 : decode cX11_dayOf 42 = .ok (.istore 7, 2) := by decide +kernel
theorem dX11_dayOf_44 : decode cX11_dayOf 44 = .ok (.iload 4, 2) := by decide +kernel
theorem dX11_dayOf_46 : decode cX11_dayOf 46 = .ok (.aload_n 0, 1) := by decide +kernel
theorem dX11_dayOf_47 : decode cX11_dayOf 47 = .ok (.getfield 26, 3) := by decide +kernel
theorem dX11_dayOf_50 : decode cX11_dayOf 50 = .ok (.iload_n 1, 1) := by decide +kernel
theorem dX11_dayOf_51 : decode cX11_dayOf 51 = .ok (.iaload, 1) := by decide +kernel
theorem dX11_dayOf_52 : decode cX11_dayOf 52 = .ok (.ifCond .ne 7, 3) := by decide +kernel
theorem dX11_dayOf_55 : decode cX11_dayOf 55 = .ok (.iconst 1, 1) := by decide +kernel
theorem dX11_dayOf_56 : decode cX11_dayOf 56 = .ok (.goto 46, 3) := by decide +kernel
theorem dX11_dayOf_59 : decode cX11_dayOf 59 = .ok (.aload_n 0, 1) := by decide +kernel
theorem dX11_dayOf_60 : decode cX11_dayOf 60 = .ok (.getfield 32, 3) := by decide +kernel
theorem dX11_dayOf_63 : decode cX11_dayOf 63 = .ok (.bipush 24, 2) := by decide +kernel
theorem dX11_dayOf_65 : decode cX11_dayOf 65 = .ok (.iload_n 1, 1) := by decide +kernel
theorem dX11_dayOf_66 : decode cX11_dayOf 66 = .ok (.imul, 1) := by decide +kernel
theorem dX11_dayOf_67 : decode cX11_dayOf 67 = .ok (.aload_n 0, 1) := by decide +kernel
theorem dX11_dayOf_68 : decode cX11_dayOf 68 = .ok (.getfield 26, 3) := by decide +kernel
theorem dX11_dayOf_71 : decode cX11_dayOf 71 = .ok (.iload_n 1, 1) := by decide +kernel
theorem dX11_dayOf_72 : decode cX11_dayOf 72 = .ok (.iaload, 1) := by decide +kernel
theorem dX11_dayOf_73 : decode cX11_dayOf 73 = .ok (.iconst 2, 1) := by decide +kernel
theorem dX11_dayOf_74 : decode cX11_dayOf 74 = .ok (.if_icmp .ne 15, 3) := by decide +kernel
theorem dX11_dayOf_77 : decode cX11_dayOf 77 = .ok (.iload 7, 2) := by decide +kernel
theorem dX11_dayOf_79 : decode cX11_dayOf 79 = .ok (.aload_n 0, 1) := by decide +kernel
theorem dX11_dayOf_80 : decode cX11_dayOf 80 = .ok (.getfield 29, 3) := by decide +kernel
theorem dX11_dayOf_83 : decode cX11_dayOf 83 = .ok (.iload_n 1, 1) := by decide +kernel
theorem dX11_dayOf_84 : decode cX11_dayOf 84 = .ok (.iaload, 1) := by decide +kernel
theorem dX11_dayOf_85 : decode cX11_dayOf 85 = .ok (.irem, 1) := by decide +kernel
theorem dX11_dayOf_86 : decode cX11_dayOf 86 = .ok (.goto 14, 3) := by decide +kernel
theorem dX11_dayOf_89 : decode cX11_dayOf 89 = .ok (.iload_n 3, 1) := by decide +kernel
theorem dX11_dayOf_90 : decode cX11_dayOf 90 = .ok (.iload 6, 2) := by decide +kernel
theorem dX11_dayOf_92 : decode cX11_dayOf 92 = .ok (.iadd, 1) := by decide +kernel
theorem dX11_dayOf_93 : decode cX11_dayOf 93 = .ok (.aload_n 0, 1) := by decide +kernel
theorem dX11_dayOf_94 : decode cX11_dayOf 94 = .ok (.getfield 29, 3) := by decide +kernel
theorem dX11_dayOf_97 : decode cX11_dayOf 97 = .ok (.iload_n 1, 1) := by decide +kernel
theorem dX11_dayOf_98 : decode cX11_dayOf 98 = .ok (.iaload, 1) := by decide +kernel
theorem dX11_dayOf_99 : decode cX11_dayOf 99 = .ok (.irem, 1) := by decide +kernel
theorem dX11_dayOf_100 : decode cX11_dayOf 100 = .ok (.iadd, 1) := by decide +kernel
theorem dX11_dayOf_101 : decode cX11_dayOf 101 = .ok (.iaload, 1) := by decide +kernel
theorem dX11_dayOf_102 : decode cX11_dayOf 102 = .ok (.iadd, 1) := by decide +kernel
theorem dX11_dayOf_103 : decode cX11_dayOf 103 = .ok (.istore 4, 2) := by decide +kernel
theorem dX11_dayOf_105 : decode cX11_dayOf 105 = .ok (.iinc 6 1, 3) := by decide +kernel
theorem dX11_dayOf_108 : decode cX11_dayOf 108 = .ok (.goto (-89), 3) := by decide +kernel
theorem dX11_dayOf_111 : decode cX11_dayOf 111 = .ok (.iload 4, 2) := by decide +kernel
theorem dX11_dayOf_113 : decode cX11_dayOf 113 = .ok (.ireturn, 1) := by decide +kernel
theorem dX11_daily_0 : decode cX11_daily 0 = .ok (.aload_n 0, 1) := by decide +kernel
theorem dX11_daily_1 : decode cX11_daily 1 = .ok (.iload_n 1, 1) := by decide +kernel
theorem dX11_daily_2 : decode cX11_daily 2 = .ok (.invokevirtual 176, 3) := by decide +kernel
theorem dX11_daily_5 : decode cX11_daily 5 = .ok (.ifCond .eq 18, 3) := by decide +kernel
theorem dX11_daily_8 : decode cX11_daily 8 = .ok (.aload_n 0, 1) := by decide +kernel
theorem dX11_daily_9 : decode cX11_daily 9 = .ok (.iload_n 1, 1) := by decide +kernel
theorem dX11_daily_10 : decode cX11_daily 10 = .ok (.iload_n 2, 1) := by decide +kernel
theorem dX11_daily_11 : decode cX11_daily 11 = .ok (.aload_n 0, 1) := by decide +kernel
theorem dX11_daily_12 : decode cX11_daily 12 = .ok (.getfield 35, 3) := by decide +kernel
theorem dX11_daily_15 : decode cX11_daily 15 = .ok (.iload_n 1, 1) := by decide +kernel
theorem dX11_daily_16 : decode cX11_daily 16 = .ok (.iaload, 1) := by decide +kernel
theorem dX11_daily_17 : decode cX11_daily 17 = .ok (.invokevirtual 338, 3) := by decide +kernel
theorem dX11_daily_20 : decode cX11_daily 20 = .ok (.goto 4, 3) := by decide +kernel
theorem dX11_daily_23 : decode cX11_daily 23 = .ok (.iconst (-1), 1) := by decide +kernel
theorem dX11_daily_24 : decode cX11_daily 24 = .ok (.ireturn, 1) := by decide +kernel
theorem dX11_lasting_0 : decode cX11_lasting 0 = .ok (.aload_n 0, 1) := by decide +kernel
theorem dX11_lasting_1 : decode cX11_lasting 1 = .ok (.iload_n 1, 1) := by decide +kernel
theorem dX11_lasting_2 : decode cX11_lasting 2 = .ok (.invokevirtual 203, 3) := by decide +kernel
theorem dX11_lasting_5 : decode cX11_lasting 5 = .ok (.istore_n 2, 1) := by decide +kernel
theorem dX11_lasting_6 : decode cX11_lasting 6 = .ok (.iload_n 2, 1) := by decide +kernel
theorem dX11_lasting_7 : decode cX11_lasting 7 = .ok (.ifCond .ge 5, 3) := by decide +kernel
theorem dX11_lasting_10 : decode cX11_lasting 10 = .ok (.iload_n 2, 1) := by decide +kernel
theorem dX11_lasting_11 : decode cX11_lasting 11 = .ok (.ireturn, 1) := by decide +kernel
theorem dX11_lasting_12 : decode cX11_lasting 12 = .ok (.aload_n 0, 1) := by decide +kernel
theorem dX11_lasting_13 : decode cX11_lasting 13 = .ok (.getfield 81, 3) := by decide +kernel
theorem dX11_lasting_16 : decode cX11_lasting 16 = .ok (.iload_n 1, 1) := by decide +kernel
theorem dX11_lasting_17 : decode cX11_lasting 17 = .ok (.iaload, 1) := by decide +kernel
theorem dX11_lasting_18 : decode cX11_lasting 18 = .ok (.ifCond .eq 12, 3) := by decide +kernel
theorem dX11_lasting_21 : decode cX11_lasting 21 = .ok (.aload_n 0, 1) := by decide +kernel
theorem dX11_lasting_22 : decode cX11_lasting 22 = .ok (.getfield 87, 3) := by decide +kernel
theorem dX11_lasting_25 : decode cX11_lasting 25 = .ok (.iload_n 1, 1) := by decide +kernel
theorem dX11_lasting_26 : decode cX11_lasting 26 = .ok (.baload, 1) := by decide +kernel
theorem dX11_lasting_27 : decode cX11_lasting 27 = .ok (.ifCond .ne 19, 3) := by decide +kernel
theorem dX11_lasting_30 : decode cX11_lasting 30 = .ok (.aload_n 0, 1) := by decide +kernel
theorem dX11_lasting_31 : decode cX11_lasting 31 = .ok (.getfield 87, 3) := by decide +kernel
theorem dX11_lasting_34 : decode cX11_lasting 34 = .ok (.iload_n 1, 1) := by decide +kernel
theorem dX11_lasting_35 : decode cX11_lasting 35 = .ok (.baload, 1) := by decide +kernel
theorem dX11_lasting_36 : decode cX11_lasting 36 = .ok (.ifCond .eq 7, 3) := by decide +kernel
theorem dX11_lasting_39 : decode cX11_lasting 39 = .ok (.iconst 0, 1) := by decide +kernel
theorem dX11_lasting_40 : decode cX11_lasting 40 = .ok (.goto 5, 3) := by decide +kernel
theorem dX11_lasting_43 : decode cX11_lasting 43 = .ok (.bipush (-9), 2) := by decide +kernel
theorem dX11_lasting_45 : decode cX11_lasting 45 = .ok (.ireturn, 1) := by decide +kernel
theorem dX11_lasting_46 : decode cX11_lasting 46 = .ok (.aload_n 0, 1) := by decide +kernel
theorem dX11_lasting_47 : decode cX11_lasting 47 = .ok (.getfield 81, 3) := by decide +kernel
theorem dX11_lasting_50 : decode cX11_lasting 50 = .ok (.iload_n 1, 1) := by decide +kernel
theorem dX11_lasting_51 : decode cX11_lasting 51 = .ok (.iaload, 1) := by decide +kernel
theorem dX11_lasting_52 : decode cX11_lasting 52 = .ok (.i2l, 1) := by decide +kernel
theorem dX11_lasting_53 : decode cX11_lasting 53 = .ok (.ldc2_w 261, 3) := by decide +kernel
theorem dX11_lasting_56 : decode cX11_lasting 56 = .ok (.lmul, 1) := by decide +kernel
theorem dX11_lasting_57 : decode cX11_lasting 57 = .ok (.aload_n 0, 1) := by decide +kernel
theorem dX11_lasting_58 : decode cX11_lasting 58 = .ok (.getfield 84, 3) := by decide +kernel
theorem dX11_lasting_61 : decode cX11_lasting 61 = .ok (.iload_n 1, 1) := by decide +kernel
theorem dX11_lasting_62 : decode cX11_lasting 62 = .ok (.iaload, 1) := by decide +kernel
theorem dX11_lasting_63 : decode cX11_lasting 63 = .ok (.i2l, 1) := by decide +kernel
theorem dX11_lasting_64 : decode cX11_lasting 64 = .ok (.lsub, 1) := by decide +kernel
theorem dX11_lasting_65 : decode cX11_lasting 65 = .ok (.lstore_n 3, 1) := by decide +kernel
theorem dX11_lasting_66 : decode cX11_lasting 66 = .ok (.ldc 248, 2) := by decide +kernel
theorem dX11_lasting_68 : decode cX11_lasting 68 = .ok (.aload_n 0, 1) := by decide +kernel
theorem dX11_lasting_69 : decode cX11_lasting 69 = .ok (.getfield 78, 3) := by decide +kernel
theorem dX11_lasting_72 : decode cX11_lasting 72 = .ok (.iload_n 1, 1) := by decide +kernel
theorem dX11_lasting_73 : decode cX11_lasting 73 = .ok (.iaload, 1) := by decide +kernel
theorem dX11_lasting_74 : decode cX11_lasting 74 = .ok (.iadd, 1) := by decide +kernel
theorem dX11_lasting_75 : decode cX11_lasting 75 = .ok (.i2l, 1) := by decide +kernel
theorem dX11_lasting_76 : decode cX11_lasting 76 = .ok (.lstore 5, 2) := by decide +kernel
theorem dX11_lasting_78 : decode cX11_lasting 78 = .ok (.lload_n 3, 1) := by decide +kernel
theorem dX11_lasting_79 : decode cX11_lasting 79 = .ok (.lconst 0, 1) := by decide +kernel
theorem dX11_lasting_80 : decode cX11_lasting 80 = .ok (.lcmp, 1) := by decide +kernel
theorem dX11_lasting_81 : decode cX11_lasting 81 = .ok (.ifCond .gt 7, 3) := by decide +kernel
theorem dX11_lasting_84 : decode cX11_lasting 84 = .ok (.lconst 1, 1) := by decide +kernel
theorem dX11_lasting_85 : decode cX11_lasting 85 = .ok (.goto 12, 3) := by decide +kernel
theorem dX11_lasting_88 : decode cX11_lasting 88 = .ok (.lload_n 3, 1) := by decide +kernel
theorem dX11_lasting_89 : decode cX11_lasting 89 = .ok (.lload 5, 2) := by decide +kernel
theorem dX11_lasting_91 : decode cX11_lasting 91 = .ok (.ladd, 1) := by decide +kernel
theorem dX11_lasting_92 : decode cX11_lasting 92 = .ok (.lconst 1, 1) := by decide +kernel
theorem dX11_lasting_93 : decode cX11_lasting 93 = .ok (.lsub, 1) := by decide +kernel
theorem dX11_lasting_94 : decode cX11_lasting 94 = .ok (.lload 5, 2) := by decide +kernel
theorem dX11_lasting_96 : decode cX11_lasting 96 = .ok (.ldiv, 1) := by decide +kernel
theorem dX11_lasting_97 : decode cX11_lasting 97 = .ok (.lstore 7, 2) := by decide +kernel
theorem dX11_lasting_99 : decode cX11_lasting 99 = .ok (.lload 7, 2) := by decide +kernel
theorem dX11_lasting_101 : decode cX11_lasting 101 = .ok (.ldc2_w 341, 3) := by decide +kernel
theorem dX11_lasting_104 : decode cX11_lasting 104 = .ok (.lcmp, 1) := by decide +kernel
theorem dX11_lasting_105 : decode cX11_lasting 105 = .ok (.ifCond .le 9, 3) := by decide +kernel
theorem dX11_lasting_108 : decode cX11_lasting 108 = .ok (.ldc_w 343, 3) := by decide +kernel
theorem dX11_lasting_111 : decode cX11_lasting 111 = .ok (.goto 6, 3) := by decide +kernel
theorem dX11_lasting_114 : decode cX11_lasting 114 = .ok (.lload 7, 2) := by decide +kernel
theorem dX11_lasting_116 : decode cX11_lasting 116 = .ok (.l2i, 1) := by decide +kernel
theorem dX11_lasting_117 : decode cX11_lasting 117 = .ok (.ireturn, 1) := by decide +kernel
theorem dX11_lastingDays_0 : decode cX11_lastingDays 0 = .ok (.aload_n 0, 1) := by decide +kernel
theorem dX11_lastingDays_1 : decode cX11_lastingDays 1 = .ok (.iload_n 1, 1) := by decide +kernel
theorem dX11_lastingDays_2 : decode cX11_lastingDays 2 = .ok (.invokevirtual 176, 3) := by decide +kernel
theorem dX11_lastingDays_5 : decode cX11_lastingDays 5 = .ok (.ifCond .ne 5, 3) := by decide +kernel
theorem dX11_lastingDays_8 : decode cX11_lastingDays 8 = .ok (.iconst (-1), 1) := by decide +kernel
theorem dX11_lastingDays_9 : decode cX11_lastingDays 9 = .ok (.ireturn, 1) := by decide +kernel
theorem dX11_lastingDays_10 : decode cX11_lastingDays 10 = .ok (.aload_n 0, 1) := by decide +kernel
theorem dX11_lastingDays_11 : decode cX11_lastingDays 11 = .ok (.getfield 53, 3) := by decide +kernel
theorem dX11_lastingDays_14 : decode cX11_lastingDays 14 = .ok (.iload_n 1, 1) := by decide +kernel
theorem dX11_lastingDays_15 : decode cX11_lastingDays 15 = .ok (.iaload, 1) := by decide +kernel
theorem dX11_lastingDays_16 : decode cX11_lastingDays 16 = .ok (.istore_n 3, 1) := by decide +kernel
theorem dX11_lastingDays_17 : decode cX11_lastingDays 17 = .ok (.aload_n 0, 1) := by decide +kernel
theorem dX11_lastingDays_18 : decode cX11_lastingDays 18 = .ok (.getfield 35, 3) := by decide +kernel
theorem dX11_lastingDays_21 : decode cX11_lastingDays 21 = .ok (.iload_n 1, 1) := by decide +kernel
theorem dX11_lastingDays_22 : decode cX11_lastingDays 22 = .ok (.iaload, 1) := by decide +kernel
theorem dX11_lastingDays_23 : decode cX11_lastingDays 23 = .ok (.istore 4, 2) := by decide +kernel
theorem dX11_lastingDays_25 : decode cX11_lastingDays 25 = .ok (.iconst 0, 1) := by decide +kernel
theorem dX11_lastingDays_26 : decode cX11_lastingDays 26 = .ok (.istore 5, 2) := by decide +kernel
theorem dX11_lastingDays_28 : decode cX11_lastingDays 28 = .ok (.aload_n 0, 1) := by decide +kernel
theorem dX11_lastingDays_29 : decode cX11_lastingDays 29 = .ok (.iload_n 1, 1) := by decide +kernel
theorem dX11_lastingDays_30 : decode cX11_lastingDays 30 = .ok (.iload_n 2, 1) := by decide +kernel
theorem dX11_lastingDays_31 : decode cX11_lastingDays 31 = .ok (.iload 4, 2) := by decide +kernel
theorem dX11_lastingDays_33 : decode cX11_lastingDays 33 = .ok (.invokevirtual 338, 3) := by decide +kernel
theorem dX11_lastingDays_36 : decode cX11_lastingDays 36 = .ok (.istore 6, 2) := by decide +kernel
theorem dX11_lastingDays_38 : decode cX11_lastingDays 38 = .ok (.iload_n 3, 1) := by decide +kernel
theorem dX11_lastingDays_39 : decode cX11_lastingDays 39 = .ok (.iload 6, 2) := by decide +kernel
theorem dX11_lastingDays_41 : decode cX11_lastingDays 41 = .ok (.if_icmp .lt 60, 3) := by decide +kernel
theorem dX11_lastingDays_44 : decode cX11_lastingDays 44 = .ok (.iload_n 3, 1) := by decide +kernel
theorem dX11_lastingDays_45 : decode cX11_lastingDays 45 = .ok (.iload 6, 2) := by decide +kernel
theorem dX11_lastingDays_47 : decode cX11_lastingDays 47 = .ok (.isub, 1) := by decide +kernel
theorem dX11_lastingDays_48 : decode cX11_lastingDays 48 = .ok (.istore_n 3, 1) := by decide +kernel
theorem dX11_lastingDays_49 : decode cX11_lastingDays 49 = .ok (.iinc 5 1, 3) := by decide +kernel
theorem dX11_lastingDays_52 : decode cX11_lastingDays 52 = .ok (.aload_n 0, 1) := by decide +kernel
theorem dX11_lastingDays_53 : decode cX11_lastingDays 53 = .ok (.getfield 29, 3) := by decide +kernel
theorem dX11_lastingDays_56 : decode cX11_lastingDays 56 = .ok (.iload_n 1, 1) := by decide +kernel
theorem dX11_lastingDays_57 : decode cX11_lastingDays 57 = .ok (.iaload, 1) := by decide +kernel
theorem dX11_lastingDays_58 : decode cX11_lastingDays 58 = .ok (.ifCond .ne 7, 3) := by decide +kernel
theorem dX11_lastingDays_61 : decode cX11_lastingDays 61 = .ok (.iconst 0, 1) := by decide +kernel
theorem dX11_lastingDays_62 : decode cX11_lastingDays 62 = .ok (.goto 24, 3) := by decide +kernel
theorem dX11_lastingDays_65 : decode cX11_lastingDays 65 = .ok (.iload 4, 2) := by decide +kernel
theorem dX11_lastingDays_67 : decode cX11_lastingDays 67 = .ok (.iload_n 2, 1) := by decide +kernel
theorem dX11_lastingDays_68 : decode cX11_lastingDays 68 = .ok (.ifCond .eq 8, 3) := by decide +kernel
theorem dX11_lastingDays_71 : decode cX11_lastingDays 71 = .ok (.bipush 96, 2) := by decide +kernel
theorem dX11_lastingDays_73 : decode cX11_lastingDays 73 = .ok (.goto 5, 3) := by decide +kernel
theorem dX11_lastingDays_76 : decode cX11_lastingDays 76 = .ok (.bipush 24, 2) := by decide +kernel
theorem dX11_lastingDays_78 : decode cX11_lastingDays 78 = .ok (.iadd, 1) := by decide +kernel
theorem dX11_lastingDays_79 : decode cX11_lastingDays 79 = .ok (.aload_n 0, 1) := by decide +kernel
theorem dX11_lastingDays_80 : decode cX11_lastingDays 80 = .ok (.getfield 29, 3) := by decide +kernel
theorem dX11_lastingDays_83 : decode cX11_lastingDays 83 = .ok (.iload_n 1, 1) := by decide +kernel
theorem dX11_lastingDays_84 : decode cX11_lastingDays 84 = .ok (.iaload, 1) := by decide +kernel
theorem dX11_lastingDays_85 : decode cX11_lastingDays 85 = .ok (.irem, 1) := by decide +kernel
theorem dX11_lastingDays_86 : decode cX11_lastingDays 86 = .ok (.istore 4, 2) := by decide +kernel
theorem dX11_lastingDays_88 : decode cX11_lastingDays 88 = .ok (.aload_n 0, 1) := by decide +kernel
theorem dX11_lastingDays_89 : decode cX11_lastingDays 89 = .ok (.iload_n 1, 1) := by decide +kernel
theorem dX11_lastingDays_90 : decode cX11_lastingDays 90 = .ok (.iload_n 2, 1) := by decide +kernel
theorem dX11_lastingDays_91 : decode cX11_lastingDays 91 = .ok (.iload 4, 2) := by decide +kernel
theorem dX11_lastingDays_93 : decode cX11_lastingDays 93 = .ok (.invokevirtual 338, 3) := by decide +kernel
theorem dX11_lastingDays_96 : decode cX11_lastingDays 96 = .ok (.istore 6, 2) := by decide +kernel
theorem dX11_lastingDays_98 : decode cX11_lastingDays 98 = .ok (.goto (-60), 3) := by decide +kernel
theorem dX11_lastingDays_101 : decode cX11_lastingDays 101 = .ok (.iload 5, 2) := by decide +kernel
theorem dX11_lastingDays_103 : decode cX11_lastingDays 103 = .ok (.ireturn, 1) := by decide +kernel
theorem dX11_asked_0 : decode cX11_asked 0 = .ok (.aload_n 0, 1) := by decide +kernel
theorem dX11_asked_1 : decode cX11_asked 1 = .ok (.getfield 280, 3) := by decide +kernel
theorem dX11_asked_4 : decode cX11_asked 4 = .ok (.ireturn, 1) := by decide +kernel
theorem dX11_upper_0 : decode cX11_upper 0 = .ok (.aload_n 0, 1) := by decide +kernel
theorem dX11_upper_1 : decode cX11_upper 1 = .ok (.getfield 142, 3) := by decide +kernel
theorem dX11_upper_4 : decode cX11_upper 4 = .ok (.lreturn, 1) := by decide +kernel
theorem dX11_lower_0 : decode cX11_lower 0 = .ok (.aload_n 0, 1) := by decide +kernel
theorem dX11_lower_1 : decode cX11_lower 1 = .ok (.getfield 13, 3) := by decide +kernel
theorem dX11_lower_4 : decode cX11_lower 4 = .ok (.lreturn, 1) := by decide +kernel
theorem dX11_count_0 : decode cX11_count 0 = .ok (.iconst 0, 1) := by decide +kernel
theorem dX11_count_1 : decode cX11_count 1 = .ok (.istore_n 2, 1) := by decide +kernel
theorem dX11_count_2 : decode cX11_count 2 = .ok (.iload_n 1, 1) := by decide +kernel
theorem dX11_count_3 : decode cX11_count 3 = .ok (.tableswitch 122 0 5 #[37, 42, 47, 79, 84, 117], 37) := by decide +kernel
theorem dX11_count_40 : decode cX11_count 40 = .ok (.aload_n 0, 1) := by decide +kernel
theorem dX11_count_41 : decode cX11_count 41 = .ok (.getfield 238, 3) := by decide +kernel
theorem dX11_count_44 : decode cX11_count 44 = .ok (.ireturn, 1) := by decide +kernel
theorem dX11_count_45 : decode cX11_count 45 = .ok (.aload_n 0, 1) := by decide +kernel
theorem dX11_count_46 : decode cX11_count 46 = .ok (.getfield 160, 3) := by decide +kernel
theorem dX11_count_49 : decode cX11_count 49 = .ok (.ireturn, 1) := by decide +kernel
theorem dX11_count_50 : decode cX11_count 50 = .ok (.iconst 0, 1) := by decide +kernel
theorem dX11_count_51 : decode cX11_count 51 = .ok (.istore_n 3, 1) := by decide +kernel
theorem dX11_count_52 : decode cX11_count 52 = .ok (.iload_n 3, 1) := by decide +kernel
theorem dX11_count_53 : decode cX11_count 53 = .ok (.iconst 4, 1) := by decide +kernel
theorem dX11_count_54 : decode cX11_count 54 = .ok (.if_icmp .ge 26, 3) := by decide +kernel
theorem dX11_count_57 : decode cX11_count 57 = .ok (.iload_n 2, 1) := by decide +kernel
theorem dX11_count_58 : decode cX11_count 58 = .ok (.aload_n 0, 1) := by decide +kernel
theorem dX11_count_59 : decode cX11_count 59 = .ok (.getfield 72, 3) := by decide +kernel
theorem dX11_count_62 : decode cX11_count 62 = .ok (.iload_n 3, 1) := by decide +kernel
theorem dX11_count_63 : decode cX11_count 63 = .ok (.baload, 1) := by decide +kernel
theorem dX11_count_64 : decode cX11_count 64 = .ok (.ifCond .eq 7, 3) := by decide +kernel
theorem dX11_count_67 : decode cX11_count 67 = .ok (.iconst 1, 1) := by decide +kernel
theorem dX11_count_68 : decode cX11_count 68 = .ok (.goto 4, 3) := by decide +kernel
theorem dX11_count_71 : decode cX11_count 71 = .ok (.iconst 0, 1) := by decide +kernel
theorem dX11_count_72 : decode cX11_count 72 = .ok (.iadd, 1) := by decide +kernel
theorem dX11_count_73 : decode cX11_count 73 = .ok (.istore_n 2, 1) := by decide +kernel
theorem dX11_count_74 : decode cX11_count 74 = .ok (.iinc 3 1, 3) := by decide +kernel
theorem dX11_count_77 : decode cX11_count 77 = .ok (.goto (-25), 3) := by decide +kernel
theorem dX11_count_80 : decode cX11_count 80 = .ok (.iload_n 2, 1) := by decide +kernel
theorem dX11_count_81 : decode cX11_count 81 = .ok (.ireturn, 1) := by decide +kernel
theorem dX11_count_82 : decode cX11_count 82 = .ok (.aload_n 0, 1) := by decide +kernel
theorem dX11_count_83 : decode cX11_count 83 = .ok (.getfield 310, 3) := by decide +kernel
theorem dX11_count_86 : decode cX11_count 86 = .ok (.ireturn, 1) := by decide +kernel
theorem dX11_count_87 : decode cX11_count 87 = .ok (.iconst 0, 1) := by decide +kernel
theorem dX11_count_88 : decode cX11_count 88 = .ok (.istore_n 3, 1) := by decide +kernel
theorem dX11_count_89 : decode cX11_count 89 = .ok (.iload_n 3, 1) := by decide +kernel
theorem dX11_count_90 : decode cX11_count 90 = .ok (.bipush 8, 2) := by decide +kernel
theorem dX11_count_92 : decode cX11_count 92 = .ok (.if_icmp .ge 26, 3) := by decide +kernel
theorem dX11_count_95 : decode cX11_count 95 = .ok (.iload_n 2, 1) := by decide +kernel
theorem dX11_count_96 : decode cX11_count 96 = .ok (.aload_n 0, 1) := by decide +kernel
theorem dX11_count_97 : decode cX11_count 97 = .ok (.getfield 17, 3) := by decide +kernel
theorem dX11_count_100 : decode cX11_count 100 = .ok (.iload_n 3, 1) := by decide +kernel
theorem dX11_count_101 : decode cX11_count 101 = .ok (.iaload, 1) := by decide +kernel
theorem dX11_count_102 : decode cX11_count 102 = .ok (.ifCond .lt 7, 3) := by decide +kernel
theorem dX11_count_105 : decode cX11_count 105 = .ok (.iconst 1, 1) := by decide +kernel
theorem dX11_count_106 : decode cX11_count 106 = .ok (.goto 4, 3) := by decide +kernel
theorem dX11_count_109 : decode cX11_count 109 = .ok (.iconst 0, 1) := by decide +kernel
theorem dX11_count_110 : decode cX11_count 110 = .ok (.iadd, 1) := by decide +kernel
theorem dX11_count_111 : decode cX11_count 111 = .ok (.istore_n 2, 1) := by decide +kernel
theorem dX11_count_112 : decode cX11_count 112 = .ok (.iinc 3 1, 3) := by decide +kernel
theorem dX11_count_115 : decode cX11_count 115 = .ok (.goto (-26), 3) := by decide +kernel
theorem dX11_count_118 : decode cX11_count 118 = .ok (.iload_n 2, 1) := by decide +kernel
theorem dX11_count_119 : decode cX11_count 119 = .ok (.ireturn, 1) := by decide +kernel
theorem dX11_count_120 : decode cX11_count 120 = .ok (.aload_n 0, 1) := by decide +kernel
theorem dX11_count_121 : decode cX11_count 121 = .ok (.getfield 231, 3) := by decide +kernel
theorem dX11_count_124 : decode cX11_count 124 = .ok (.ireturn, 1) := by decide +kernel
theorem dX11_count_125 : decode cX11_count 125 = .ok (.iconst (-1), 1) := by decide +kernel
theorem dX11_count_126 : decode cX11_count 126 = .ok (.ireturn, 1) := by decide +kernel
theorem dX11_finding_0 : decode cX11_finding 0 = .ok (.aload_n 0, 1) := by decide +kernel
theorem dX11_finding_1 : decode cX11_finding 1 = .ok (.getfield 139, 3) := by decide +kernel
theorem dX11_finding_4 : decode cX11_finding 4 = .ok (.ireturn, 1) := by decide +kernel
theorem dX11_findings_0 : decode cX11_findings 0 = .ok (.iload_n 1, 1) := by decide +kernel
theorem dX11_findings_1 : decode cX11_findings 1 = .ok (.iconst 1, 1) := by decide +kernel
theorem dX11_findings_2 : decode cX11_findings 2 = .ok (.iconst 5, 1) := by decide +kernel
theorem dX11_findings_3 : decode cX11_findings 3 = .ok (.invokestatic 145, 3) := by decide +kernel
theorem dX11_findings_6 : decode cX11_findings 6 = .ok (.ifCond .eq 12, 3) := by decide +kernel
theorem dX11_findings_9 : decode cX11_findings 9 = .ok (.aload_n 0, 1) := by decide +kernel
theorem dX11_findings_10 : decode cX11_findings 10 = .ok (.getfield 7, 3) := by decide +kernel
theorem dX11_findings_13 : decode cX11_findings 13 = .ok (.iload_n 1, 1) := by decide +kernel
theorem dX11_findings_14 : decode cX11_findings 14 = .ok (.iaload, 1) := by decide +kernel
theorem dX11_findings_15 : decode cX11_findings 15 = .ok (.goto 4, 3) := by decide +kernel
theorem dX11_findings_18 : decode cX11_findings 18 = .ok (.iconst (-1), 1) := by decide +kernel
theorem dX11_findings_19 : decode cX11_findings 19 = .ok (.ireturn, 1) := by decide +kernel
theorem dX11_digest_0 : decode cX11_digest 0 = .ok (.ldc2_w 344, 3) := by decide +kernel
theorem dX11_digest_3 : decode cX11_digest 3 = .ok (.aload_n 0, 1) := by decide +kernel
theorem dX11_digest_4 : decode cX11_digest 4 = .ok (.getfield 238, 3) := by decide +kernel
theorem dX11_digest_7 : decode cX11_digest 7 = .ok (.i2l, 1) := by decide +kernel
theorem dX11_digest_8 : decode cX11_digest 8 = .ok (.ladd, 1) := by decide +kernel
theorem dX11_digest_9 : decode cX11_digest 9 = .ok (.lstore_n 1, 1) := by decide +kernel
theorem dX11_digest_10 : decode cX11_digest 10 = .ok (.iconst 0, 1) := by decide +kernel
theorem dX11_digest_11 : decode cX11_digest 11 = .ok (.istore_n 3, 1) := by decide +kernel
theorem dX11_digest_12 : decode cX11_digest 12 = .ok (.iload_n 3, 1) := by decide +kernel
theorem dX11_digest_13 : decode cX11_digest 13 = .ok (.aload_n 0, 1) := by decide +kernel
theorem dX11_digest_14 : decode cX11_digest 14 = .ok (.getfield 160, 3) := by decide +kernel
theorem dX11_digest_17 : decode cX11_digest 17 = .ok (.if_icmp .ge 148, 3) := by decide +kernel
theorem dX11_digest_20 : decode cX11_digest 20 = .ok (.iconst 0, 1) := by decide +kernel
theorem dX11_digest_21 : decode cX11_digest 21 = .ok (.istore 4, 2) := by decide +kernel
theorem dX11_digest_23 : decode cX11_digest 23 = .ok (.iload 4, 2) := by decide +kernel
theorem dX11_digest_25 : decode cX11_digest 25 = .ok (.bipush 7, 2) := by decide +kernel
theorem dX11_digest_27 : decode cX11_digest 27 = .ok (.if_icmp .gt 24, 3) := by decide +kernel
theorem dX11_digest_30 : decode cX11_digest 30 = .ok (.ldc2_w 346, 3) := by decide +kernel
theorem dX11_digest_33 : decode cX11_digest 33 = .ok (.lload_n 1, 1) := by decide +kernel
theorem dX11_digest_34 : decode cX11_digest 34 = .ok (.lmul, 1) := by decide +kernel
theorem dX11_digest_35 : decode cX11_digest 35 = .ok (.aload_n 0, 1) := by decide +kernel
theorem dX11_digest_36 : decode cX11_digest 36 = .ok (.iload_n 3, 1) := by decide +kernel
theorem dX11_digest_37 : decode cX11_digest 37 = .ok (.iload 4, 2) := by decide +kernel
theorem dX11_digest_39 : decode cX11_digest 39 = .ok (.invokevirtual 183, 3) := by decide +kernel
theorem dX11_digest_42 : decode cX11_digest 42 = .ok (.i2l, 1) := by decide +kernel
theorem dX11_digest_43 : decode cX11_digest 43 = .ok (.ladd, 1) := by decide +kernel
theorem dX11_digest_44 : decode cX11_digest 44 = .ok (.lstore_n 1, 1) := by decide +kernel
theorem dX11_digest_45 : decode cX11_digest 45 = .ok (.iinc 4 1, 3) := by decide +kernel
theorem dX11_digest_48 : decode cX11_digest 48 = .ok (.goto (-25), 3) := by decide +kernel
theorem dX11_digest_51 : decode cX11_digest 51 = .ok (.iconst 0, 1) := by decide +kernel
theorem dX11_digest_52 : decode cX11_digest 52 = .ok (.istore 4, 2) := by decide +kernel
theorem dX11_digest_54 : decode cX11_digest 54 = .ok (.iload 4, 2) := by decide +kernel
theorem dX11_digest_56 : decode cX11_digest 56 = .ok (.aload_n 0, 1) := by decide +kernel
theorem dX11_digest_57 : decode cX11_digest 57 = .ok (.getfield 29, 3) := by decide +kernel
theorem dX11_digest_60 : decode cX11_digest 60 = .ok (.iload_n 3, 1) := by decide +kernel
theorem dX11_digest_61 : decode cX11_digest 61 = .ok (.iaload, 1) := by decide +kernel
theorem dX11_digest_62 : decode cX11_digest 62 = .ok (.if_icmp .ge 29, 3) := by decide +kernel
theorem dX11_digest_65 : decode cX11_digest 65 = .ok (.ldc2_w 346, 3) := by decide +kernel
theorem dX11_digest_68 : decode cX11_digest 68 = .ok (.lload_n 1, 1) := by decide +kernel
theorem dX11_digest_69 : decode cX11_digest 69 = .ok (.lmul, 1) := by decide +kernel
theorem dX11_digest_70 : decode cX11_digest 70 = .ok (.aload_n 0, 1) := by decide +kernel
theorem dX11_digest_71 : decode cX11_digest 71 = .ok (.getfield 32, 3) := by decide +kernel
theorem dX11_digest_74 : decode cX11_digest 74 = .ok (.bipush 24, 2) := by decide +kernel
theorem dX11_digest_76 : decode cX11_digest 76 = .ok (.iload_n 3, 1) := by decide +kernel
theorem dX11_digest_77 : decode cX11_digest 77 = .ok (.imul, 1) := by decide +kernel
theorem dX11_digest_78 : decode cX11_digest 78 = .ok (.iload 4, 2) := by decide +kernel
theorem dX11_digest_80 : decode cX11_digest 80 = .ok (.iadd, 1) := by decide +kernel
theorem dX11_digest_81 : decode cX11_digest 81 = .ok (.iaload, 1) := by decide +kernel
theorem dX11_digest_82 : decode cX11_digest 82 = .ok (.i2l, 1) := by decide +kernel
theorem dX11_digest_83 : decode cX11_digest 83 = .ok (.ladd, 1) := by decide +kernel
theorem dX11_digest_84 : decode cX11_digest 84 = .ok (.lstore_n 1, 1) := by decide +kernel
theorem dX11_digest_85 : decode cX11_digest 85 = .ok (.iinc 4 1, 3) := by decide +kernel
theorem dX11_digest_88 : decode cX11_digest 88 = .ok (.goto (-34), 3) := by decide +kernel
theorem dX11_digest_91 : decode cX11_digest 91 = .ok (.iconst 0, 1) := by decide +kernel
theorem dX11_digest_92 : decode cX11_digest 92 = .ok (.istore 4, 2) := by decide +kernel
theorem dX11_digest_94 : decode cX11_digest 94 = .ok (.iload 4, 2) := by decide +kernel
theorem dX11_digest_96 : decode cX11_digest 96 = .ok (.aload_n 0, 1) := by decide +kernel
theorem dX11_digest_97 : decode cX11_digest 97 = .ok (.getfield 38, 3) := by decide +kernel
theorem dX11_digest_100 : decode cX11_digest 100 = .ok (.iload_n 3, 1) := by decide +kernel
theorem dX11_digest_101 : decode cX11_digest 101 = .ok (.iaload, 1) := by decide +kernel
theorem dX11_digest_102 : decode cX11_digest 102 = .ok (.if_icmp .ge 29, 3) := by decide +kernel
theorem dX11_digest_105 : decode cX11_digest 105 = .ok (.ldc2_w 346, 3) := by decide +kernel
theorem dX11_digest_108 : decode cX11_digest 108 = .ok (.lload_n 1, 1) := by decide +kernel
theorem dX11_digest_109 : decode cX11_digest 109 = .ok (.lmul, 1) := by decide +kernel
theorem dX11_digest_110 : decode cX11_digest 110 = .ok (.aload_n 0, 1) := by decide +kernel
theorem dX11_digest_111 : decode cX11_digest 111 = .ok (.getfield 41, 3) := by decide +kernel
theorem dX11_digest_114 : decode cX11_digest 114 = .ok (.bipush 48, 2) := by decide +kernel
theorem dX11_digest_116 : decode cX11_digest 116 = .ok (.iload_n 3, 1) := by decide +kernel
theorem dX11_digest_117 : decode cX11_digest 117 = .ok (.imul, 1) := by decide +kernel
theorem dX11_digest_118 : decode cX11_digest 118 = .ok (.iload 4, 2) := by decide +kernel
theorem dX11_digest_120 : decode cX11_digest 120 = .ok (.iadd, 1) := by decide +kernel
theorem dX11_digest_121 : decode cX11_digest 121 = .ok (.iaload, 1) := by decide +kernel
theorem dX11_digest_122 : decode cX11_digest 122 = .ok (.i2l, 1) := by decide +kernel
theorem dX11_digest_123 : decode cX11_digest 123 = .ok (.ladd, 1) := by decide +kernel
theorem dX11_digest_124 : decode cX11_digest 124 = .ok (.lstore_n 1, 1) := by decide +kernel
theorem dX11_digest_125 : decode cX11_digest 125 = .ok (.iinc 4 1, 3) := by decide +kernel
theorem dX11_digest_128 : decode cX11_digest 128 = .ok (.goto (-34), 3) := by decide +kernel
theorem dX11_digest_131 : decode cX11_digest 131 = .ok (.aload_n 0, 1) := by decide +kernel
theorem dX11_digest_132 : decode cX11_digest 132 = .ok (.getfield 26, 3) := by decide +kernel
theorem dX11_digest_135 : decode cX11_digest 135 = .ok (.iload_n 3, 1) := by decide +kernel
theorem dX11_digest_136 : decode cX11_digest 136 = .ok (.iaload, 1) := by decide +kernel
theorem dX11_digest_137 : decode cX11_digest 137 = .ok (.iconst 3, 1) := by decide +kernel
theorem dX11_digest_138 : decode cX11_digest 138 = .ok (.if_icmp .ne 19, 3) := by decide +kernel
theorem dX11_digest_141 : decode cX11_digest 141 = .ok (.ldc2_w 346, 3) := by decide +kernel
theorem dX11_digest_144 : decode cX11_digest 144 = .ok (.lload_n 1, 1) := by decide +kernel
theorem dX11_digest_145 : decode cX11_digest 145 = .ok (.lmul, 1) := by decide +kernel
theorem dX11_digest_146 : decode cX11_digest 146 = .ok (.aload_n 0, 1) := by decide +kernel
theorem dX11_digest_147 : decode cX11_digest 147 = .ok (.getfield 44, 3) := by decide +kernel
theorem dX11_digest_150 : decode cX11_digest 150 = .ok (.iload_n 3, 1) := by decide +kernel
theorem dX11_digest_151 : decode cX11_digest 151 = .ok (.iaload, 1) := by decide +kernel
theorem dX11_digest_152 : decode cX11_digest 152 = .ok (.i2l, 1) := by decide +kernel
theorem dX11_digest_153 : decode cX11_digest 153 = .ok (.ladd, 1) := by decide +kernel
theorem dX11_digest_154 : decode cX11_digest 154 = .ok (.goto 4, 3) := by decide +kernel
theorem dX11_digest_157 : decode cX11_digest 157 = .ok (.lload_n 1, 1) := by decide +kernel
theorem dX11_digest_158 : decode cX11_digest 158 = .ok (.lstore_n 1, 1) := by decide +kernel
theorem dX11_digest_159 : decode cX11_digest 159 = .ok (.iinc 3 1, 3) := by decide +kernel
theorem dX11_digest_162 : decode cX11_digest 162 = .ok (.goto (-150), 3) := by decide +kernel
theorem dX11_digest_165 : decode cX11_digest 165 = .ok (.iconst 0, 1) := by decide +kernel
theorem dX11_digest_166 : decode cX11_digest 166 = .ok (.istore_n 3, 1) := by decide +kernel
theorem dX11_digest_167 : decode cX11_digest 167 = .ok (.iload_n 3, 1) := by decide +kernel
theorem dX11_digest_168 : decode cX11_digest 168 = .ok (.iconst 4, 1) := by decide +kernel
theorem dX11_digest_169 : decode cX11_digest 169 = .ok (.if_icmp .ge 134, 3) := by decide +kernel
theorem dX11_digest_172 : decode cX11_digest 172 = .ok (.aload_n 0, 1) := by decide +kernel
theorem dX11_digest_173 : decode cX11_digest 173 = .ok (.getfield 72, 3) := by decide +kernel
theorem dX11_digest_176 : decode cX11_digest 176 = .ok (.iload_n 3, 1) := by decide +kernel
theorem dX11_digest_177 : decode cX11_digest 177 = .ok (.baload, 1) := by decide +kernel
theorem dX11_digest_178 : decode cX11_digest 178 = .ok (.ifCond .ne 14, 3) := by decide +kernel
theorem dX11_digest_181 : decode cX11_digest 181 = .ok (.ldc2_w 346, 3) := by decide +kernel
theorem dX11_digest_184 : decode cX11_digest 184 = .ok (.lload_n 1, 1) := by decide +kernel
theorem dX11_digest_185 : decode cX11_digest 185 = .ok (.lmul, 1) := by decide +kernel
theorem dX11_digest_186 : decode cX11_digest 186 = .ok (.lconst 1, 1) := by decide +kernel
theorem dX11_digest_187 : decode cX11_digest 187 = .ok (.lsub, 1) := by decide +kernel
theorem dX11_digest_188 : decode cX11_digest 188 = .ok (.lstore_n 1, 1) := by decide +kernel
theorem dX11_digest_189 : decode cX11_digest 189 = .ok (.goto 108, 3) := by decide +kernel
theorem dX11_digest_192 : decode cX11_digest 192 = .ok (.iconst 0, 1) := by decide +kernel
theorem dX11_digest_193 : decode cX11_digest 193 = .ok (.istore 4, 2) := by decide +kernel
theorem dX11_digest_195 : decode cX11_digest 195 = .ok (.iload 4, 2) := by decide +kernel
theorem dX11_digest_197 : decode cX11_digest 197 = .ok (.bipush 8, 2) := by decide +kernel
theorem dX11_digest_199 : decode cX11_digest 199 = .ok (.if_icmp .gt 24, 3) := by decide +kernel
theorem dX11_digest_202 : decode cX11_digest 202 = .ok (.ldc2_w 346, 3) := by decide +kernel
theorem dX11_digest_205 : decode cX11_digest 205 = .ok (.lload_n 1, 1) := by decide +kernel
theorem dX11_digest_206 : decode cX11_digest 206 = .ok (.lmul, 1) := by decide +kernel
theorem dX11_digest_207 : decode cX11_digest 207 = .ok (.aload_n 0, 1) := by decide +kernel
theorem dX11_digest_208 : decode cX11_digest 208 = .ok (.iload_n 3, 1) := by decide +kernel
theorem dX11_digest_209 : decode cX11_digest 209 = .ok (.iload 4, 2) := by decide +kernel
theorem dX11_digest_211 : decode cX11_digest 211 = .ok (.invokevirtual 253, 3) := by decide +kernel
theorem dX11_digest_214 : decode cX11_digest 214 = .ok (.i2l, 1) := by decide +kernel
theorem dX11_digest_215 : decode cX11_digest 215 = .ok (.ladd, 1) := by decide +kernel
theorem dX11_digest_216 : decode cX11_digest 216 = .ok (.lstore_n 1, 1) := by decide +kernel
theorem dX11_digest_217 : decode cX11_digest 217 = .ok (.iinc 4 1, 3) := by decide +kernel
theorem dX11_digest_220 : decode cX11_digest 220 = .ok (.goto (-25), 3) := by decide +kernel
theorem dX11_digest_223 : decode cX11_digest 223 = .ok (.ldc2_w 346, 3) := by decide +kernel
theorem dX11_digest_226 : decode cX11_digest 226 = .ok (.lload_n 1, 1) := by decide +kernel
theorem dX11_digest_227 : decode cX11_digest 227 = .ok (.lmul, 1) := by decide +kernel
theorem dX11_digest_228 : decode cX11_digest 228 = .ok (.aload_n 0, 1) := by decide +kernel
theorem dX11_digest_229 : decode cX11_digest 229 = .ok (.getfield 105, 3) := by decide +kernel
theorem dX11_digest_232 : decode cX11_digest 232 = .ok (.iload_n 3, 1) := by decide +kernel
theorem dX11_digest_233 : decode cX11_digest 233 = .ok (.iaload, 1) := by decide +kernel
theorem dX11_digest_234 : decode cX11_digest 234 = .ok (.i2l, 1) := by decide +kernel
theorem dX11_digest_235 : decode cX11_digest 235 = .ok (.ladd, 1) := by decide +kernel
theorem dX11_digest_236 : decode cX11_digest 236 = .ok (.lstore_n 1, 1) := by decide +kernel
theorem dX11_digest_237 : decode cX11_digest 237 = .ok (.iconst 0, 1) := by decide +kernel
theorem dX11_digest_238 : decode cX11_digest 238 = .ok (.istore 4, 2) := by decide +kernel
theorem dX11_digest_240 : decode cX11_digest 240 = .ok (.iload 4, 2) := by decide +kernel
theorem dX11_digest_242 : decode cX11_digest 242 = .ok (.iconst 4, 1) := by decide +kernel
theorem dX11_digest_243 : decode cX11_digest 243 = .ok (.if_icmp .ge 54, 3) := by decide +kernel
theorem dX11_digest_246 : decode cX11_digest 246 = .ok (.ldc2_w 346, 3) := by decide +kernel
theorem dX11_digest_249 : decode cX11_digest 249 = .ok (.lload_n 1, 1) := by decide +kernel
theorem dX11_digest_250 : decode cX11_digest 250 = .ok (.lmul, 1) := by decide +kernel
theorem dX11_digest_251 : decode cX11_digest 251 = .ok (.aload_n 0, 1) := by decide +kernel
theorem dX11_digest_252 : decode cX11_digest 252 = .ok (.getfield 105, 3) := by decide +kernel
theorem dX11_digest_255 : decode cX11_digest 255 = .ok (.iload_n 3, 1) := by decide +kernel
theorem dX11_digest_256 : decode cX11_digest 256 = .ok (.iaload, 1) := by decide +kernel
theorem dX11_digest_257 : decode cX11_digest 257 = .ok (.ifCond .ne 7, 3) := by decide +kernel
theorem dX11_digest_260 : decode cX11_digest 260 = .ok (.iconst 0, 1) := by decide +kernel
theorem dX11_digest_261 : decode cX11_digest 261 = .ok (.goto 27, 3) := by decide +kernel
theorem dX11_digest_264 : decode cX11_digest 264 = .ok (.aload_n 0, 1) := by decide +kernel
theorem dX11_digest_265 : decode cX11_digest 265 = .ok (.getfield 108, 3) := by decide +kernel
theorem dX11_digest_268 : decode cX11_digest 268 = .ok (.sipush 240, 3) := by decide +kernel
theorem dX11_digest_271 : decode cX11_digest 271 = .ok (.iload_n 3, 1) := by decide +kernel
theorem dX11_digest_272 : decode cX11_digest 272 = .ok (.imul, 1) := by decide +kernel
theorem dX11_digest_273 : decode cX11_digest 273 = .ok (.iconst 4, 1) := by decide +kernel
theorem dX11_digest_274 : decode cX11_digest 274 = .ok (.aload_n 0, 1) := by decide +kernel
theorem dX11_digest_275 : decode cX11_digest 275 = .ok (.getfield 105, 3) := by decide +kernel
theorem dX11_digest_278 : decode cX11_digest 278 = .ok (.iload_n 3, 1) := by decide +kernel
theorem dX11_digest_279 : decode cX11_digest 279 = .ok (.iaload, 1) := by decide +kernel
theorem dX11_digest_280 : decode cX11_digest 280 = .ok (.imul, 1) := by decide +kernel
theorem dX11_digest_281 : decode cX11_digest 281 = .ok (.iadd, 1) := by decide +kernel
theorem dX11_digest_282 : decode cX11_digest 282 = .ok (.iconst 4, 1) := by decide +kernel
theorem dX11_digest_283 : decode cX11_digest 283 = .ok (.isub, 1) := by decide +kernel
theorem dX11_digest_284 : decode cX11_digest 284 = .ok (.iload 4, 2) := by decide +kernel
theorem dX11_digest_286 : decode cX11_digest 286 = .ok (.iadd, 1) := by decide +kernel
theorem dX11_digest_287 : decode cX11_digest 287 = .ok (.iaload, 1) := by decide +kernel
theorem dX11_digest_288 : decode cX11_digest 288 = .ok (.i2l, 1) := by decide +kernel
theorem dX11_digest_289 : decode cX11_digest 289 = .ok (.ladd, 1) := by decide +kernel
theorem dX11_digest_290 : decode cX11_digest 290 = .ok (.lstore_n 1, 1) := by decide +kernel
theorem dX11_digest_291 : decode cX11_digest 291 = .ok (.iinc 4 1, 3) := by decide +kernel
theorem dX11_digest_294 : decode cX11_digest 294 = .ok (.goto (-54), 3) := by decide +kernel
theorem dX11_digest_297 : decode cX11_digest 297 = .ok (.iinc 3 1, 3) := by decide +kernel
theorem dX11_digest_300 : decode cX11_digest 300 = .ok (.goto (-133), 3) := by decide +kernel
theorem dX11_digest_303 : decode cX11_digest 303 = .ok (.iconst 0, 1) := by decide +kernel
theorem dX11_digest_304 : decode cX11_digest 304 = .ok (.istore_n 3, 1) := by decide +kernel
theorem dX11_digest_305 : decode cX11_digest 305 = .ok (.iload_n 3, 1) := by decide +kernel
theorem dX11_digest_306 : decode cX11_digest 306 = .ok (.bipush 8, 2) := by decide +kernel
theorem dX11_digest_308 : decode cX11_digest 308 = .ok (.if_icmp .ge 76, 3) := by decide +kernel
theorem dX11_digest_311 : decode cX11_digest 311 = .ok (.ldc2_w 346, 3) := by decide +kernel
theorem dX11_digest_314 : decode cX11_digest 314 = .ok (.lload_n 1, 1) := by decide +kernel
theorem dX11_digest_315 : decode cX11_digest 315 = .ok (.lmul, 1) := by decide +kernel
theorem dX11_digest_316 : decode cX11_digest 316 = .ok (.aload_n 0, 1) := by decide +kernel
theorem dX11_digest_317 : decode cX11_digest 317 = .ok (.getfield 17, 3) := by decide +kernel
theorem dX11_digest_320 : decode cX11_digest 320 = .ok (.iload_n 3, 1) := by decide +kernel
theorem dX11_digest_321 : decode cX11_digest 321 = .ok (.iaload, 1) := by decide +kernel
theorem dX11_digest_322 : decode cX11_digest 322 = .ok (.ifCond .ge 7, 3) := by decide +kernel
theorem dX11_digest_325 : decode cX11_digest 325 = .ok (.iconst (-1), 1) := by decide +kernel
theorem dX11_digest_326 : decode cX11_digest 326 = .ok (.goto 9, 3) := by decide +kernel
theorem dX11_digest_329 : decode cX11_digest 329 = .ok (.aload_n 0, 1) := by decide +kernel
theorem dX11_digest_330 : decode cX11_digest 330 = .ok (.getfield 17, 3) := by decide +kernel
theorem dX11_digest_333 : decode cX11_digest 333 = .ok (.iload_n 3, 1) := by decide +kernel
theorem dX11_digest_334 : decode cX11_digest 334 = .ok (.iaload, 1) := by decide +kernel
theorem dX11_digest_335 : decode cX11_digest 335 = .ok (.i2l, 1) := by decide +kernel
theorem dX11_digest_336 : decode cX11_digest 336 = .ok (.ladd, 1) := by decide +kernel
theorem dX11_digest_337 : decode cX11_digest 337 = .ok (.lstore_n 1, 1) := by decide +kernel
theorem dX11_digest_338 : decode cX11_digest 338 = .ok (.iconst 0, 1) := by decide +kernel
theorem dX11_digest_339 : decode cX11_digest 339 = .ok (.istore 4, 2) := by decide +kernel
theorem dX11_digest_341 : decode cX11_digest 341 = .ok (.iload 4, 2) := by decide +kernel
theorem dX11_digest_343 : decode cX11_digest 343 = .ok (.aload_n 0, 1) := by decide +kernel
theorem dX11_digest_344 : decode cX11_digest 344 = .ok (.getfield 17, 3) := by decide +kernel
theorem dX11_digest_347 : decode cX11_digest 347 = .ok (.iload_n 3, 1) := by decide +kernel
theorem dX11_digest_348 : decode cX11_digest 348 = .ok (.iaload, 1) := by decide +kernel
theorem dX11_digest_349 : decode cX11_digest 349 = .ok (.if_icmp .ge 29, 3) := by decide +kernel
theorem dX11_digest_352 : decode cX11_digest 352 = .ok (.ldc2_w 346, 3) := by decide +kernel
theorem dX11_digest_355 : decode cX11_digest 355 = .ok (.lload_n 1, 1) := by decide +kernel
theorem dX11_digest_356 : decode cX11_digest 356 = .ok (.lmul, 1) := by decide +kernel
