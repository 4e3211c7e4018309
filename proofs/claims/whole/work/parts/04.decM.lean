theorem dX8_init_0 : decode cX8_init 0 = .ok (.aload_n 0, 1) := by decide +kernel
theorem dX8_init_1 : decode cX8_init 1 = .ok (.invokespecial 1, 3) := by decide +kernel
theorem dX8_init_4 : decode cX8_init 4 = .ok (.aload_n 0, 1) := by decide +kernel
theorem dX8_init_5 : decode cX8_init 5 = .ok (.bipush 16, 2) := by decide +kernel
theorem dX8_init_7 : decode cX8_init 7 = .ok (.newarray .int, 2) := by decide +kernel
theorem dX8_init_9 : decode cX8_init 9 = .ok (.putfield 9, 3) := by decide +kernel
theorem dX8_init_12 : decode cX8_init 12 = .ok (.aload_n 0, 1) := by decide +kernel
theorem dX8_init_13 : decode cX8_init 13 = .ok (.bipush 16, 2) := by decide +kernel
theorem dX8_init_15 : decode cX8_init 15 = .ok (.newarray .int, 2) := by decide +kernel
theorem dX8_init_17 : decode cX8_init 17 = .ok (.putfield 13, 3) := by decide +kernel
theorem dX8_init_20 : decode cX8_init 20 = .ok (.aload_n 0, 1) := by decide +kernel
theorem dX8_init_21 : decode cX8_init 21 = .ok (.sipush 128, 3) := by decide +kernel
theorem dX8_init_24 : decode cX8_init 24 = .ok (.newarray .int, 2) := by decide +kernel
theorem dX8_init_26 : decode cX8_init 26 = .ok (.putfield 16, 3) := by decide +kernel
theorem dX8_init_29 : decode cX8_init 29 = .ok (.aload_n 0, 1) := by decide +kernel
theorem dX8_init_30 : decode cX8_init 30 = .ok (.sipush 128, 3) := by decide +kernel
theorem dX8_init_33 : decode cX8_init 33 = .ok (.newarray .int, 2) := by decide +kernel
theorem dX8_init_35 : decode cX8_init 35 = .ok (.putfield 19, 3) := by decide +kernel
theorem dX8_init_38 : decode cX8_init 38 = .ok (.aload_n 0, 1) := by decide +kernel
theorem dX8_init_39 : decode cX8_init 39 = .ok (.sipush 128, 3) := by decide +kernel
theorem dX8_init_42 : decode cX8_init 42 = .ok (.newarray .int, 2) := by decide +kernel
theorem dX8_init_44 : decode cX8_init 44 = .ok (.putfield 22, 3) := by decide +kernel
theorem dX8_init_47 : decode cX8_init 47 = .ok (.aload_n 0, 1) := by decide +kernel
theorem dX8_init_48 : decode cX8_init 48 = .ok (.sipush 128, 3) := by decide +kernel
theorem dX8_init_51 : decode cX8_init 51 = .ok (.newarray .boolean, 2) := by decide +kernel
theorem dX8_init_53 : decode cX8_init 53 = .ok (.putfield 25, 3) := by decide +kernel
theorem dX8_init_56 : decode cX8_init 56 = .ok (.aload_n 0, 1) := by decide +kernel
theorem dX8_init_57 : decode cX8_init 57 = .ok (.bipush 16, 2) := by decide +kernel
theorem dX8_init_59 : decode cX8_init 59 = .ok (.newarray .int, 2) := by decide +kernel
theorem dX8_init_61 : decode cX8_init 61 = .ok (.putfield 29, 3) := by decide +kernel
theorem dX8_init_64 : decode cX8_init 64 = .ok (.aload_n 0, 1) := by decide +kernel
theorem dX8_init_65 : decode cX8_init 65 = .ok (.bipush 16, 2) := by decide +kernel
theorem dX8_init_67 : decode cX8_init 67 = .ok (.newarray .int, 2) := by decide +kernel
theorem dX8_init_69 : decode cX8_init 69 = .ok (.putfield 32, 3) := by decide +kernel
theorem dX8_init_72 : decode cX8_init 72 = .ok (.aload_n 0, 1) := by decide +kernel
theorem dX8_init_73 : decode cX8_init 73 = .ok (.bipush 16, 2) := by decide +kernel
theorem dX8_init_75 : decode cX8_init 75 = .ok (.newarray .int, 2) := by decide +kernel
theorem dX8_init_77 : decode cX8_init 77 = .ok (.putfield 35, 3) := by decide +kernel
theorem dX8_init_80 : decode cX8_init 80 = .ok (.aload_n 0, 1) := by decide +kernel
theorem dX8_init_81 : decode cX8_init 81 = .ok (.bipush 16, 2) := by decide +kernel
theorem dX8_init_83 : decode cX8_init 83 = .ok (.newarray .int, 2) := by decide +kernel
theorem dX8_init_85 : decode cX8_init 85 = .ok (.putfield 38, 3) := by decide +kernel
theorem dX8_init_88 : decode cX8_init 88 = .ok (.aload_n 0, 1) := by decide +kernel
theorem dX8_init_89 : decode cX8_init 89 = .ok (.bipush 16, 2) := by decide +kernel
theorem dX8_init_91 : decode cX8_init 91 = .ok (.newarray .int, 2) := by decide +kernel
theorem dX8_init_93 : decode cX8_init 93 = .ok (.putfield 41, 3) := by decide +kernel
theorem dX8_init_96 : decode cX8_init 96 = .ok (.aload_n 0, 1) := by decide +kernel
theorem dX8_init_97 : decode cX8_init 97 = .ok (.bipush 16, 2) := by decide +kernel
theorem dX8_init_99 : decode cX8_init 99 = .ok (.newarray .int, 2) := by decide +kernel
theorem dX8_init_101 : decode cX8_init 101 = .ok (.putfield 44, 3) := by decide +kernel
theorem dX8_init_104 : decode cX8_init 104 = .ok (.aload_n 0, 1) := by decide +kernel
theorem dX8_init_105 : decode cX8_init 105 = .ok (.bipush 16, 2) := by decide +kernel
theorem dX8_init_107 : decode cX8_init 107 = .ok (.newarray .int, 2) := by decide +kernel
theorem dX8_init_109 : decode cX8_init 109 = .ok (.putfield 47, 3) := by decide +kernel
theorem dX8_init_112 : decode cX8_init 112 = .ok (.aload_n 0, 1) := by decide +kernel
theorem dX8_init_113 : decode cX8_init 113 = .ok (.bipush 16, 2) := by decide +kernel
theorem dX8_init_115 : decode cX8_init 115 = .ok (.newarray .boolean, 2) := by decide +kernel
theorem dX8_init_117 : decode cX8_init 117 = .ok (.putfield 50, 3) := by decide +kernel
theorem dX8_init_120 : decode cX8_init 120 = .ok (.aload_n 0, 1) := by decide +kernel
theorem dX8_init_121 : decode cX8_init 121 = .ok (.bipush 16, 2) := by decide +kernel
theorem dX8_init_123 : decode cX8_init 123 = .ok (.newarray .int, 2) := by decide +kernel
theorem dX8_init_125 : decode cX8_init 125 = .ok (.putfield 53, 3) := by decide +kernel
theorem dX8_init_128 : decode cX8_init 128 = .ok (.aload_n 0, 1) := by decide +kernel
theorem dX8_init_129 : decode cX8_init 129 = .ok (.bipush 16, 2) := by decide +kernel
theorem dX8_init_131 : decode cX8_init 131 = .ok (.newarray .int, 2) := by decide +kernel
theorem dX8_init_133 : decode cX8_init 133 = .ok (.putfield 56, 3) := by decide +kernel
theorem dX8_init_136 : decode cX8_init 136 = .ok (.aload_n 0, 1) := by decide +kernel
theorem dX8_init_137 : decode cX8_init 137 = .ok (.bipush 16, 2) := by decide +kernel
theorem dX8_init_139 : decode cX8_init 139 = .ok (.newarray .int, 2) := by decide +kernel
theorem dX8_init_141 : decode cX8_init 141 = .ok (.putfield 59, 3) := by decide +kernel
theorem dX8_init_144 : decode cX8_init 144 = .ok (.aload_n 0, 1) := by decide +kernel
theorem dX8_init_145 : decode cX8_init 145 = .ok (.bipush 16, 2) := by decide +kernel
theorem dX8_init_147 : decode cX8_init 147 = .ok (.newarray .boolean, 2) := by decide +kernel
theorem dX8_init_149 : decode cX8_init 149 = .ok (.putfield 62, 3) := by decide +kernel
theorem dX8_init_152 : decode cX8_init 152 = .ok (.aload_n 0, 1) := by decide +kernel
theorem dX8_init_153 : decode cX8_init 153 = .ok (.bipush 16, 2) := by decide +kernel
theorem dX8_init_155 : decode cX8_init 155 = .ok (.newarray .boolean, 2) := by decide +kernel
theorem dX8_init_157 : decode cX8_init 157 = .ok (.putfield 65, 3) := by decide +kernel
theorem dX8_init_160 : decode cX8_init 160 = .ok (.aload_n 0, 1) := by decide +kernel
theorem dX8_init_161 : decode cX8_init 161 = .ok (.bipush 16, 2) := by decide +kernel
theorem dX8_init_163 : decode cX8_init 163 = .ok (.newarray .boolean, 2) := by decide +kernel
theorem dX8_init_165 : decode cX8_init 165 = .ok (.putfield 68, 3) := by decide +kernel
theorem dX8_init_168 : decode cX8_init 168 = .ok (.aload_n 0, 1) := by decide +kernel
theorem dX8_init_169 : decode cX8_init 169 = .ok (.bipush 16, 2) := by decide +kernel
theorem dX8_init_171 : decode cX8_init 171 = .ok (.newarray .int, 2) := by decide +kernel
theorem dX8_init_173 : decode cX8_init 173 = .ok (.putfield 71, 3) := by decide +kernel
theorem dX8_init_176 : decode cX8_init 176 = .ok (.aload_n 0, 1) := by decide +kernel
theorem dX8_init_177 : decode cX8_init 177 = .ok (.bipush 16, 2) := by decide +kernel
theorem dX8_init_179 : decode cX8_init 179 = .ok (.newarray .int, 2) := by decide +kernel
theorem dX8_init_181 : decode cX8_init 181 = .ok (.putfield 74, 3) := by decide +kernel
theorem dX8_init_184 : decode cX8_init 184 = .ok (.aload_n 0, 1) := by decide +kernel
theorem dX8_init_185 : decode cX8_init 185 = .ok (.bipush 16, 2) := by decide +kernel
theorem dX8_init_187 : decode cX8_init 187 = .ok (.newarray .int, 2) := by decide +kernel
theorem dX8_init_189 : decode cX8_init 189 = .ok (.putfield 77, 3) := by decide +kernel
theorem dX8_init_192 : decode cX8_init 192 = .ok (.aload_n 0, 1) := by decide +kernel
theorem dX8_init_193 : decode cX8_init 193 = .ok (.bipush 16, 2) := by decide +kernel
theorem dX8_init_195 : decode cX8_init 195 = .ok (.newarray .int, 2) := by decide +kernel
theorem dX8_init_197 : decode cX8_init 197 = .ok (.putfield 80, 3) := by decide +kernel
theorem dX8_init_200 : decode cX8_init 200 = .ok (.aload_n 0, 1) := by decide +kernel
theorem dX8_init_201 : decode cX8_init 201 = .ok (.sipush 130, 3) := by decide +kernel
theorem dX8_init_204 : decode cX8_init 204 = .ok (.newarray .int, 2) := by decide +kernel
theorem dX8_init_206 : decode cX8_init 206 = .ok (.putfield 83, 3) := by decide +kernel
theorem dX8_init_209 : decode cX8_init 209 = .ok (.aload_n 0, 1) := by decide +kernel
theorem dX8_init_210 : decode cX8_init 210 = .ok (.sipush 130, 3) := by decide +kernel
theorem dX8_init_213 : decode cX8_init 213 = .ok (.newarray .int, 2) := by decide +kernel
theorem dX8_init_215 : decode cX8_init 215 = .ok (.putfield 86, 3) := by decide +kernel
theorem dX8_init_218 : decode cX8_init 218 = .ok (.aload_n 0, 1) := by decide +kernel
theorem dX8_init_219 : decode cX8_init 219 = .ok (.sipush 130, 3) := by decide +kernel
theorem dX8_init_222 : decode cX8_init 222 = .ok (.newarray .int, 2) := by decide +kernel
theorem dX8_init_224 : decode cX8_init 224 = .ok (.putfield 89, 3) := by decide +kernel
theorem dX8_init_227 : decode cX8_init 227 = .ok (.aload_n 0, 1) := by decide +kernel
theorem dX8_init_228 : decode cX8_init 228 = .ok (.sipush 130, 3) := by decide +kernel
theorem dX8_init_231 : decode cX8_init 231 = .ok (.newarray .int, 2) := by decide +kernel
theorem dX8_init_233 : decode cX8_init 233 = .ok (.putfield 92, 3) := by decide +kernel
theorem dX8_init_236 : decode cX8_init 236 = .ok (.aload_n 0, 1) := by decide +kernel
theorem dX8_init_237 : decode cX8_init 237 = .ok (.sipush 130, 3) := by decide +kernel
theorem dX8_init_240 : decode cX8_init 240 = .ok (.newarray .int, 2) := by decide +kernel
theorem dX8_init_242 : decode cX8_init 242 = .ok (.putfield 95, 3) := by decide +kernel
theorem dX8_init_245 : decode cX8_init 245 = .ok (.aload_n 0, 1) := by decide +kernel
theorem dX8_init_246 : decode cX8_init 246 = .ok (.sipush 130, 3) := by decide +kernel
theorem dX8_init_249 : decode cX8_init 249 = .ok (.newarray .int, 2) := by decide +kernel
theorem dX8_init_251 : decode cX8_init 251 = .ok (.putfield 98, 3) := by decide +kernel
theorem dX8_init_254 : decode cX8_init 254 = .ok (.aload_n 0, 1) := by decide +kernel
theorem dX8_init_255 : decode cX8_init 255 = .ok (.sipush 1600, 3) := by decide +kernel
theorem dX8_init_258 : decode cX8_init 258 = .ok (.newarray .int, 2) := by decide +kernel
theorem dX8_init_260 : decode cX8_init 260 = .ok (.putfield 101, 3) := by decide +kernel
theorem dX8_init_263 : decode cX8_init 263 = .ok (.aload_n 0, 1) := by decide +kernel
theorem dX8_init_264 : decode cX8_init 264 = .ok (.sipush 16016, 3) := by decide +kernel
theorem dX8_init_267 : decode cX8_init 267 = .ok (.newarray .int, 2) := by decide +kernel
theorem dX8_init_269 : decode cX8_init 269 = .ok (.putfield 104, 3) := by decide +kernel
theorem dX8_init_272 : decode cX8_init 272 = .ok (.aload_n 0, 1) := by decide +kernel
theorem dX8_init_273 : decode cX8_init 273 = .ok (.sipush 16016, 3) := by decide +kernel
theorem dX8_init_276 : decode cX8_init 276 = .ok (.newarray .boolean, 2) := by decide +kernel
theorem dX8_init_278 : decode cX8_init 278 = .ok (.putfield 107, 3) := by decide +kernel
theorem dX8_init_281 : decode cX8_init 281 = .ok (.aload_n 0, 1) := by decide +kernel
theorem dX8_init_282 : decode cX8_init 282 = .ok (.iload_n 1, 1) := by decide +kernel
theorem dX8_init_283 : decode cX8_init 283 = .ok (.iconst 2, 1) := by decide +kernel
theorem dX8_init_284 : decode cX8_init 284 = .ok (.if_icmp .ge 7, 3) := by decide +kernel
theorem dX8_init_287 : decode cX8_init 287 = .ok (.iconst 2, 1) := by decide +kernel
theorem dX8_init_288 : decode cX8_init 288 = .ok (.goto 15, 3) := by decide +kernel
theorem dX8_init_291 : decode cX8_init 291 = .ok (.iload_n 1, 1) := by decide +kernel
theorem dX8_init_292 : decode cX8_init 292 = .ok (.bipush 16, 2) := by decide +kernel
theorem dX8_init_294 : decode cX8_init 294 = .ok (.if_icmp .le 8, 3) := by decide +kernel
theorem dX8_init_297 : decode cX8_init 297 = .ok (.bipush 16, 2) := by decide +kernel
theorem dX8_init_299 : decode cX8_init 299 = .ok (.goto 4, 3) := by decide +kernel
theorem dX8_init_302 : decode cX8_init 302 = .ok (.iload_n 1, 1) := by decide +kernel
theorem dX8_init_303 : decode cX8_init 303 = .ok (.putfield 110, 3) := by decide +kernel
theorem dX8_init_306 : decode cX8_init 306 = .ok (.return_, 1) := by decide +kernel
theorem dX8_isOne_0 : decode cX8_isOne 0 = .ok (.iload_n 1, 1) := by decide +kernel
theorem dX8_isOne_1 : decode cX8_isOne 1 = .ok (.ifCond .lt 15, 3) := by decide +kernel
theorem dX8_isOne_4 : decode cX8_isOne 4 = .ok (.iload_n 1, 1) := by decide +kernel
theorem dX8_isOne_5 : decode cX8_isOne 5 = .ok (.aload_n 0, 1) := by decide +kernel
theorem dX8_isOne_6 : decode cX8_isOne 6 = .ok (.getfield 110, 3) := by decide +kernel
theorem dX8_isOne_9 : decode cX8_isOne 9 = .ok (.if_icmp .ge 7, 3) := by decide +kernel
theorem dX8_isOne_12 : decode cX8_isOne 12 = .ok (.iconst 1, 1) := by decide +kernel
theorem dX8_isOne_13 : decode cX8_isOne 13 = .ok (.goto 4, 3) := by decide +kernel
theorem dX8_isOne_16 : decode cX8_isOne 16 = .ok (.iconst 0, 1) := by decide +kernel
theorem dX8_isOne_17 : decode cX8_isOne 17 = .ok (.ireturn, 1) := by decide +kernel
theorem dX8_isIn_0 : decode cX8_isIn 0 = .ok (.aload_n 0, 1) := by decide +kernel
theorem dX8_isIn_1 : decode cX8_isIn 1 = .ok (.iload_n 1, 1) := by decide +kernel
theorem dX8_isIn_2 : decode cX8_isIn 2 = .ok (.invokevirtual 114, 3) := by decide +kernel
theorem dX8_isIn_5 : decode cX8_isIn 5 = .ok (.ifCond .eq 17, 3) := by decide +kernel
theorem dX8_isIn_8 : decode cX8_isIn 8 = .ok (.aload_n 0, 1) := by decide +kernel
theorem dX8_isIn_9 : decode cX8_isIn 9 = .ok (.getfield 9, 3) := by decide +kernel
theorem dX8_isIn_12 : decode cX8_isIn 12 = .ok (.iload_n 1, 1) := by decide +kernel
theorem dX8_isIn_13 : decode cX8_isIn 13 = .ok (.iaload, 1) := by decide +kernel
theorem dX8_isIn_14 : decode cX8_isIn 14 = .ok (.iload_n 2, 1) := by decide +kernel
theorem dX8_isIn_15 : decode cX8_isIn 15 = .ok (.if_icmp .ne 7, 3) := by decide +kernel
theorem dX8_isIn_18 : decode cX8_isIn 18 = .ok (.iconst 1, 1) := by decide +kernel
theorem dX8_isIn_19 : decode cX8_isIn 19 = .ok (.goto 4, 3) := by decide +kernel
theorem dX8_isIn_22 : decode cX8_isIn 22 = .ok (.iconst 0, 1) := by decide +kernel
theorem dX8_isIn_23 : decode cX8_isIn 23 = .ok (.ireturn, 1) := by decide +kernel
theorem dX8_isOffering_0 : decode cX8_isOffering 0 = .ok (.aload_n 0, 1) := by decide +kernel
theorem dX8_isOffering_1 : decode cX8_isOffering 1 = .ok (.iload_n 1, 1) := by decide +kernel
theorem dX8_isOffering_2 : decode cX8_isOffering 2 = .ok (.invokevirtual 114, 3) := by decide +kernel
theorem dX8_isOffering_5 : decode cX8_isOffering 5 = .ok (.ifCond .eq 28, 3) := by decide +kernel
theorem dX8_isOffering_8 : decode cX8_isOffering 8 = .ok (.aload_n 0, 1) := by decide +kernel
theorem dX8_isOffering_9 : decode cX8_isOffering 9 = .ok (.getfield 9, 3) := by decide +kernel
theorem dX8_isOffering_12 : decode cX8_isOffering 12 = .ok (.iload_n 1, 1) := by decide +kernel
theorem dX8_isOffering_13 : decode cX8_isOffering 13 = .ok (.iaload, 1) := by decide +kernel
theorem dX8_isOffering_14 : decode cX8_isOffering 14 = .ok (.iconst 2, 1) := by decide +kernel
theorem dX8_isOffering_15 : decode cX8_isOffering 15 = .ok (.if_icmp .lt 18, 3) := by decide +kernel
theorem dX8_isOffering_18 : decode cX8_isOffering 18 = .ok (.aload_n 0, 1) := by decide +kernel
theorem dX8_isOffering_19 : decode cX8_isOffering 19 = .ok (.getfield 9, 3) := by decide +kernel
theorem dX8_isOffering_22 : decode cX8_isOffering 22 = .ok (.iload_n 1, 1) := by decide +kernel
theorem dX8_isOffering_23 : decode cX8_isOffering 23 = .ok (.iaload, 1) := by decide +kernel
theorem dX8_isOffering_24 : decode cX8_isOffering 24 = .ok (.bipush 11, 2) := by decide +kernel
theorem dX8_isOffering_26 : decode cX8_isOffering 26 = .ok (.if_icmp .gt 7, 3) := by decide +kernel
theorem dX8_isOffering_29 : decode cX8_isOffering 29 = .ok (.iconst 1, 1) := by decide +kernel
theorem dX8_isOffering_30 : decode cX8_isOffering 30 = .ok (.goto 4, 3) := by decide +kernel
theorem dX8_isOffering_33 : decode cX8_isOffering 33 = .ok (.iconst 0, 1) := by decide +kernel
theorem dX8_isOffering_34 : decode cX8_isOffering 34 = .ok (.ireturn, 1) := by decide +kernel
theorem dX8_empties_0 : decode cX8_empties 0 = .ok (.aload_n 0, 1) := by decide +kernel
theorem dX8_empties_1 : decode cX8_empties 1 = .ok (.getfield 9, 3) := by decide +kernel
theorem dX8_empties_4 : decode cX8_empties 4 = .ok (.iload_n 1, 1) := by decide +kernel
theorem dX8_empties_5 : decode cX8_empties 5 = .ok (.iconst 1, 1) := by decide +kernel
theorem dX8_empties_6 : decode cX8_empties 6 = .ok (.iastore, 1) := by decide +kernel
theorem dX8_empties_7 : decode cX8_empties 7 = .ok (.aload_n 0, 1) := by decide +kernel
theorem dX8_empties_8 : decode cX8_empties 8 = .ok (.getfield 13, 3) := by decide +kernel
theorem dX8_empties_11 : decode cX8_empties 11 = .ok (.iload_n 1, 1) := by decide +kernel
theorem dX8_empties_12 : decode cX8_empties 12 = .ok (.iconst 0, 1) := by decide +kernel
theorem dX8_empties_13 : decode cX8_empties 13 = .ok (.iastore, 1) := by decide +kernel
theorem dX8_empties_14 : decode cX8_empties 14 = .ok (.aload_n 0, 1) := by decide +kernel
theorem dX8_empties_15 : decode cX8_empties 15 = .ok (.getfield 29, 3) := by decide +kernel
theorem dX8_empties_18 : decode cX8_empties 18 = .ok (.iload_n 1, 1) := by decide +kernel
theorem dX8_empties_19 : decode cX8_empties 19 = .ok (.iconst 0, 1) := by decide +kernel
theorem dX8_empties_20 : decode cX8_empties 20 = .ok (.iastore, 1) := by decide +kernel
theorem dX8_empties_21 : decode cX8_empties 21 = .ok (.return_, 1) := by decide +kernel
theorem dX8_spawn_0 : decode cX8_spawn 0 = .ok (.aload_n 0, 1) := by decide +kernel
theorem dX8_spawn_1 : decode cX8_spawn 1 = .ok (.iload_n 1, 1) := by decide +kernel
theorem dX8_spawn_2 : decode cX8_spawn 2 = .ok (.iconst 0, 1) := by decide +kernel
theorem dX8_spawn_3 : decode cX8_spawn 3 = .ok (.invokevirtual 118, 3) := by decide +kernel
theorem dX8_spawn_6 : decode cX8_spawn 6 = .ok (.ifCond .ne 5, 3) := by decide +kernel
theorem dX8_spawn_9 : decode cX8_spawn 9 = .ok (.iconst 0, 1) := by decide +kernel
theorem dX8_spawn_10 : decode cX8_spawn 10 = .ok (.ireturn, 1) := by decide +kernel
theorem dX8_spawn_11 : decode cX8_spawn 11 = .ok (.aload_n 0, 1) := by decide +kernel
theorem dX8_spawn_12 : decode cX8_spawn 12 = .ok (.iload_n 1, 1) := by decide +kernel
theorem dX8_spawn_13 : decode cX8_spawn 13 = .ok (.invokevirtual 122, 3) := by decide +kernel
theorem dX8_spawn_16 : decode cX8_spawn 16 = .ok (.iconst 1, 1) := by decide +kernel
theorem dX8_spawn_17 : decode cX8_spawn 17 = .ok (.ireturn, 1) := by decide +kernel
theorem dX8_quit_0 : decode cX8_quit 0 = .ok (.aload_n 0, 1) := by decide +kernel
theorem dX8_quit_1 : decode cX8_quit 1 = .ok (.iload_n 1, 1) := by decide +kernel
theorem dX8_quit_2 : decode cX8_quit 2 = .ok (.iconst 1, 1) := by decide +kernel
theorem dX8_quit_3 : decode cX8_quit 3 = .ok (.invokevirtual 118, 3) := by decide +kernel
theorem dX8_quit_6 : decode cX8_quit 6 = .ok (.ifCond .ne 5, 3) := by decide +kernel
theorem dX8_quit_9 : decode cX8_quit 9 = .ok (.iconst 0, 1) := by decide +kernel
theorem dX8_quit_10 : decode cX8_quit 10 = .ok (.ireturn, 1) := by decide +kernel
theorem dX8_quit_11 : decode cX8_quit 11 = .ok (.aload_n 0, 1) := by decide +kernel
theorem dX8_quit_12 : decode cX8_quit 12 = .ok (.getfield 9, 3) := by decide +kernel
theorem dX8_quit_15 : decode cX8_quit 15 = .ok (.iload_n 1, 1) := by decide +kernel
theorem dX8_quit_16 : decode cX8_quit 16 = .ok (.iconst 0, 1) := by decide +kernel
theorem dX8_quit_17 : decode cX8_quit 17 = .ok (.iastore, 1) := by decide +kernel
theorem dX8_quit_18 : decode cX8_quit 18 = .ok (.iconst 1, 1) := by decide +kernel
theorem dX8_quit_19 : decode cX8_quit 19 = .ok (.ireturn, 1) := by decide +kernel
theorem dX8_guard_0 : decode cX8_guard 0 = .ok (.aload_n 0, 1) := by decide +kernel
theorem dX8_guard_1 : decode cX8_guard 1 = .ok (.iload_n 1, 1) := by decide +kernel
theorem dX8_guard_2 : decode cX8_guard 2 = .ok (.iconst 1, 1) := by decide +kernel
theorem dX8_guard_3 : decode cX8_guard 3 = .ok (.invokevirtual 118, 3) := by decide +kernel
theorem dX8_guard_6 : decode cX8_guard 6 = .ok (.ifCond .eq 33, 3) := by decide +kernel
theorem dX8_guard_9 : decode cX8_guard 9 = .ok (.iload_n 2, 1) := by decide +kernel
theorem dX8_guard_10 : decode cX8_guard 10 = .ok (.ifCond .lt 29, 3) := by decide +kernel
theorem dX8_guard_13 : decode cX8_guard 13 = .ok (.iload_n 2, 1) := by decide +kernel
theorem dX8_guard_14 : decode cX8_guard 14 = .ok (.iconst 1, 1) := by decide +kernel
theorem dX8_guard_15 : decode cX8_guard 15 = .ok (.if_icmp .gt 24, 3) := by decide +kernel
theorem dX8_guard_18 : decode cX8_guard 18 = .ok (.iload_n 3, 1) := by decide +kernel
theorem dX8_guard_19 : decode cX8_guard 19 = .ok (.ifCond .lt 20, 3) := by decide +kernel
theorem dX8_guard_22 : decode cX8_guard 22 = .ok (.iload_n 3, 1) := by decide +kernel
theorem dX8_guard_23 : decode cX8_guard 23 = .ok (.bipush 8, 2) := by decide +kernel
theorem dX8_guard_25 : decode cX8_guard 25 = .ok (.if_icmp .ge 14, 3) := by decide +kernel
theorem dX8_guard_28 : decode cX8_guard 28 = .ok (.aload_n 0, 1) := by decide +kernel
theorem dX8_guard_29 : decode cX8_guard 29 = .ok (.getfield 13, 3) := by decide +kernel
theorem dX8_guard_32 : decode cX8_guard 32 = .ok (.iload_n 1, 1) := by decide +kernel
theorem dX8_guard_33 : decode cX8_guard 33 = .ok (.iaload, 1) := by decide +kernel
theorem dX8_guard_34 : decode cX8_guard 34 = .ok (.bipush 8, 2) := by decide +kernel
theorem dX8_guard_36 : decode cX8_guard 36 = .ok (.if_icmp .ne 5, 3) := by decide +kernel
theorem dX8_guard_39 : decode cX8_guard 39 = .ok (.iconst 0, 1) := by decide +kernel
theorem dX8_guard_40 : decode cX8_guard 40 = .ok (.ireturn, 1) := by decide +kernel
theorem dX8_guard_41 : decode cX8_guard 41 = .ok (.bipush 8, 2) := by decide +kernel
theorem dX8_guard_43 : decode cX8_guard 43 = .ok (.iload_n 1, 1) := by decide +kernel
theorem dX8_guard_44 : decode cX8_guard 44 = .ok (.imul, 1) := by decide +kernel
theorem dX8_guard_45 : decode cX8_guard 45 = .ok (.aload_n 0, 1) := by decide +kernel
theorem dX8_guard_46 : decode cX8_guard 46 = .ok (.getfield 13, 3) := by decide +kernel
theorem dX8_guard_49 : decode cX8_guard 49 = .ok (.iload_n 1, 1) := by decide +kernel
theorem dX8_guard_50 : decode cX8_guard 50 = .ok (.iaload, 1) := by decide +kernel
theorem dX8_guard_51 : decode cX8_guard 51 = .ok (.iadd, 1) := by decide +kernel
theorem dX8_guard_52 : decode cX8_guard 52 = .ok (.istore 6, 2) := by decide +kernel
theorem dX8_guard_54 : decode cX8_guard 54 = .ok (.aload_n 0, 1) := by decide +kernel
theorem dX8_guard_55 : decode cX8_guard 55 = .ok (.getfield 16, 3) := by decide +kernel
theorem dX8_guard_58 : decode cX8_guard 58 = .ok (.iload 6, 2) := by decide +kernel
theorem dX8_guard_60 : decode cX8_guard 60 = .ok (.iload_n 2, 1) := by decide +kernel
theorem dX8_guard_61 : decode cX8_guard 61 = .ok (.iastore, 1) := by decide +kernel
theorem dX8_guard_62 : decode cX8_guard 62 = .ok (.aload_n 0, 1) := by decide +kernel
theorem dX8_guard_63 : decode cX8_guard 63 = .ok (.getfield 19, 3) := by decide +kernel
theorem dX8_guard_66 : decode cX8_guard 66 = .ok (.iload 6, 2) := by decide +kernel
theorem dX8_guard_68 : decode cX8_guard 68 = .ok (.iload_n 3, 1) := by decide +kernel
theorem dX8_guard_69 : decode cX8_guard 69 = .ok (.iastore, 1) := by decide +kernel
theorem dX8_guard_70 : decode cX8_guard 70 = .ok (.aload_n 0, 1) := by decide +kernel
theorem dX8_guard_71 : decode cX8_guard 71 = .ok (.getfield 22, 3) := by decide +kernel
theorem dX8_guard_74 : decode cX8_guard 74 = .ok (.iload 6, 2) := by decide +kernel
theorem dX8_guard_76 : decode cX8_guard 76 = .ok (.iload 4, 2) := by decide +kernel
theorem dX8_guard_78 : decode cX8_guard 78 = .ok (.iastore, 1) := by decide +kernel
theorem dX8_guard_79 : decode cX8_guard 79 = .ok (.aload_n 0, 1) := by decide +kernel
theorem dX8_guard_80 : decode cX8_guard 80 = .ok (.getfield 25, 3) := by decide +kernel
theorem dX8_guard_83 : decode cX8_guard 83 = .ok (.iload 6, 2) := by decide +kernel
theorem dX8_guard_85 : decode cX8_guard 85 = .ok (.iload 5, 2) := by decide +kernel
theorem dX8_guard_87 : decode cX8_guard 87 = .ok (.bastore, 1) := by decide +kernel
theorem dX8_guard_88 : decode cX8_guard 88 = .ok (.aload_n 0, 1) := by decide +kernel
theorem dX8_guard_89 : decode cX8_guard 89 = .ok (.getfield 13, 3) := by decide +kernel
theorem dX8_guard_92 : decode cX8_guard 92 = .ok (.iload_n 1, 1) := by decide +kernel
theorem dX8_guard_93 : decode cX8_guard 93 = .ok (.dup2, 1) := by decide +kernel
theorem dX8_guard_94 : decode cX8_guard 94 = .ok (.iaload, 1) := by decide +kernel
theorem dX8_guard_95 : decode cX8_guard 95 = .ok (.iconst 1, 1) := by decide +kernel
theorem dX8_guard_96 : decode cX8_guard 96 = .ok (.iadd, 1) := by decide +kernel
theorem dX8_guard_97 : decode cX8_guard 97 = .ok (.iastore, 1) := by decide +kernel
theorem dX8_guard_98 : decode cX8_guard 98 = .ok (.iconst 1, 1) := by decide +kernel
theorem dX8_guard_99 : decode cX8_guard 99 = .ok (.ireturn, 1) := by decide +kernel
theorem dX8_timeout_0 : decode cX8_timeout 0 = .ok (.aload_n 0, 1) := by decide +kernel
theorem dX8_timeout_1 : decode cX8_timeout 1 = .ok (.iload_n 1, 1) := by decide +kernel
theorem dX8_timeout_2 : decode cX8_timeout 2 = .ok (.iconst 1, 1) := by decide +kernel
theorem dX8_timeout_3 : decode cX8_timeout 3 = .ok (.invokevirtual 118, 3) := by decide +kernel
theorem dX8_timeout_6 : decode cX8_timeout 6 = .ok (.ifCond .eq 14, 3) := by decide +kernel
theorem dX8_timeout_9 : decode cX8_timeout 9 = .ok (.iload_n 2, 1) := by decide +kernel
theorem dX8_timeout_10 : decode cX8_timeout 10 = .ok (.ifCond .lt 10, 3) := by decide +kernel
theorem dX8_timeout_13 : decode cX8_timeout 13 = .ok (.iload_n 2, 1) := by decide +kernel
theorem dX8_timeout_14 : decode cX8_timeout 14 = .ok (.sipush 1000, 3) := by decide +kernel
theorem dX8_timeout_17 : decode cX8_timeout 17 = .ok (.if_icmp .le 5, 3) := by decide +kernel
theorem dX8_timeout_20 : decode cX8_timeout 20 = .ok (.iconst 0, 1) := by decide +kernel
theorem dX8_timeout_21 : decode cX8_timeout 21 = .ok (.ireturn, 1) := by decide +kernel
theorem dX8_timeout_22 : decode cX8_timeout 22 = .ok (.aload_n 0, 1) := by decide +kernel
theorem dX8_timeout_23 : decode cX8_timeout 23 = .ok (.getfield 29, 3) := by decide +kernel
theorem dX8_timeout_26 : decode cX8_timeout 26 = .ok (.iload_n 1, 1) := by decide +kernel
theorem dX8_timeout_27 : decode cX8_timeout 27 = .ok (.iload_n 2, 1) := by decide +kernel
theorem dX8_timeout_28 : decode cX8_timeout 28 = .ok (.iastore, 1) := by decide +kernel
theorem dX8_timeout_29 : decode cX8_timeout 29 = .ok (.iconst 1, 1) := by decide +kernel
theorem dX8_timeout_30 : decode cX8_timeout 30 = .ok (.ireturn, 1) := by decide +kernel
theorem dX8_onBehind_0 : decode cX8_onBehind 0 = .ok (.iload_n 2, 1) := by decide +kernel
theorem dX8_onBehind_1 : decode cX8_onBehind 1 = .ok (.iconst 1, 1) := by decide +kernel
theorem dX8_onBehind_2 : decode cX8_onBehind 2 = .ok (.iadd, 1) := by decide +kernel
theorem dX8_onBehind_3 : decode cX8_onBehind 3 = .ok (.istore_n 3, 1) := by decide +kernel
theorem dX8_onBehind_4 : decode cX8_onBehind 4 = .ok (.iload_n 3, 1) := by decide +kernel
theorem dX8_onBehind_5 : decode cX8_onBehind 5 = .ok (.aload_n 0, 1) := by decide +kernel
theorem dX8_onBehind_6 : decode cX8_onBehind 6 = .ok (.getfield 13, 3) := by decide +kernel
theorem dX8_onBehind_9 : decode cX8_onBehind 9 = .ok (.iload_n 1, 1) := by decide +kernel
theorem dX8_onBehind_10 : decode cX8_onBehind 10 = .ok (.iaload, 1) := by decide +kernel
theorem dX8_onBehind_11 : decode cX8_onBehind 11 = .ok (.if_icmp .ge 23, 3) := by decide +kernel
theorem dX8_onBehind_14 : decode cX8_onBehind 14 = .ok (.aload_n 0, 1) := by decide +kernel
theorem dX8_onBehind_15 : decode cX8_onBehind 15 = .ok (.getfield 25, 3) := by decide +kernel
theorem dX8_onBehind_18 : decode cX8_onBehind 18 = .ok (.bipush 8, 2) := by decide +kernel
theorem dX8_onBehind_20 : decode cX8_onBehind 20 = .ok (.iload_n 1, 1) := by decide +kernel
theorem dX8_onBehind_21 : decode cX8_onBehind 21 = .ok (.imul, 1) := by decide +kernel
theorem dX8_onBehind_22 : decode cX8_onBehind 22 = .ok (.iload_n 3, 1) := by decide +kernel
theorem dX8_onBehind_23 : decode cX8_onBehind 23 = .ok (.iadd, 1) := by decide +kernel
theorem dX8_onBehind_24 : decode cX8_onBehind 24 = .ok (.baload, 1) := by decide +kernel
theorem dX8_onBehind_25 : decode cX8_onBehind 25 = .ok (.ifCond .ne 9, 3) := by decide +kernel
theorem dX8_onBehind_28 : decode cX8_onBehind 28 = .ok (.iinc 3 1, 3) := by decide +kernel
theorem dX8_onBehind_31 : decode cX8_onBehind 31 = .ok (.goto (-27), 3) := by decide +kernel
theorem dX8_onBehind_34 : decode cX8_onBehind 34 = .ok (.iload_n 3, 1) := by decide +kernel
theorem dX8_onBehind_35 : decode cX8_onBehind 35 = .ok (.aload_n 0, 1) := by decide +kernel
theorem dX8_onBehind_36 : decode cX8_onBehind 36 = .ok (.getfield 13, 3) := by decide +kernel
theorem dX8_onBehind_39 : decode cX8_onBehind 39 = .ok (.iload_n 1, 1) := by decide +kernel
theorem dX8_onBehind_40 : decode cX8_onBehind 40 = .ok (.iaload, 1) := by decide +kernel
theorem dX8_onBehind_41 : decode cX8_onBehind 41 = .ok (.if_icmp .ge 7, 3) := by decide +kernel
theorem dX8_onBehind_44 : decode cX8_onBehind 44 = .ok (.iload_n 3, 1) := by decide +kernel
theorem dX8_onBehind_45 : decode cX8_onBehind 45 = .ok (.goto 4, 3) := by decide +kernel
theorem dX8_onBehind_48 : decode cX8_onBehind 48 = .ok (.iconst (-1), 1) := by decide +kernel
theorem dX8_onBehind_49 : decode cX8_onBehind 49 = .ok (.ireturn, 1) := by decide +kernel
theorem dX8_offer_0 : decode cX8_offer 0 = .ok (.aload_n 0, 1) := by decide +kernel
theorem dX8_offer_1 : decode cX8_offer 1 = .ok (.iload_n 1, 1) := by decide +kernel
theorem dX8_offer_2 : decode cX8_offer 2 = .ok (.iconst 1, 1) := by decide +kernel
theorem dX8_offer_3 : decode cX8_offer 3 = .ok (.invokevirtual 118, 3) := by decide +kernel
theorem dX8_offer_6 : decode cX8_offer 6 = .ok (.ifCond .eq 15, 3) := by decide +kernel
theorem dX8_offer_9 : decode cX8_offer 9 = .ok (.aload_n 0, 1) := by decide +kernel
theorem dX8_offer_10 : decode cX8_offer 10 = .ok (.getfield 38, 3) := by decide +kernel
theorem dX8_offer_13 : decode cX8_offer 13 = .ok (.iload_n 1, 1) := by decide +kernel
theorem dX8_offer_14 : decode cX8_offer 14 = .ok (.iaload, 1) := by decide +kernel
theorem dX8_offer_15 : decode cX8_offer 15 = .ok (.sipush 1000, 3) := by decide +kernel
theorem dX8_offer_18 : decode cX8_offer 18 = .ok (.if_icmp .ne 5, 3) := by decide +kernel
theorem dX8_offer_21 : decode cX8_offer 21 = .ok (.iconst 0, 1) := by decide +kernel
theorem dX8_offer_22 : decode cX8_offer 22 = .ok (.ireturn, 1) := by decide +kernel
theorem dX8_offer_23 : decode cX8_offer 23 = .ok (.aload_n 0, 1) := by decide +kernel
theorem dX8_offer_24 : decode cX8_offer 24 = .ok (.getfield 38, 3) := by decide +kernel
theorem dX8_offer_27 : decode cX8_offer 27 = .ok (.iload_n 1, 1) := by decide +kernel
theorem dX8_offer_28 : decode cX8_offer 28 = .ok (.dup2, 1) := by decide +kernel
theorem dX8_offer_29 : decode cX8_offer 29 = .ok (.iaload, 1) := by decide +kernel
theorem dX8_offer_30 : decode cX8_offer 30 = .ok (.iconst 1, 1) := by decide +kernel
theorem dX8_offer_31 : decode cX8_offer 31 = .ok (.iadd, 1) := by decide +kernel
theorem dX8_offer_32 : decode cX8_offer 32 = .ok (.iastore, 1) := by decide +kernel
theorem dX8_offer_33 : decode cX8_offer 33 = .ok (.aload_n 0, 1) := by decide +kernel
theorem dX8_offer_34 : decode cX8_offer 34 = .ok (.getfield 35, 3) := by decide +kernel
theorem dX8_offer_37 : decode cX8_offer 37 = .ok (.iload_n 1, 1) := by decide +kernel
theorem dX8_offer_38 : decode cX8_offer 38 = .ok (.iconst 1, 1) := by decide +kernel
theorem dX8_offer_39 : decode cX8_offer 39 = .ok (.iastore, 1) := by decide +kernel
theorem dX8_offer_40 : decode cX8_offer 40 = .ok (.aload_n 0, 1) := by decide +kernel
theorem dX8_offer_41 : decode cX8_offer 41 = .ok (.getfield 50, 3) := by decide +kernel
theorem dX8_offer_44 : decode cX8_offer 44 = .ok (.iload_n 1, 1) := by decide +kernel
theorem dX8_offer_45 : decode cX8_offer 45 = .ok (.iconst 0, 1) := by decide +kernel
theorem dX8_offer_46 : decode cX8_offer 46 = .ok (.bastore, 1) := by decide +kernel
theorem dX8_offer_47 : decode cX8_offer 47 = .ok (.aload_n 0, 1) := by decide +kernel
theorem dX8_offer_48 : decode cX8_offer 48 = .ok (.getfield 65, 3) := by decide +kernel
theorem dX8_offer_51 : decode cX8_offer 51 = .ok (.iload_n 1, 1) := by decide +kernel
theorem dX8_offer_52 : decode cX8_offer 52 = .ok (.iconst 0, 1) := by decide +kernel
theorem dX8_offer_53 : decode cX8_offer 53 = .ok (.bastore, 1) := by decide +kernel
theorem dX8_offer_54 : decode cX8_offer 54 = .ok (.aload_n 0, 1) := by decide +kernel
theorem dX8_offer_55 : decode cX8_offer 55 = .ok (.getfield 62, 3) := by decide +kernel
theorem dX8_offer_58 : decode cX8_offer 58 = .ok (.iload_n 1, 1) := by decide +kernel
theorem dX8_offer_59 : decode cX8_offer 59 = .ok (.iconst 0, 1) := by decide +kernel
theorem dX8_offer_60 : decode cX8_offer 60 = .ok (.bastore, 1) := by decide +kernel
theorem dX8_offer_61 : decode cX8_offer 61 = .ok (.aload_n 0, 1) := by decide +kernel
theorem dX8_offer_62 : decode cX8_offer 62 = .ok (.getfield 44, 3) := by decide +kernel
theorem dX8_offer_65 : decode cX8_offer 65 = .ok (.iload_n 1, 1) := by decide +kernel
theorem dX8_offer_66 : decode cX8_offer 66 = .ok (.aload_n 0, 1) := by decide +kernel
theorem dX8_offer_67 : decode cX8_offer 67 = .ok (.iload_n 1, 1) := by decide +kernel
theorem dX8_offer_68 : decode cX8_offer 68 = .ok (.iconst (-1), 1) := by decide +kernel
theorem dX8_offer_69 : decode cX8_offer 69 = .ok (.invokevirtual 126, 3) := by decide +kernel
theorem dX8_offer_72 : decode cX8_offer 72 = .ok (.iastore, 1) := by decide +kernel
theorem dX8_offer_73 : decode cX8_offer 73 = .ok (.aload_n 0, 1) := by decide +kernel
theorem dX8_offer_74 : decode cX8_offer 74 = .ok (.getfield 9, 3) := by decide +kernel
theorem dX8_offer_77 : decode cX8_offer 77 = .ok (.iload_n 1, 1) := by decide +kernel
theorem dX8_offer_78 : decode cX8_offer 78 = .ok (.aload_n 0, 1) := by decide +kernel
theorem dX8_offer_79 : decode cX8_offer 79 = .ok (.getfield 44, 3) := by decide +kernel
theorem dX8_offer_82 : decode cX8_offer 82 = .ok (.iload_n 1, 1) := by decide +kernel
theorem dX8_offer_83 : decode cX8_offer 83 = .ok (.iaload, 1) := by decide +kernel
theorem dX8_offer_84 : decode cX8_offer 84 = .ok (.iconst (-1), 1) := by decide +kernel
theorem dX8_offer_85 : decode cX8_offer 85 = .ok (.if_icmp .ne 8, 3) := by decide +kernel
theorem dX8_offer_88 : decode cX8_offer 88 = .ok (.bipush 9, 2) := by decide +kernel
theorem dX8_offer_90 : decode cX8_offer 90 = .ok (.goto 4, 3) := by decide +kernel
theorem dX8_offer_93 : decode cX8_offer 93 = .ok (.iconst 2, 1) := by decide +kernel
theorem dX8_offer_94 : decode cX8_offer 94 = .ok (.iastore, 1) := by decide +kernel
theorem dX8_offer_95 : decode cX8_offer 95 = .ok (.aload_n 0, 1) := by decide +kernel
theorem dX8_offer_96 : decode cX8_offer 96 = .ok (.getfield 32, 3) := by decide +kernel
theorem dX8_offer_99 : decode cX8_offer 99 = .ok (.iload_n 1, 1) := by decide +kernel
theorem dX8_offer_100 : decode cX8_offer 100 = .ok (.aload_n 0, 1) := by decide +kernel
theorem dX8_offer_101 : decode cX8_offer 101 = .ok (.getfield 29, 3) := by decide +kernel
theorem dX8_offer_104 : decode cX8_offer 104 = .ok (.iload_n 1, 1) := by decide +kernel
theorem dX8_offer_105 : decode cX8_offer 105 = .ok (.iaload, 1) := by decide +kernel
theorem dX8_offer_106 : decode cX8_offer 106 = .ok (.ifCond .le 17, 3) := by decide +kernel
theorem dX8_offer_109 : decode cX8_offer 109 = .ok (.aload_n 0, 1) := by decide +kernel
theorem dX8_offer_110 : decode cX8_offer 110 = .ok (.getfield 130, 3) := by decide +kernel
theorem dX8_offer_113 : decode cX8_offer 113 = .ok (.aload_n 0, 1) := by decide +kernel
theorem dX8_offer_114 : decode cX8_offer 114 = .ok (.getfield 29, 3) := by decide +kernel
theorem dX8_offer_117 : decode cX8_offer 117 = .ok (.iload_n 1, 1) := by decide +kernel
theorem dX8_offer_118 : decode cX8_offer 118 = .ok (.iaload, 1) := by decide +kernel
theorem dX8_offer_119 : decode cX8_offer 119 = .ok (.iadd, 1) := by decide +kernel
theorem dX8_offer_120 : decode cX8_offer 120 = .ok (.goto 4, 3) := by decide +kernel
theorem dX8_offer_123 : decode cX8_offer 123 = .ok (.iconst (-1), 1) := by decide +kernel
theorem dX8_offer_124 : decode cX8_offer 124 = .ok (.iastore, 1) := by decide +kernel
theorem dX8_offer_125 : decode cX8_offer 125 = .ok (.iconst 1, 1) := by decide +kernel
theorem dX8_offer_126 : decode cX8_offer 126 = .ok (.ireturn, 1) := by decide +kernel
theorem dX8_publishes_0 : decode cX8_publishes 0 = .ok (.bipush 8, 2) := by decide +kernel
theorem dX8_publishes_2 : decode cX8_publishes 2 = .ok (.iload_n 1, 1) := by decide +kernel
theorem dX8_publishes_3 : decode cX8_publishes 3 = .ok (.imul, 1) := by decide +kernel
theorem dX8_publishes_4 : decode cX8_publishes 4 = .ok (.aload_n 0, 1) := by decide +kernel
theorem dX8_publishes_5 : decode cX8_publishes 5 = .ok (.getfield 44, 3) := by decide +kernel
theorem dX8_publishes_8 : decode cX8_publishes 8 = .ok (.iload_n 1, 1) := by decide +kernel
theorem dX8_publishes_9 : decode cX8_publishes 9 = .ok (.iaload, 1) := by decide +kernel
theorem dX8_publishes_10 : decode cX8_publishes 10 = .ok (.iadd, 1) := by decide +kernel
theorem dX8_publishes_11 : decode cX8_publishes 11 = .ok (.istore_n 2, 1) := by decide +kernel
theorem dX8_publishes_12 : decode cX8_publishes 12 = .ok (.aload_n 0, 1) := by decide +kernel
theorem dX8_publishes_13 : decode cX8_publishes 13 = .ok (.dup, 1) := by decide +kernel
theorem dX8_publishes_14 : decode cX8_publishes 14 = .ok (.getfield 133, 3) := by decide +kernel
theorem dX8_publishes_17 : decode cX8_publishes 17 = .ok (.iconst 1, 1) := by decide +kernel
theorem dX8_publishes_18 : decode cX8_publishes 18 = .ok (.iadd, 1) := by decide +kernel
theorem dX8_publishes_19 : decode cX8_publishes 19 = .ok (.putfield 133, 3) := by decide +kernel
theorem dX8_publishes_22 : decode cX8_publishes 22 = .ok (.aload_n 0, 1) := by decide +kernel
theorem dX8_publishes_23 : decode cX8_publishes 23 = .ok (.getfield 83, 3) := by decide +kernel
theorem dX8_publishes_26 : decode cX8_publishes 26 = .ok (.aload_n 0, 1) := by decide +kernel
theorem dX8_publishes_27 : decode cX8_publishes 27 = .ok (.getfield 136, 3) := by decide +kernel
theorem dX8_publishes_30 : decode cX8_publishes 30 = .ok (.iload_n 1, 1) := by decide +kernel
theorem dX8_publishes_31 : decode cX8_publishes 31 = .ok (.iastore, 1) := by decide +kernel
theorem dX8_publishes_32 : decode cX8_publishes 32 = .ok (.aload_n 0, 1) := by decide +kernel
theorem dX8_publishes_33 : decode cX8_publishes 33 = .ok (.getfield 86, 3) := by decide +kernel
theorem dX8_publishes_36 : decode cX8_publishes 36 = .ok (.aload_n 0, 1) := by decide +kernel
theorem dX8_publishes_37 : decode cX8_publishes 37 = .ok (.getfield 136, 3) := by decide +kernel
theorem dX8_publishes_40 : decode cX8_publishes 40 = .ok (.aload_n 0, 1) := by decide +kernel
theorem dX8_publishes_41 : decode cX8_publishes 41 = .ok (.getfield 38, 3) := by decide +kernel
theorem dX8_publishes_44 : decode cX8_publishes 44 = .ok (.iload_n 1, 1) := by decide +kernel
theorem dX8_publishes_45 : decode cX8_publishes 45 = .ok (.iaload, 1) := by decide +kernel
theorem dX8_publishes_46 : decode cX8_publishes 46 = .ok (.iastore, 1) := by decide +kernel
theorem dX8_publishes_47 : decode cX8_publishes 47 = .ok (.aload_n 0, 1) := by decide +kernel
theorem dX8_publishes_48 : decode cX8_publishes 48 = .ok (.getfield 89, 3) := by decide +kernel
theorem dX8_publishes_51 : decode cX8_publishes 51 = .ok (.aload_n 0, 1) := by decide +kernel
theorem dX8_publishes_52 : decode cX8_publishes 52 = .ok (.getfield 136, 3) := by decide +kernel
theorem dX8_publishes_55 : decode cX8_publishes 55 = .ok (.aload_n 0, 1) := by decide +kernel
theorem dX8_publishes_56 : decode cX8_publishes 56 = .ok (.getfield 16, 3) := by decide +kernel
theorem dX8_publishes_59 : decode cX8_publishes 59 = .ok (.iload_n 2, 1) := by decide +kernel
theorem dX8_publishes_60 : decode cX8_publishes 60 = .ok (.iaload, 1) := by decide +kernel
theorem dX8_publishes_61 : decode cX8_publishes 61 = .ok (.iastore, 1) := by decide +kernel
theorem dX8_publishes_62 : decode cX8_publishes 62 = .ok (.aload_n 0, 1) := by decide +kernel
theorem dX8_publishes_63 : decode cX8_publishes 63 = .ok (.getfield 92, 3) := by decide +kernel
theorem dX8_publishes_66 : decode cX8_publishes 66 = .ok (.aload_n 0, 1) := by decide +kernel
theorem dX8_publishes_67 : decode cX8_publishes 67 = .ok (.getfield 136, 3) := by decide +kernel
theorem dX8_publishes_70 : decode cX8_publishes 70 = .ok (.aload_n 0, 1) := by decide +kernel
theorem dX8_publishes_71 : decode cX8_publishes 71 = .ok (.getfield 22, 3) := by decide +kernel
theorem dX8_publishes_74 : decode cX8_publishes 74 = .ok (.iload_n 2, 1) := by decide +kernel
theorem dX8_publishes_75 : decode cX8_publishes 75 = .ok (.iaload, 1) := by decide +kernel
theorem dX8_publishes_76 : decode cX8_publishes 76 = .ok (.iastore, 1) := by decide +kernel
theorem dX8_publishes_77 : decode cX8_publishes 77 = .ok (.aload_n 0, 1) := by decide +kernel
theorem dX8_publishes_78 : decode cX8_publishes 78 = .ok (.getfield 95, 3) := by decide +kernel
theorem dX8_publishes_81 : decode cX8_publishes 81 = .ok (.aload_n 0, 1) := by decide +kernel
theorem dX8_publishes_82 : decode cX8_publishes 82 = .ok (.getfield 136, 3) := by decide +kernel
theorem dX8_publishes_85 : decode cX8_publishes 85 = .ok (.aload_n 0, 1) := by decide +kernel
theorem dX8_publishes_86 : decode cX8_publishes 86 = .ok (.getfield 133, 3) := by decide +kernel
theorem dX8_publishes_89 : decode cX8_publishes 89 = .ok (.iastore, 1) := by decide +kernel
theorem dX8_publishes_90 : decode cX8_publishes 90 = .ok (.aload_n 0, 1) := by decide +kernel
theorem dX8_publishes_91 : decode cX8_publishes 91 = .ok (.getfield 98, 3) := by decide +kernel
theorem dX8_publishes_94 : decode cX8_publishes 94 = .ok (.aload_n 0, 1) := by decide +kernel
theorem dX8_publishes_95 : decode cX8_publishes 95 = .ok (.getfield 136, 3) := by decide +kernel
theorem dX8_publishes_98 : decode cX8_publishes 98 = .ok (.aload_n 0, 1) := by decide +kernel
theorem dX8_publishes_99 : decode cX8_publishes 99 = .ok (.getfield 19, 3) := by decide +kernel
theorem dX8_publishes_102 : decode cX8_publishes 102 = .ok (.iload_n 2, 1) := by decide +kernel
theorem dX8_publishes_103 : decode cX8_publishes 103 = .ok (.iaload, 1) := by decide +kernel
theorem dX8_publishes_104 : decode cX8_publishes 104 = .ok (.iastore, 1) := by decide +kernel
theorem dX8_publishes_105 : decode cX8_publishes 105 = .ok (.aload_n 0, 1) := by decide +kernel
theorem dX8_publishes_106 : decode cX8_publishes 106 = .ok (.dup, 1) := by decide +kernel
theorem dX8_publishes_107 : decode cX8_publishes 107 = .ok (.getfield 136, 3) := by decide +kernel
theorem dX8_publishes_110 : decode cX8_publishes 110 = .ok (.iconst 1, 1) := by decide +kernel
theorem dX8_publishes_111 : decode cX8_publishes 111 = .ok (.iadd, 1) := by decide +kernel
theorem dX8_publishes_112 : decode cX8_publishes 112 = .ok (.putfield 136, 3) := by decide +kernel
theorem dX8_publishes_115 : decode cX8_publishes 115 = .ok (.return_, 1) := by decide +kernel
theorem dX8_ownEntry_0 : decode cX8_ownEntry 0 = .ok (.iconst 0, 1) := by decide +kernel
theorem dX8_ownEntry_1 : decode cX8_ownEntry 1 = .ok (.istore_n 2, 1) := by decide +kernel
theorem dX8_ownEntry_2 : decode cX8_ownEntry 2 = .ok (.iload_n 2, 1) := by decide +kernel
theorem dX8_ownEntry_3 : decode cX8_ownEntry 3 = .ok (.aload_n 0, 1) := by decide +kernel
theorem dX8_ownEntry_4 : decode cX8_ownEntry 4 = .ok (.getfield 136, 3) := by decide +kernel
theorem dX8_ownEntry_7 : decode cX8_ownEntry 7 = .ok (.if_icmp .ge 21, 3) := by decide +kernel
theorem dX8_ownEntry_10 : decode cX8_ownEntry 10 = .ok (.aload_n 0, 1) := by decide +kernel
theorem dX8_ownEntry_11 : decode cX8_ownEntry 11 = .ok (.getfield 83, 3) := by decide +kernel
theorem dX8_ownEntry_14 : decode cX8_ownEntry 14 = .ok (.iload_n 2, 1) := by decide +kernel
theorem dX8_ownEntry_15 : decode cX8_ownEntry 15 = .ok (.iaload, 1) := by decide +kernel
theorem dX8_ownEntry_16 : decode cX8_ownEntry 16 = .ok (.iload_n 1, 1) := by decide +kernel
theorem dX8_ownEntry_17 : decode cX8_ownEntry 17 = .ok (.if_icmp .ne 5, 3) := by decide +kernel
theorem dX8_ownEntry_20 : decode cX8_ownEntry 20 = .ok (.iload_n 2, 1) := by decide +kernel
theorem dX8_ownEntry_21 : decode cX8_ownEntry 21 = .ok (.ireturn, 1) := by decide +kernel
theorem dX8_ownEntry_22 : decode cX8_ownEntry 22 = .ok (.iinc 2 1, 3) := by decide +kernel
theorem dX8_ownEntry_25 : decode cX8_ownEntry 25 = .ok (.goto (-23), 3) := by decide +kernel
theorem dX8_ownEntry_28 : decode cX8_ownEntry 28 = .ok (.iconst (-1), 1) := by decide +kernel
theorem dX8_ownEntry_29 : decode cX8_ownEntry 29 = .ok (.ireturn, 1) := by decide +kernel
theorem dX8_removes_0 : decode cX8_removes 0 = .ok (.aload_n 0, 1) := by decide +kernel
theorem dX8_removes_1 : decode cX8_removes 1 = .ok (.dup, 1) := by decide +kernel
theorem dX8_removes_2 : decode cX8_removes 2 = .ok (.getfield 136, 3) := by decide +kernel
theorem dX8_removes_5 : decode cX8_removes 5 = .ok (.iconst 1, 1) := by decide +kernel
theorem dX8_removes_6 : decode cX8_removes 6 = .ok (.isub, 1) := by decide +kernel
theorem dX8_removes_7 : decode cX8_removes 7 = .ok (.putfield 136, 3) := by decide +kernel
theorem dX8_removes_10 : decode cX8_removes 10 = .ok (.iload_n 1, 1) := by decide +kernel
theorem dX8_removes_11 : decode cX8_removes 11 = .ok (.istore_n 2, 1) := by decide +kernel
theorem dX8_removes_12 : decode cX8_removes 12 = .ok (.iload_n 2, 1) := by decide +kernel
theorem dX8_removes_13 : decode cX8_removes 13 = .ok (.aload_n 0, 1) := by decide +kernel
theorem dX8_removes_14 : decode cX8_removes 14 = .ok (.getfield 136, 3) := by decide +kernel
theorem dX8_removes_17 : decode cX8_removes 17 = .ok (.if_icmp .ge 93, 3) := by decide +kernel
theorem dX8_removes_20 : decode cX8_removes 20 = .ok (.aload_n 0, 1) := by decide +kernel
theorem dX8_removes_21 : decode cX8_removes 21 = .ok (.getfield 83, 3) := by decide +kernel
theorem dX8_removes_24 : decode cX8_removes 24 = .ok (.iload_n 2, 1) := by decide +kernel
theorem dX8_removes_25 : decode cX8_removes 25 = .ok (.aload_n 0, 1) := by decide +kernel
theorem dX8_removes_26 : decode cX8_removes 26 = .ok (.getfield 83, 3) := by decide +kernel
theorem dX8_removes_29 : decode cX8_removes 29 = .ok (.iload_n 2, 1) := by decide +kernel
theorem dX8_removes_30 : decode cX8_removes 30 = .ok (.iconst 1, 1) := by decide +kernel
theorem dX8_removes_31 : decode cX8_removes 31 = .ok (.iadd, 1) := by decide +kernel
theorem dX8_removes_32 : decode cX8_removes 32 = .ok (.iaload, 1) := by decide +kernel
theorem dX8_removes_33 : decode cX8_removes 33 = .ok (.iastore, 1) := by decide +kernel
theorem dX8_removes_34 : decode cX8_removes 34 = .ok (.aload_n 0, 1) := by decide +kernel
theorem dX8_removes_35 : decode cX8_removes 35 = .ok (.getfield 86, 3) := by decide +kernel
theorem dX8_removes_38 : decode cX8_removes 38 = .ok (.iload_n 2, 1) := by decide +kernel
theorem dX8_removes_39 : decode cX8_removes 39 = .ok (.aload_n 0, 1) := by decide +kernel
theorem dX8_removes_40 : decode cX8_removes 40 = .ok (.getfield 86, 3) := by decide +kernel
theorem dX8_removes_43 : decode cX8_removes 43 = .ok (.iload_n 2, 1) := by decide +kernel
theorem dX8_removes_44 : decode cX8_removes 44 = .ok (.iconst 1, 1) := by decide +kernel
theorem dX8_removes_45 : decode cX8_removes 45 = .ok (.iadd, 1) := by decide +kernel
theorem dX8_removes_46 : decode cX8_removes 46 = .ok (.iaload, 1) := by decide +kernel
theorem dX8_removes_47 : decode cX8_removes 47 = .ok (.iastore, 1) := by decide +kernel
theorem dX8_removes_48 : decode cX8_removes 48 = .ok (.aload_n 0, 1) := by decide +kernel
theorem dX8_removes_49 : decode cX8_removes 49 = .ok (.getfield 89, 3) := by decide +kernel
theorem dX8_removes_52 : decode cX8_removes 52 = .ok (.iload_n 2, 1) := by decide +kernel
theorem dX8_removes_53 : decode cX8_removes 53 = .ok (.aload_n 0, 1) := by decide +kernel
theorem dX8_removes_54 : decode cX8_removes 54 = .ok (.getfield 89, 3) := by decide +kernel
theorem dX8_removes_57 : decode cX8_removes 57 = .ok (.iload_n 2, 1) := by decide +kernel
theorem dX8_removes_58 : decode cX8_removes 58 = .ok (.iconst 1, 1) := by decide +kernel
theorem dX8_removes_59 : decode cX8_removes 59 = .ok (.iadd, 1) := by decide +kernel
theorem dX8_removes_60 : decode cX8_removes 60 = .ok (.iaload, 1) := by decide +kernel
theorem dX8_removes_61 : decode cX8_removes 61 = .ok (.iastore, 1) := by decide +kernel
theorem dX8_removes_62 : decode cX8_removes 62 = .ok (.aload_n 0, 1) := by decide +kernel
theorem dX8_removes_63 : decode cX8_removes 63 = .ok (.getfield 92, 3) := by decide +kernel
theorem dX8_removes_66 : decode cX8_removes 66 = .ok (.iload_n 2, 1) := by decide +kernel
theorem dX8_removes_67 : decode cX8_removes 67 = .ok (.aload_n 0, 1) := by decide +kernel
theorem dX8_removes_68 : decode cX8_removes 68 = .ok (.getfield 92, 3) := by decide +kernel
theorem dX8_removes_71 : decode cX8_removes 71 = .ok (.iload_n 2, 1) := by decide +kernel
theorem dX8_removes_72 : decode cX8_removes 72 = .ok (.iconst 1, 1) := by decide +kernel
theorem dX8_removes_73 : decode cX8_removes 73 = .ok (.iadd, 1) := by decide +kernel
theorem dX8_removes_74 : decode cX8_removes 74 = .ok (.iaload, 1) := by decide +kernel
theorem dX8_removes_75 : decode cX8_removes 75 = .ok (.iastore, 1) := by decide +kernel
theorem dX8_removes_76 : decode cX8_removes 76 = .ok (.aload_n 0, 1) := by decide +kernel
theorem dX8_removes_77 : decode cX8_removes 77 = .ok (.getfield 95, 3) := by decide +kernel
theorem dX8_removes_80 : decode cX8_removes 80 = .ok (.iload_n 2, 1) := by decide +kernel
theorem dX8_removes_81 : decode cX8_removes 81 = .ok (.aload_n 0, 1) := by decide +kernel
theorem dX8_removes_82 : decode cX8_removes 82 = .ok (.getfield 95, 3) := by decide +kernel
theorem dX8_removes_85 : decode cX8_removes 85 = .ok (.iload_n 2, 1) := by decide +kernel
theorem dX8_removes_86 : decode cX8_removes 86 = .ok (.iconst 1, 1) := by decide +kernel
theorem dX8_removes_87 : decode cX8_removes 87 = .ok (.iadd, 1) := by decide +kernel
theorem dX8_removes_88 : decode cX8_removes 88 = .ok (.iaload, 1) := by decide +kernel
theorem dX8_removes_89 : decode cX8_removes 89 = .ok (.iastore, 1) := by decide +kernel
theorem dX8_removes_90 : decode cX8_removes 90 = .ok (.aload_n 0, 1) := by decide +kernel
theorem dX8_removes_91 : decode cX8_removes 91 = .ok (.getfield 98, 3) := by decide +kernel
theorem dX8_removes_94 : decode cX8_removes 94 = .ok (.iload_n 2, 1) := by decide +kernel
theorem dX8_removes_95 : decode cX8_removes 95 = .ok (.aload_n 0, 1) := by decide +kernel
theorem dX8_removes_96 : decode cX8_removes 96 = .ok (.getfield 98, 3) := by decide +kernel
theorem dX8_removes_99 : decode cX8_removes 99 = .ok (.iload_n 2, 1) := by decide +kernel
theorem dX8_removes_100 : decode cX8_removes 100 = .ok (.iconst 1, 1) := by decide +kernel
theorem dX8_removes_101 : decode cX8_removes 101 = .ok (.iadd, 1) := by decide +kernel
theorem dX8_removes_102 : decode cX8_removes 102 = .ok (.iaload, 1) := by decide +kernel
theorem dX8_removes_103 : decode cX8_removes 103 = .ok (.iastore, 1) := by decide +kernel
theorem dX8_removes_104 : decode cX8_removes 104 = .ok (.iinc 2 1, 3) := by decide +kernel
theorem dX8_removes_107 : decode cX8_removes 107 = .ok (.goto (-95), 3) := by decide +kernel
theorem dX8_removes_110 : decode cX8_removes 110 = .ok (.return_, 1) := by decide +kernel
theorem dX8_withdraws_0 : decode cX8_withdraws 0 = .ok (.aload_n 0, 1) := by decide +kernel
theorem dX8_withdraws_1 : decode cX8_withdraws 1 = .ok (.getfield 9, 3) := by decide +kernel
theorem dX8_withdraws_4 : decode cX8_withdraws 4 = .ok (.iload_n 1, 1) := by decide +kernel
theorem dX8_withdraws_5 : decode cX8_withdraws 5 = .ok (.aload_n 0, 1) := by decide +kernel
theorem dX8_withdraws_6 : decode cX8_withdraws 6 = .ok (.iload_n 1, 1) := by decide +kernel
theorem dX8_withdraws_7 : decode cX8_withdraws 7 = .ok (.invokevirtual 139, 3) := by decide +kernel
theorem dX8_withdraws_10 : decode cX8_withdraws 10 = .ok (.iconst (-1), 1) := by decide +kernel
theorem dX8_withdraws_11 : decode cX8_withdraws 11 = .ok (.if_icmp .ne 8, 3) := by decide +kernel
theorem dX8_withdraws_14 : decode cX8_withdraws 14 = .ok (.bipush 12, 2) := by decide +kernel
theorem dX8_withdraws_16 : decode cX8_withdraws 16 = .ok (.goto 5, 3) := by decide +kernel
theorem dX8_withdraws_19 : decode cX8_withdraws 19 = .ok (.bipush 11, 2) := by decide +kernel
theorem dX8_withdraws_21 : decode cX8_withdraws 21 = .ok (.iastore, 1) := by decide +kernel
theorem dX8_withdraws_22 : decode cX8_withdraws 22 = .ok (.return_, 1) := by decide +kernel
theorem dX8_looksOn_0 : decode cX8_looksOn 0 = .ok (.aload_n 0, 1) := by decide +kernel
theorem dX8_looksOn_1 : decode cX8_looksOn 1 = .ok (.getfield 44, 3) := by decide +kernel
theorem dX8_looksOn_4 : decode cX8_looksOn 4 = .ok (.iload_n 1, 1) := by decide +kernel
theorem dX8_looksOn_5 : decode cX8_looksOn 5 = .ok (.iload_n 2, 1) := by decide +kernel
theorem dX8_looksOn_6 : decode cX8_looksOn 6 = .ok (.iastore, 1) := by decide +kernel
theorem dX8_looksOn_7 : decode cX8_looksOn 7 = .ok (.aload_n 0, 1) := by decide +kernel
theorem dX8_looksOn_8 : decode cX8_looksOn 8 = .ok (.getfield 47, 3) := by decide +kernel
theorem dX8_looksOn_11 : decode cX8_looksOn 11 = .ok (.iload_n 1, 1) := by decide +kernel
theorem dX8_looksOn_12 : decode cX8_looksOn 12 = .ok (.iconst 0, 1) := by decide +kernel
theorem dX8_looksOn_13 : decode cX8_looksOn 13 = .ok (.iastore, 1) := by decide +kernel
theorem dX8_looksOn_14 : decode cX8_looksOn 14 = .ok (.aload_n 0, 1) := by decide +kernel
theorem dX8_looksOn_15 : decode cX8_looksOn 15 = .ok (.getfield 9, 3) := by decide +kernel
theorem dX8_looksOn_18 : decode cX8_looksOn 18 = .ok (.iload_n 1, 1) := by decide +kernel
theorem dX8_looksOn_19 : decode cX8_looksOn 19 = .ok (.iload_n 2, 1) := by decide +kernel
theorem dX8_looksOn_20 : decode cX8_looksOn 20 = .ok (.iconst (-1), 1) := by decide +kernel
theorem dX8_looksOn_21 : decode cX8_looksOn 21 = .ok (.if_icmp .ne 8, 3) := by decide +kernel
theorem dX8_looksOn_24 : decode cX8_looksOn 24 = .ok (.bipush 9, 2) := by decide +kernel
theorem dX8_looksOn_26 : decode cX8_looksOn 26 = .ok (.goto 4, 3) := by decide +kernel
theorem dX8_looksOn_29 : decode cX8_looksOn 29 = .ok (.iconst 3, 1) := by decide +kernel
theorem dX8_looksOn_30 : decode cX8_looksOn 30 = .ok (.iastore, 1) := by decide +kernel
theorem dX8_looksOn_31 : decode cX8_looksOn 31 = .ok (.return_, 1) := by decide +kernel
theorem dX8_tries_0 : decode cX8_tries 0 = .ok (.aload_n 0, 1) := by decide +kernel
theorem dX8_tries_1 : decode cX8_tries 1 = .ok (.dup, 1) := by decide +kernel
theorem dX8_tries_2 : decode cX8_tries 2 = .ok (.getfield 143, 3) := by decide +kernel
theorem dX8_tries_5 : decode cX8_tries 5 = .ok (.iconst 1, 1) := by decide +kernel
theorem dX8_tries_6 : decode cX8_tries 6 = .ok (.iadd, 1) := by decide +kernel
theorem dX8_tries_7 : decode cX8_tries 7 = .ok (.putfield 143, 3) := by decide +kernel
theorem dX8_tries_10 : decode cX8_tries 10 = .ok (.aload_n 0, 1) := by decide +kernel
theorem dX8_tries_11 : decode cX8_tries 11 = .ok (.getfield 35, 3) := by decide +kernel
theorem dX8_tries_14 : decode cX8_tries 14 = .ok (.iload_n 2, 1) := by decide +kernel
theorem dX8_tries_15 : decode cX8_tries 15 = .ok (.iaload, 1) := by decide +kernel
theorem dX8_tries_16 : decode cX8_tries 16 = .ok (.iconst 1, 1) := by decide +kernel
theorem dX8_tries_17 : decode cX8_tries 17 = .ok (.if_icmp .ne 29, 3) := by decide +kernel
theorem dX8_tries_20 : decode cX8_tries 20 = .ok (.aload_n 0, 1) := by decide +kernel
theorem dX8_tries_21 : decode cX8_tries 21 = .ok (.getfield 38, 3) := by decide +kernel
theorem dX8_tries_24 : decode cX8_tries 24 = .ok (.iload_n 2, 1) := by decide +kernel
theorem dX8_tries_25 : decode cX8_tries 25 = .ok (.iaload, 1) := by decide +kernel
theorem dX8_tries_26 : decode cX8_tries 26 = .ok (.iload_n 3, 1) := by decide +kernel
theorem dX8_tries_27 : decode cX8_tries 27 = .ok (.if_icmp .ne 19, 3) := by decide +kernel
theorem dX8_tries_30 : decode cX8_tries 30 = .ok (.aload_n 0, 1) := by decide +kernel
theorem dX8_tries_31 : decode cX8_tries 31 = .ok (.getfield 35, 3) := by decide +kernel
theorem dX8_tries_34 : decode cX8_tries 34 = .ok (.iload_n 2, 1) := by decide +kernel
theorem dX8_tries_35 : decode cX8_tries 35 = .ok (.iconst 2, 1) := by decide +kernel
theorem dX8_tries_36 : decode cX8_tries 36 = .ok (.iastore, 1) := by decide +kernel
theorem dX8_tries_37 : decode cX8_tries 37 = .ok (.aload_n 0, 1) := by decide +kernel
theorem dX8_tries_38 : decode cX8_tries 38 = .ok (.getfield 41, 3) := by decide +kernel
theorem dX8_tries_41 : decode cX8_tries 41 = .ok (.iload_n 2, 1) := by decide +kernel
theorem dX8_tries_42 : decode cX8_tries 42 = .ok (.iload_n 1, 1) := by decide +kernel
theorem dX8_tries_43 : decode cX8_tries 43 = .ok (.iastore, 1) := by decide +kernel
theorem dX8_tries_44 : decode cX8_tries 44 = .ok (.iconst 1, 1) := by decide +kernel
theorem dX8_tries_45 : decode cX8_tries 45 = .ok (.ireturn, 1) := by decide +kernel
theorem dX8_tries_46 : decode cX8_tries 46 = .ok (.aload_n 0, 1) := by decide +kernel
theorem dX8_tries_47 : decode cX8_tries 47 = .ok (.dup, 1) := by decide +kernel
theorem dX8_tries_48 : decode cX8_tries 48 = .ok (.getfield 146, 3) := by decide +kernel
theorem dX8_tries_51 : decode cX8_tries 51 = .ok (.iconst 1, 1) := by decide +kernel
theorem dX8_tries_52 : decode cX8_tries 52 = .ok (.iadd, 1) := by decide +kernel
theorem dX8_tries_53 : decode cX8_tries 53 = .ok (.putfield 146, 3) := by decide +kernel
theorem dX8_tries_56 : decode cX8_tries 56 = .ok (.iconst 0, 1) := by decide +kernel
theorem dX8_tries_57 : decode cX8_tries 57 = .ok (.ireturn, 1) := by decide +kernel
theorem dX8_isEnded_0 : decode cX8_isEnded 0 = .ok (.aload_n 0, 1) := by decide +kernel
theorem dX8_isEnded_1 : decode cX8_isEnded 1 = .ok (.getfield 35, 3) := by decide +kernel
theorem dX8_isEnded_4 : decode cX8_isEnded 4 = .ok (.iload_n 1, 1) := by decide +kernel
theorem dX8_isEnded_5 : decode cX8_isEnded 5 = .ok (.iaload, 1) := by decide +kernel
theorem dX8_isEnded_6 : decode cX8_isEnded 6 = .ok (.iconst 3, 1) := by decide +kernel
theorem dX8_isEnded_7 : decode cX8_isEnded 7 = .ok (.if_icmp .eq 13, 3) := by decide +kernel
theorem dX8_isEnded_10 : decode cX8_isEnded 10 = .ok (.aload_n 0, 1) := by decide +kernel
theorem dX8_isEnded_11 : decode cX8_isEnded 11 = .ok (.getfield 35, 3) := by decide +kernel
theorem dX8_isEnded_14 : decode cX8_isEnded 14 = .ok (.iload_n 1, 1) := by decide +kernel
theorem dX8_isEnded_15 : decode cX8_isEnded 15 = .ok (.iaload, 1) := by decide +kernel
theorem dX8_isEnded_16 : decode cX8_isEnded 16 = .ok (.iconst 4, 1) := by decide +kernel
theorem dX8_isEnded_17 : decode cX8_isEnded 17 = .ok (.if_icmp .ne 7, 3) := by decide +kernel
theorem dX8_isEnded_20 : decode cX8_isEnded 20 = .ok (.iconst 1, 1) := by decide +kernel
theorem dX8_isEnded_21 : decode cX8_isEnded 21 = .ok (.goto 4, 3) := by decide +kernel
theorem dX8_isEnded_24 : decode cX8_isEnded 24 = .ok (.iconst 0, 1) := by decide +kernel
theorem dX8_isEnded_25 : decode cX8_isEnded 25 = .ok (.ireturn, 1) := by decide +kernel
theorem dX8_isBusy_0 : decode cX8_isBusy 0 = .ok (.aload_n 0, 1) := by decide +kernel
theorem dX8_isBusy_1 : decode cX8_isBusy 1 = .ok (.getfield 35, 3) := by decide +kernel
theorem dX8_isBusy_4 : decode cX8_isBusy 4 = .ok (.iload_n 2, 1) := by decide +kernel
theorem dX8_isBusy_5 : decode cX8_isBusy 5 = .ok (.iaload, 1) := by decide +kernel
theorem dX8_isBusy_6 : decode cX8_isBusy 6 = .ok (.iconst 2, 1) := by decide +kernel
theorem dX8_isBusy_7 : decode cX8_isBusy 7 = .ok (.if_icmp .ne 20, 3) := by decide +kernel
theorem dX8_isBusy_10 : decode cX8_isBusy 10 = .ok (.aload_n 0, 1) := by decide +kernel
theorem dX8_isBusy_11 : decode cX8_isBusy 11 = .ok (.getfield 38, 3) := by decide +kernel
theorem dX8_isBusy_14 : decode cX8_isBusy 14 = .ok (.iload_n 2, 1) := by decide +kernel
theorem dX8_isBusy_15 : decode cX8_isBusy 15 = .ok (.iaload, 1) := by decide +kernel
theorem dX8_isBusy_16 : decode cX8_isBusy 16 = .ok (.iload_n 3, 1) := by decide +kernel
theorem dX8_isBusy_17 : decode cX8_isBusy 17 = .ok (.if_icmp .ne 10, 3) := by decide +kernel
theorem dX8_isBusy_20 : decode cX8_isBusy 20 = .ok (.aload_n 0, 1) := by decide +kernel
theorem dX8_isBusy_21 : decode cX8_isBusy 21 = .ok (.getfield 50, 3) := by decide +kernel
theorem dX8_isBusy_24 : decode cX8_isBusy 24 = .ok (.iload_n 1, 1) := by decide +kernel
theorem dX8_isBusy_25 : decode cX8_isBusy 25 = .ok (.iconst 1, 1) := by decide +kernel
theorem dX8_isBusy_26 : decode cX8_isBusy 26 = .ok (.bastore, 1) := by decide +kernel
theorem dX8_isBusy_27 : decode cX8_isBusy 27 = .ok (.return_, 1) := by decide +kernel
theorem dX8_versionOf_0 : decode cX8_versionOf 0 = .ok (.iload_n 2, 1) := by decide +kernel
theorem dX8_versionOf_1 : decode cX8_versionOf 1 = .ok (.iload_n 1, 1) := by decide +kernel
theorem dX8_versionOf_2 : decode cX8_versionOf 2 = .ok (.if_icmp .ne 12, 3) := by decide +kernel
theorem dX8_versionOf_5 : decode cX8_versionOf 5 = .ok (.aload_n 0, 1) := by decide +kernel
theorem dX8_versionOf_6 : decode cX8_versionOf 6 = .ok (.getfield 38, 3) := by decide +kernel
theorem dX8_versionOf_9 : decode cX8_versionOf 9 = .ok (.iload_n 1, 1) := by decide +kernel
theorem dX8_versionOf_10 : decode cX8_versionOf 10 = .ok (.iaload, 1) := by decide +kernel
theorem dX8_versionOf_11 : decode cX8_versionOf 11 = .ok (.goto 9, 3) := by decide +kernel
theorem dX8_versionOf_14 : decode cX8_versionOf 14 = .ok (.aload_n 0, 1) := by decide +kernel
theorem dX8_versionOf_15 : decode cX8_versionOf 15 = .ok (.getfield 56, 3) := by decide +kernel
theorem dX8_versionOf_18 : decode cX8_versionOf 18 = .ok (.iload_n 1, 1) := by decide +kernel
theorem dX8_versionOf_19 : decode cX8_versionOf 19 = .ok (.iaload, 1) := by decide +kernel
theorem dX8_versionOf_20 : decode cX8_versionOf 20 = .ok (.ireturn, 1) := by decide +kernel
theorem dX8_looks_0 : decode cX8_looks 0 = .ok (.aload_n 0, 1) := by decide +kernel
theorem dX8_looks_1 : decode cX8_looks 1 = .ok (.getfield 19, 3) := by decide +kernel
theorem dX8_looks_4 : decode cX8_looks 4 = .ok (.bipush 8, 2) := by decide +kernel
theorem dX8_looks_6 : decode cX8_looks 6 = .ok (.iload_n 1, 1) := by decide +kernel
theorem dX8_looks_7 : decode cX8_looks 7 = .ok (.imul, 1) := by decide +kernel
theorem dX8_looks_8 : decode cX8_looks 8 = .ok (.aload_n 0, 1) := by decide +kernel
theorem dX8_looks_9 : decode cX8_looks 9 = .ok (.getfield 44, 3) := by decide +kernel
theorem dX8_looks_12 : decode cX8_looks 12 = .ok (.iload_n 1, 1) := by decide +kernel
theorem dX8_looks_13 : decode cX8_looks 13 = .ok (.iaload, 1) := by decide +kernel
theorem dX8_looks_14 : decode cX8_looks 14 = .ok (.iadd, 1) := by decide +kernel
theorem dX8_looks_15 : decode cX8_looks 15 = .ok (.iaload, 1) := by decide +kernel
theorem dX8_looks_16 : decode cX8_looks 16 = .ok (.istore_n 2, 1) := by decide +kernel
theorem dX8_looks_17 : decode cX8_looks 17 = .ok (.iconst 0, 1) := by decide +kernel
theorem dX8_looks_18 : decode cX8_looks 18 = .ok (.istore_n 3, 1) := by decide +kernel
theorem dX8_looks_19 : decode cX8_looks 19 = .ok (.iload_n 3, 1) := by decide +kernel
theorem dX8_looks_20 : decode cX8_looks 20 = .ok (.aload_n 0, 1) := by decide +kernel
theorem dX8_looks_21 : decode cX8_looks 21 = .ok (.getfield 136, 3) := by decide +kernel
theorem dX8_looks_24 : decode cX8_looks 24 = .ok (.if_icmp .ge 34, 3) := by decide +kernel
theorem dX8_looks_27 : decode cX8_looks 27 = .ok (.aload_n 0, 1) := by decide +kernel
theorem dX8_looks_28 : decode cX8_looks 28 = .ok (.getfield 98, 3) := by decide +kernel
theorem dX8_looks_31 : decode cX8_looks 31 = .ok (.iload_n 3, 1) := by decide +kernel
theorem dX8_looks_32 : decode cX8_looks 32 = .ok (.iaload, 1) := by decide +kernel
theorem dX8_looks_33 : decode cX8_looks 33 = .ok (.iload_n 2, 1) := by decide +kernel
theorem dX8_looks_34 : decode cX8_looks 34 = .ok (.if_icmp .ne 18, 3) := by decide +kernel
theorem dX8_looks_37 : decode cX8_looks 37 = .ok (.aload_n 0, 1) := by decide +kernel
theorem dX8_looks_38 : decode cX8_looks 38 = .ok (.getfield 95, 3) := by decide +kernel
theorem dX8_looks_41 : decode cX8_looks 41 = .ok (.iload_n 3, 1) := by decide +kernel
theorem dX8_looks_42 : decode cX8_looks 42 = .ok (.iaload, 1) := by decide +kernel
theorem dX8_looks_43 : decode cX8_looks 43 = .ok (.aload_n 0, 1) := by decide +kernel
theorem dX8_looks_44 : decode cX8_looks 44 = .ok (.getfield 47, 3) := by decide +kernel
theorem dX8_looks_47 : decode cX8_looks 47 = .ok (.iload_n 1, 1) := by decide +kernel
theorem dX8_looks_48 : decode cX8_looks 48 = .ok (.iaload, 1) := by decide +kernel
theorem dX8_looks_49 : decode cX8_looks 49 = .ok (.if_icmp .gt 9, 3) := by decide +kernel
theorem dX8_looks_52 : decode cX8_looks 52 = .ok (.iinc 3 1, 3) := by decide +kernel
theorem dX8_looks_55 : decode cX8_looks 55 = .ok (.goto (-36), 3) := by decide +kernel
theorem dX8_looks_58 : decode cX8_looks 58 = .ok (.iload_n 3, 1) := by decide +kernel
theorem dX8_looks_59 : decode cX8_looks 59 = .ok (.aload_n 0, 1) := by decide +kernel
theorem dX8_looks_60 : decode cX8_looks 60 = .ok (.getfield 136, 3) := by decide +kernel
theorem dX8_looks_63 : decode cX8_looks 63 = .ok (.if_icmp .ne 20, 3) := by decide +kernel
theorem dX8_looks_66 : decode cX8_looks 66 = .ok (.aload_n 0, 1) := by decide +kernel
theorem dX8_looks_67 : decode cX8_looks 67 = .ok (.iload_n 1, 1) := by decide +kernel
theorem dX8_looks_68 : decode cX8_looks 68 = .ok (.aload_n 0, 1) := by decide +kernel
theorem dX8_looks_69 : decode cX8_looks 69 = .ok (.iload_n 1, 1) := by decide +kernel
theorem dX8_looks_70 : decode cX8_looks 70 = .ok (.aload_n 0, 1) := by decide +kernel
theorem dX8_looks_71 : decode cX8_looks 71 = .ok (.getfield 44, 3) := by decide +kernel
theorem dX8_looks_74 : decode cX8_looks 74 = .ok (.iload_n 1, 1) := by decide +kernel
theorem dX8_looks_75 : decode cX8_looks 75 = .ok (.iaload, 1) := by decide +kernel
theorem dX8_looks_76 : decode cX8_looks 76 = .ok (.invokevirtual 126, 3) := by decide +kernel
theorem dX8_looks_79 : decode cX8_looks 79 = .ok (.invokevirtual 149, 3) := by decide +kernel
theorem dX8_looks_82 : decode cX8_looks 82 = .ok (.return_, 1) := by decide +kernel
theorem dX8_looks_83 : decode cX8_looks 83 = .ok (.aload_n 0, 1) := by decide +kernel
theorem dX8_looks_84 : decode cX8_looks 84 = .ok (.getfield 47, 3) := by decide +kernel
theorem dX8_looks_87 : decode cX8_looks 87 = .ok (.iload_n 1, 1) := by decide +kernel
theorem dX8_looks_88 : decode cX8_looks 88 = .ok (.aload_n 0, 1) := by decide +kernel
theorem dX8_looks_89 : decode cX8_looks 89 = .ok (.getfield 95, 3) := by decide +kernel
theorem dX8_looks_92 : decode cX8_looks 92 = .ok (.iload_n 3, 1) := by decide +kernel
theorem dX8_looks_93 : decode cX8_looks 93 = .ok (.iaload, 1) := by decide +kernel
theorem dX8_looks_94 : decode cX8_looks 94 = .ok (.iastore, 1) := by decide +kernel
theorem dX8_looks_95 : decode cX8_looks 95 = .ok (.aload_n 0, 1) := by decide +kernel
theorem dX8_looks_96 : decode cX8_looks 96 = .ok (.getfield 83, 3) := by decide +kernel
theorem dX8_looks_99 : decode cX8_looks 99 = .ok (.iload_n 3, 1) := by decide +kernel
theorem dX8_looks_100 : decode cX8_looks 100 = .ok (.iaload, 1) := by decide +kernel
theorem dX8_looks_101 : decode cX8_looks 101 = .ok (.iload_n 1, 1) := by decide +kernel
theorem dX8_looks_102 : decode cX8_looks 102 = .ok (.if_icmp .eq 28, 3) := by decide +kernel
theorem dX8_looks_105 : decode cX8_looks 105 = .ok (.aload_n 0, 1) := by decide +kernel
theorem dX8_looks_106 : decode cX8_looks 106 = .ok (.getfield 89, 3) := by decide +kernel
theorem dX8_looks_109 : decode cX8_looks 109 = .ok (.iload_n 3, 1) := by decide +kernel
theorem dX8_looks_110 : decode cX8_looks 110 = .ok (.iaload, 1) := by decide +kernel
theorem dX8_looks_111 : decode cX8_looks 111 = .ok (.aload_n 0, 1) := by decide +kernel
theorem dX8_looks_112 : decode cX8_looks 112 = .ok (.getfield 16, 3) := by decide +kernel
theorem dX8_looks_115 : decode cX8_looks 115 = .ok (.bipush 8, 2) := by decide +kernel
theorem dX8_looks_117 : decode cX8_looks 117 = .ok (.iload_n 1, 1) := by decide +kernel
theorem dX8_looks_118 : decode cX8_looks 118 = .ok (.imul, 1) := by decide +kernel
theorem dX8_looks_119 : decode cX8_looks 119 = .ok (.aload_n 0, 1) := by decide +kernel
theorem dX8_looks_120 : decode cX8_looks 120 = .ok (.getfield 44, 3) := by decide +kernel
theorem dX8_looks_123 : decode cX8_looks 123 = .ok (.iload_n 1, 1) := by decide +kernel
theorem dX8_looks_124 : decode cX8_looks 124 = .ok (.iaload, 1) := by decide +kernel
theorem dX8_looks_125 : decode cX8_looks 125 = .ok (.iadd, 1) := by decide +kernel
theorem dX8_looks_126 : decode cX8_looks 126 = .ok (.iaload, 1) := by decide +kernel
theorem dX8_looks_127 : decode cX8_looks 127 = .ok (.if_icmp .ne 4, 3) := by decide +kernel
theorem dX8_looks_130 : decode cX8_looks 130 = .ok (.return_, 1) := by decide +kernel
theorem dX8_looks_131 : decode cX8_looks 131 = .ok (.aload_n 0, 1) := by decide +kernel
theorem dX8_looks_132 : decode cX8_looks 132 = .ok (.getfield 53, 3) := by decide +kernel
theorem dX8_looks_135 : decode cX8_looks 135 = .ok (.iload_n 1, 1) := by decide +kernel
theorem dX8_looks_136 : decode cX8_looks 136 = .ok (.aload_n 0, 1) := by decide +kernel
theorem dX8_looks_137 : decode cX8_looks 137 = .ok (.getfield 83, 3) := by decide +kernel
theorem dX8_looks_140 : decode cX8_looks 140 = .ok (.iload_n 3, 1) := by decide +kernel
theorem dX8_looks_141 : decode cX8_looks 141 = .ok (.iaload, 1) := by decide +kernel
theorem dX8_looks_142 : decode cX8_looks 142 = .ok (.iastore, 1) := by decide +kernel
theorem dX8_looks_143 : decode cX8_looks 143 = .ok (.aload_n 0, 1) := by decide +kernel
theorem dX8_looks_144 : decode cX8_looks 144 = .ok (.getfield 56, 3) := by decide +kernel
theorem dX8_looks_147 : decode cX8_looks 147 = .ok (.iload_n 1, 1) := by decide +kernel
theorem dX8_looks_148 : decode cX8_looks 148 = .ok (.aload_n 0, 1) := by decide +kernel
theorem dX8_looks_149 : decode cX8_looks 149 = .ok (.getfield 86, 3) := by decide +kernel
theorem dX8_looks_152 : decode cX8_looks 152 = .ok (.iload_n 3, 1) := by decide +kernel
theorem dX8_looks_153 : decode cX8_looks 153 = .ok (.iaload, 1) := by decide +kernel
theorem dX8_looks_154 : decode cX8_looks 154 = .ok (.iastore, 1) := by decide +kernel
theorem dX8_looks_155 : decode cX8_looks 155 = .ok (.aload_n 0, 1) := by decide +kernel
theorem dX8_looks_156 : decode cX8_looks 156 = .ok (.getfield 59, 3) := by decide +kernel
theorem dX8_looks_159 : decode cX8_looks 159 = .ok (.iload_n 1, 1) := by decide +kernel
theorem dX8_looks_160 : decode cX8_looks 160 = .ok (.aload_n 0, 1) := by decide +kernel
theorem dX8_looks_161 : decode cX8_looks 161 = .ok (.getfield 92, 3) := by decide +kernel
theorem dX8_looks_164 : decode cX8_looks 164 = .ok (.iload_n 3, 1) := by decide +kernel
theorem dX8_looks_165 : decode cX8_looks 165 = .ok (.iaload, 1) := by decide +kernel
theorem dX8_looks_166 : decode cX8_looks 166 = .ok (.iastore, 1) := by decide +kernel
theorem dX8_looks_167 : decode cX8_looks 167 = .ok (.aload_n 0, 1) := by decide +kernel
theorem dX8_looks_168 : decode cX8_looks 168 = .ok (.getfield 9, 3) := by decide +kernel
theorem dX8_looks_171 : decode cX8_looks 171 = .ok (.iload_n 1, 1) := by decide +kernel
theorem dX8_looks_172 : decode cX8_looks 172 = .ok (.iconst 4, 1) := by decide +kernel
theorem dX8_looks_173 : decode cX8_looks 173 = .ok (.iastore, 1) := by decide +kernel
theorem dX8_looks_174 : decode cX8_looks 174 = .ok (.return_, 1) := by decide +kernel
theorem dX8_claims_0 : decode cX8_claims 0 = .ok (.iload_n 1, 1) := by decide +kernel
theorem dX8_claims_1 : decode cX8_claims 1 = .ok (.aload_n 0, 1) := by decide +kernel
theorem dX8_claims_2 : decode cX8_claims 2 = .ok (.getfield 53, 3) := by decide +kernel
theorem dX8_claims_5 : decode cX8_claims 5 = .ok (.iload_n 1, 1) := by decide +kernel
theorem dX8_claims_6 : decode cX8_claims 6 = .ok (.iaload, 1) := by decide +kernel
theorem dX8_claims_7 : decode cX8_claims 7 = .ok (.if_icmp .ge 7, 3) := by decide +kernel
theorem dX8_claims_10 : decode cX8_claims 10 = .ok (.iload_n 1, 1) := by decide +kernel
theorem dX8_claims_11 : decode cX8_claims 11 = .ok (.goto 9, 3) := by decide +kernel
theorem dX8_claims_14 : decode cX8_claims 14 = .ok (.aload_n 0, 1) := by decide +kernel
theorem dX8_claims_15 : decode cX8_claims 15 = .ok (.getfield 53, 3) := by decide +kernel
theorem dX8_claims_18 : decode cX8_claims 18 = .ok (.iload_n 1, 1) := by decide +kernel
theorem dX8_claims_19 : decode cX8_claims 19 = .ok (.iaload, 1) := by decide +kernel
theorem dX8_claims_20 : decode cX8_claims 20 = .ok (.istore_n 2, 1) := by decide +kernel
theorem dX8_claims_21 : decode cX8_claims 21 = .ok (.aload_n 0, 1) := by decide +kernel
theorem dX8_claims_22 : decode cX8_claims 22 = .ok (.iload_n 1, 1) := by decide +kernel
theorem dX8_claims_23 : decode cX8_claims 23 = .ok (.iload_n 2, 1) := by decide +kernel
theorem dX8_claims_24 : decode cX8_claims 24 = .ok (.invokevirtual 153, 3) := by decide +kernel
theorem dX8_claims_27 : decode cX8_claims 27 = .ok (.istore_n 3, 1) := by decide +kernel
theorem dX8_claims_28 : decode cX8_claims 28 = .ok (.aload_n 0, 1) := by decide +kernel
theorem dX8_claims_29 : decode cX8_claims 29 = .ok (.iload_n 1, 1) := by decide +kernel
theorem dX8_claims_30 : decode cX8_claims 30 = .ok (.iload_n 2, 1) := by decide +kernel
theorem dX8_claims_31 : decode cX8_claims 31 = .ok (.iload_n 3, 1) := by decide +kernel
theorem dX8_claims_32 : decode cX8_claims 32 = .ok (.invokevirtual 156, 3) := by decide +kernel
theorem dX8_claims_35 : decode cX8_claims 35 = .ok (.ifCond .eq 13, 3) := by decide +kernel
theorem dX8_claims_38 : decode cX8_claims 38 = .ok (.aload_n 0, 1) := by decide +kernel
theorem dX8_claims_39 : decode cX8_claims 39 = .ok (.getfield 9, 3) := by decide +kernel
theorem dX8_claims_42 : decode cX8_claims 42 = .ok (.iload_n 1, 1) := by decide +kernel
theorem dX8_claims_43 : decode cX8_claims 43 = .ok (.iconst 5, 1) := by decide +kernel
theorem dX8_claims_44 : decode cX8_claims 44 = .ok (.iastore, 1) := by decide +kernel
theorem dX8_claims_45 : decode cX8_claims 45 = .ok (.goto 38, 3) := by decide +kernel
theorem dX8_claims_48 : decode cX8_claims 48 = .ok (.iload_n 2, 1) := by decide +kernel
theorem dX8_claims_49 : decode cX8_claims 49 = .ok (.iload_n 1, 1) := by decide +kernel
theorem dX8_claims_50 : decode cX8_claims 50 = .ok (.if_icmp .ne 19, 3) := by decide +kernel
theorem dX8_claims_53 : decode cX8_claims 53 = .ok (.aload_n 0, 1) := by decide +kernel
theorem dX8_claims_54 : decode cX8_claims 54 = .ok (.iload_n 1, 1) := by decide +kernel
theorem dX8_claims_55 : decode cX8_claims 55 = .ok (.invokevirtual 160, 3) := by decide +kernel
theorem dX8_claims_58 : decode cX8_claims 58 = .ok (.ifCond .eq 11, 3) := by decide +kernel
theorem dX8_claims_61 : decode cX8_claims 61 = .ok (.aload_n 0, 1) := by decide +kernel
theorem dX8_claims_62 : decode cX8_claims 62 = .ok (.iload_n 1, 1) := by decide +kernel
theorem dX8_claims_63 : decode cX8_claims 63 = .ok (.invokevirtual 163, 3) := by decide +kernel
theorem dX8_claims_66 : decode cX8_claims 66 = .ok (.goto 17, 3) := by decide +kernel
theorem dX8_claims_69 : decode cX8_claims 69 = .ok (.aload_n 0, 1) := by decide +kernel
theorem dX8_claims_70 : decode cX8_claims 70 = .ok (.iload_n 1, 1) := by decide +kernel
theorem dX8_claims_71 : decode cX8_claims 71 = .ok (.iload_n 2, 1) := by decide +kernel
theorem dX8_claims_72 : decode cX8_claims 72 = .ok (.iload_n 3, 1) := by decide +kernel
theorem dX8_claims_73 : decode cX8_claims 73 = .ok (.invokevirtual 166, 3) := by decide +kernel
theorem dX8_claims_76 : decode cX8_claims 76 = .ok (.aload_n 0, 1) := by decide +kernel
theorem dX8_claims_77 : decode cX8_claims 77 = .ok (.getfield 9, 3) := by decide +kernel
theorem dX8_claims_80 : decode cX8_claims 80 = .ok (.iload_n 1, 1) := by decide +kernel
theorem dX8_claims_81 : decode cX8_claims 81 = .ok (.iconst 3, 1) := by decide +kernel
theorem dX8_claims_82 : decode cX8_claims 82 = .ok (.iastore, 1) := by decide +kernel
theorem dX8_claims_83 : decode cX8_claims 83 = .ok (.return_, 1) := by decide +kernel
theorem dX8_seconds_0 : decode cX8_seconds 0 = .ok (.iload_n 1, 1) := by decide +kernel
theorem dX8_seconds_1 : decode cX8_seconds 1 = .ok (.aload_n 0, 1) := by decide +kernel
theorem dX8_seconds_2 : decode cX8_seconds 2 = .ok (.getfield 53, 3) := by decide +kernel
theorem dX8_seconds_5 : decode cX8_seconds 5 = .ok (.iload_n 1, 1) := by decide +kernel
theorem dX8_seconds_6 : decode cX8_seconds 6 = .ok (.iaload, 1) := by decide +kernel
theorem dX8_seconds_7 : decode cX8_seconds 7 = .ok (.if_icmp .le 7, 3) := by decide +kernel
theorem dX8_seconds_10 : decode cX8_seconds 10 = .ok (.iload_n 1, 1) := by decide +kernel
theorem dX8_seconds_11 : decode cX8_seconds 11 = .ok (.goto 9, 3) := by decide +kernel
theorem dX8_seconds_14 : decode cX8_seconds 14 = .ok (.aload_n 0, 1) := by decide +kernel
theorem dX8_seconds_15 : decode cX8_seconds 15 = .ok (.getfield 53, 3) := by decide +kernel
theorem dX8_seconds_18 : decode cX8_seconds 18 = .ok (.iload_n 1, 1) := by decide +kernel
theorem dX8_seconds_19 : decode cX8_seconds 19 = .ok (.iaload, 1) := by decide +kernel
theorem dX8_seconds_20 : decode cX8_seconds 20 = .ok (.istore_n 2, 1) := by decide +kernel
theorem dX8_seconds_21 : decode cX8_seconds 21 = .ok (.aload_n 0, 1) := by decide +kernel
theorem dX8_seconds_22 : decode cX8_seconds 22 = .ok (.iload_n 1, 1) := by decide +kernel
theorem dX8_seconds_23 : decode cX8_seconds 23 = .ok (.iload_n 2, 1) := by decide +kernel
theorem dX8_seconds_24 : decode cX8_seconds 24 = .ok (.invokevirtual 153, 3) := by decide +kernel
theorem dX8_seconds_27 : decode cX8_seconds 27 = .ok (.istore_n 3, 1) := by decide +kernel
theorem dX8_seconds_28 : decode cX8_seconds 28 = .ok (.aload_n 0, 1) := by decide +kernel
theorem dX8_seconds_29 : decode cX8_seconds 29 = .ok (.getfield 62, 3) := by decide +kernel
theorem dX8_seconds_32 : decode cX8_seconds 32 = .ok (.iload_n 1, 1) := by decide +kernel
theorem dX8_seconds_33 : decode cX8_seconds 33 = .ok (.iconst 0, 1) := by decide +kernel
theorem dX8_seconds_34 : decode cX8_seconds 34 = .ok (.bastore, 1) := by decide +kernel
theorem dX8_seconds_35 : decode cX8_seconds 35 = .ok (.aload_n 0, 1) := by decide +kernel
theorem dX8_seconds_36 : decode cX8_seconds 36 = .ok (.iload_n 1, 1) := by decide +kernel
theorem dX8_seconds_37 : decode cX8_seconds 37 = .ok (.iload_n 2, 1) := by decide +kernel
theorem dX8_seconds_38 : decode cX8_seconds 38 = .ok (.iload_n 3, 1) := by decide +kernel
theorem dX8_seconds_39 : decode cX8_seconds 39 = .ok (.invokevirtual 156, 3) := by decide +kernel
theorem dX8_seconds_42 : decode cX8_seconds 42 = .ok (.ifCond .eq 17, 3) := by decide +kernel
theorem dX8_seconds_45 : decode cX8_seconds 45 = .ok (.aload_n 0, 1) := by decide +kernel
theorem dX8_seconds_46 : decode cX8_seconds 46 = .ok (.iload_n 1, 1) := by decide +kernel
theorem dX8_seconds_47 : decode cX8_seconds 47 = .ok (.invokevirtual 170, 3) := by decide +kernel
theorem dX8_seconds_50 : decode cX8_seconds 50 = .ok (.aload_n 0, 1) := by decide +kernel
theorem dX8_seconds_51 : decode cX8_seconds 51 = .ok (.getfield 9, 3) := by decide +kernel
theorem dX8_seconds_54 : decode cX8_seconds 54 = .ok (.iload_n 1, 1) := by decide +kernel
theorem dX8_seconds_55 : decode cX8_seconds 55 = .ok (.bipush 7, 2) := by decide +kernel
theorem dX8_seconds_57 : decode cX8_seconds 57 = .ok (.iastore, 1) := by decide +kernel
theorem dX8_seconds_58 : decode cX8_seconds 58 = .ok (.return_, 1) := by decide +kernel
theorem dX8_seconds_59 : decode cX8_seconds 59 = .ok (.aload_n 0, 1) := by decide +kernel
theorem dX8_seconds_60 : decode cX8_seconds 60 = .ok (.getfield 62, 3) := by decide +kernel
theorem dX8_seconds_63 : decode cX8_seconds 63 = .ok (.iload_n 1, 1) := by decide +kernel
theorem dX8_seconds_64 : decode cX8_seconds 64 = .ok (.iload_n 2, 1) := by decide +kernel
theorem dX8_seconds_65 : decode cX8_seconds 65 = .ok (.iload_n 1, 1) := by decide +kernel
theorem dX8_seconds_66 : decode cX8_seconds 66 = .ok (.if_icmp .ne 15, 3) := by decide +kernel
theorem dX8_seconds_69 : decode cX8_seconds 69 = .ok (.aload_n 0, 1) := by decide +kernel
theorem dX8_seconds_70 : decode cX8_seconds 70 = .ok (.iload_n 1, 1) := by decide +kernel
theorem dX8_seconds_71 : decode cX8_seconds 71 = .ok (.invokevirtual 160, 3) := by decide +kernel
theorem dX8_seconds_74 : decode cX8_seconds 74 = .ok (.ifCond .eq 7, 3) := by decide +kernel
theorem dX8_seconds_77 : decode cX8_seconds 77 = .ok (.iconst 1, 1) := by decide +kernel
theorem dX8_seconds_78 : decode cX8_seconds 78 = .ok (.goto 4, 3) := by decide +kernel
theorem dX8_seconds_81 : decode cX8_seconds 81 = .ok (.iconst 0, 1) := by decide +kernel
theorem dX8_seconds_82 : decode cX8_seconds 82 = .ok (.bastore, 1) := by decide +kernel
theorem dX8_seconds_83 : decode cX8_seconds 83 = .ok (.aload_n 0, 1) := by decide +kernel
theorem dX8_seconds_84 : decode cX8_seconds 84 = .ok (.iload_n 1, 1) := by decide +kernel
theorem dX8_seconds_85 : decode cX8_seconds 85 = .ok (.iload_n 2, 1) := by decide +kernel
theorem dX8_seconds_86 : decode cX8_seconds 86 = .ok (.iload_n 3, 1) := by decide +kernel
theorem dX8_seconds_87 : decode cX8_seconds 87 = .ok (.invokevirtual 166, 3) := by decide +kernel
theorem dX8_seconds_90 : decode cX8_seconds 90 = .ok (.aload_n 0, 1) := by decide +kernel
theorem dX8_seconds_91 : decode cX8_seconds 91 = .ok (.getfield 9, 3) := by decide +kernel
theorem dX8_seconds_94 : decode cX8_seconds 94 = .ok (.iload_n 1, 1) := by decide +kernel
theorem dX8_seconds_95 : decode cX8_seconds 95 = .ok (.bipush 6, 2) := by decide +kernel
theorem dX8_seconds_97 : decode cX8_seconds 97 = .ok (.iastore, 1) := by decide +kernel
theorem dX8_seconds_98 : decode cX8_seconds 98 = .ok (.return_, 1) := by decide +kernel
theorem dX8_meets_0 : decode cX8_meets 0 = .ok (.aload_n 0, 1) := by decide +kernel
theorem dX8_meets_1 : decode cX8_meets 1 = .ok (.getfield 53, 3) := by decide +kernel
theorem dX8_meets_4 : decode cX8_meets 4 = .ok (.iload_n 1, 1) := by decide +kernel
theorem dX8_meets_5 : decode cX8_meets 5 = .ok (.iaload, 1) := by decide +kernel
theorem dX8_meets_6 : decode cX8_meets 6 = .ok (.istore_n 2, 1) := by decide +kernel
theorem dX8_meets_7 : decode cX8_meets 7 = .ok (.bipush 8, 2) := by decide +kernel
theorem dX8_meets_9 : decode cX8_meets 9 = .ok (.iload_n 1, 1) := by decide +kernel
theorem dX8_meets_10 : decode cX8_meets 10 = .ok (.imul, 1) := by decide +kernel
theorem dX8_meets_11 : decode cX8_meets 11 = .ok (.aload_n 0, 1) := by decide +kernel
theorem dX8_meets_12 : decode cX8_meets 12 = .ok (.getfield 44, 3) := by decide +kernel
theorem dX8_meets_15 : decode cX8_meets 15 = .ok (.iload_n 1, 1) := by decide +kernel
theorem dX8_meets_16 : decode cX8_meets 16 = .ok (.iaload, 1) := by decide +kernel
theorem dX8_meets_17 : decode cX8_meets 17 = .ok (.iadd, 1) := by decide +kernel
theorem dX8_meets_18 : decode cX8_meets 18 = .ok (.istore_n 3, 1) := by decide +kernel
theorem dX8_meets_19 : decode cX8_meets 19 = .ok (.aload_n 0, 1) := by decide +kernel
theorem dX8_meets_20 : decode cX8_meets 20 = .ok (.getfield 104, 3) := by decide +kernel
theorem dX8_meets_23 : decode cX8_meets 23 = .ok (.sipush 1001, 3) := by decide +kernel
theorem dX8_meets_26 : decode cX8_meets 26 = .ok (.iload_n 1, 1) := by decide +kernel
theorem dX8_meets_27 : decode cX8_meets 27 = .ok (.imul, 1) := by decide +kernel
theorem dX8_meets_28 : decode cX8_meets 28 = .ok (.aload_n 0, 1) := by decide +kernel
theorem dX8_meets_29 : decode cX8_meets 29 = .ok (.getfield 38, 3) := by decide +kernel
theorem dX8_meets_32 : decode cX8_meets 32 = .ok (.iload_n 1, 1) := by decide +kernel
theorem dX8_meets_33 : decode cX8_meets 33 = .ok (.iaload, 1) := by decide +kernel
theorem dX8_meets_34 : decode cX8_meets 34 = .ok (.iadd, 1) := by decide +kernel
theorem dX8_meets_35 : decode cX8_meets 35 = .ok (.dup2, 1) := by decide +kernel
theorem dX8_meets_36 : decode cX8_meets 36 = .ok (.iaload, 1) := by decide +kernel
theorem dX8_meets_37 : decode cX8_meets 37 = .ok (.iconst 1, 1) := by decide +kernel
theorem dX8_meets_38 : decode cX8_meets 38 = .ok (.iadd, 1) := by decide +kernel
theorem dX8_meets_39 : decode cX8_meets 39 = .ok (.iastore, 1) := by decide +kernel
theorem dX8_meets_40 : decode cX8_meets 40 = .ok (.aload_n 0, 1) := by decide +kernel
theorem dX8_meets_41 : decode cX8_meets 41 = .ok (.getfield 104, 3) := by decide +kernel
theorem dX8_meets_44 : decode cX8_meets 44 = .ok (.sipush 1001, 3) := by decide +kernel
theorem dX8_meets_47 : decode cX8_meets 47 = .ok (.iload_n 2, 1) := by decide +kernel
theorem dX8_meets_48 : decode cX8_meets 48 = .ok (.imul, 1) := by decide +kernel
theorem dX8_meets_49 : decode cX8_meets 49 = .ok (.aload_n 0, 1) := by decide +kernel
theorem dX8_meets_50 : decode cX8_meets 50 = .ok (.getfield 56, 3) := by decide +kernel
theorem dX8_meets_53 : decode cX8_meets 53 = .ok (.iload_n 1, 1) := by decide +kernel
theorem dX8_meets_54 : decode cX8_meets 54 = .ok (.iaload, 1) := by decide +kernel
theorem dX8_meets_55 : decode cX8_meets 55 = .ok (.iadd, 1) := by decide +kernel
theorem dX8_meets_56 : decode cX8_meets 56 = .ok (.dup2, 1) := by decide +kernel
theorem dX8_meets_57 : decode cX8_meets 57 = .ok (.iaload, 1) := by decide +kernel
theorem dX8_meets_58 : decode cX8_meets 58 = .ok (.iconst 1, 1) := by decide +kernel
theorem dX8_meets_59 : decode cX8_meets 59 = .ok (.iadd, 1) := by decide +kernel
theorem dX8_meets_60 : decode cX8_meets 60 = .ok (.iastore, 1) := by decide +kernel
theorem dX8_meets_61 : decode cX8_meets 61 = .ok (.aload_n 0, 1) := by decide +kernel
theorem dX8_meets_62 : decode cX8_meets 62 = .ok (.getfield 173, 3) := by decide +kernel
theorem dX8_meets_65 : decode cX8_meets 65 = .ok (.sipush 200, 3) := by decide +kernel
theorem dX8_meets_68 : decode cX8_meets 68 = .ok (.if_icmp .ge 146, 3) := by decide +kernel
theorem dX8_meets_71 : decode cX8_meets 71 = .ok (.bipush 8, 2) := by decide +kernel
theorem dX8_meets_73 : decode cX8_meets 73 = .ok (.aload_n 0, 1) := by decide +kernel
theorem dX8_meets_74 : decode cX8_meets 74 = .ok (.getfield 173, 3) := by decide +kernel
theorem dX8_meets_77 : decode cX8_meets 77 = .ok (.imul, 1) := by decide +kernel
theorem dX8_meets_78 : decode cX8_meets 78 = .ok (.istore 4, 2) := by decide +kernel
theorem dX8_meets_80 : decode cX8_meets 80 = .ok (.aload_n 0, 1) := by decide +kernel
theorem dX8_meets_81 : decode cX8_meets 81 = .ok (.getfield 101, 3) := by decide +kernel
theorem dX8_meets_84 : decode cX8_meets 84 = .ok (.iload 4, 2) := by decide +kernel
theorem dX8_meets_86 : decode cX8_meets 86 = .ok (.iload_n 1, 1) := by decide +kernel
theorem dX8_meets_87 : decode cX8_meets 87 = .ok (.iastore, 1) := by decide +kernel
theorem dX8_meets_88 : decode cX8_meets 88 = .ok (.aload_n 0, 1) := by decide +kernel
theorem dX8_meets_89 : decode cX8_meets 89 = .ok (.getfield 101, 3) := by decide +kernel
theorem dX8_meets_92 : decode cX8_meets 92 = .ok (.iload 4, 2) := by decide +kernel
theorem dX8_meets_94 : decode cX8_meets 94 = .ok (.iconst 1, 1) := by decide +kernel
theorem dX8_meets_95 : decode cX8_meets 95 = .ok (.iadd, 1) := by decide +kernel
theorem dX8_meets_96 : decode cX8_meets 96 = .ok (.iload_n 2, 1) := by decide +kernel
theorem dX8_meets_97 : decode cX8_meets 97 = .ok (.iastore, 1) := by decide +kernel
theorem dX8_meets_98 : decode cX8_meets 98 = .ok (.aload_n 0, 1) := by decide +kernel
theorem dX8_meets_99 : decode cX8_meets 99 = .ok (.getfield 101, 3) := by decide +kernel
theorem dX8_meets_102 : decode cX8_meets 102 = .ok (.iload 4, 2) := by decide +kernel
theorem dX8_meets_104 : decode cX8_meets 104 = .ok (.iconst 2, 1) := by decide +kernel
theorem dX8_meets_105 : decode cX8_meets 105 = .ok (.iadd, 1) := by decide +kernel
theorem dX8_meets_106 : decode cX8_meets 106 = .ok (.aload_n 0, 1) := by decide +kernel
theorem dX8_meets_107 : decode cX8_meets 107 = .ok (.getfield 19, 3) := by decide +kernel
theorem dX8_meets_110 : decode cX8_meets 110 = .ok (.iload_n 3, 1) := by decide +kernel
theorem dX8_meets_111 : decode cX8_meets 111 = .ok (.iaload, 1) := by decide +kernel
theorem dX8_meets_112 : decode cX8_meets 112 = .ok (.iastore, 1) := by decide +kernel
theorem dX8_meets_113 : decode cX8_meets 113 = .ok (.aload_n 0, 1) := by decide +kernel
theorem dX8_meets_114 : decode cX8_meets 114 = .ok (.getfield 101, 3) := by decide +kernel
theorem dX8_meets_117 : decode cX8_meets 117 = .ok (.iload 4, 2) := by decide +kernel
theorem dX8_meets_119 : decode cX8_meets 119 = .ok (.iconst 3, 1) := by decide +kernel
theorem dX8_meets_120 : decode cX8_meets 120 = .ok (.iadd, 1) := by decide +kernel
theorem dX8_meets_121 : decode cX8_meets 121 = .ok (.aload_n 0, 1) := by decide +kernel
theorem dX8_meets_122 : decode cX8_meets 122 = .ok (.getfield 16, 3) := by decide +kernel
theorem dX8_meets_125 : decode cX8_meets 125 = .ok (.iload_n 3, 1) := by decide +kernel
theorem dX8_meets_126 : decode cX8_meets 126 = .ok (.iaload, 1) := by decide +kernel
theorem dX8_meets_127 : decode cX8_meets 127 = .ok (.ifCond .ne 12, 3) := by decide +kernel
theorem dX8_meets_130 : decode cX8_meets 130 = .ok (.aload_n 0, 1) := by decide +kernel
theorem dX8_meets_131 : decode cX8_meets 131 = .ok (.getfield 22, 3) := by decide +kernel
theorem dX8_meets_134 : decode cX8_meets 134 = .ok (.iload_n 3, 1) := by decide +kernel
theorem dX8_meets_135 : decode cX8_meets 135 = .ok (.iaload, 1) := by decide +kernel
theorem dX8_meets_136 : decode cX8_meets 136 = .ok (.goto 9, 3) := by decide +kernel
theorem dX8_meets_139 : decode cX8_meets 139 = .ok (.aload_n 0, 1) := by decide +kernel
theorem dX8_meets_140 : decode cX8_meets 140 = .ok (.getfield 59, 3) := by decide +kernel
theorem dX8_meets_143 : decode cX8_meets 143 = .ok (.iload_n 1, 1) := by decide +kernel
theorem dX8_meets_144 : decode cX8_meets 144 = .ok (.iaload, 1) := by decide +kernel
theorem dX8_meets_145 : decode cX8_meets 145 = .ok (.iastore, 1) := by decide +kernel
theorem dX8_meets_146 : decode cX8_meets 146 = .ok (.aload_n 0, 1) := by decide +kernel
theorem dX8_meets_147 : decode cX8_meets 147 = .ok (.getfield 101, 3) := by decide +kernel
theorem dX8_meets_150 : decode cX8_meets 150 = .ok (.iload 4, 2) := by decide +kernel
theorem dX8_meets_152 : decode cX8_meets 152 = .ok (.iconst 4, 1) := by decide +kernel
theorem dX8_meets_153 : decode cX8_meets 153 = .ok (.iadd, 1) := by decide +kernel
theorem dX8_meets_154 : decode cX8_meets 154 = .ok (.aload_n 0, 1) := by decide +kernel
theorem dX8_meets_155 : decode cX8_meets 155 = .ok (.getfield 16, 3) := by decide +kernel
theorem dX8_meets_158 : decode cX8_meets 158 = .ok (.iload_n 3, 1) := by decide +kernel
theorem dX8_meets_159 : decode cX8_meets 159 = .ok (.iaload, 1) := by decide +kernel
theorem dX8_meets_160 : decode cX8_meets 160 = .ok (.ifCond .ne 7, 3) := by decide +kernel
theorem dX8_meets_163 : decode cX8_meets 163 = .ok (.iload_n 1, 1) := by decide +kernel
theorem dX8_meets_164 : decode cX8_meets 164 = .ok (.goto 4, 3) := by decide +kernel
theorem dX8_meets_167 : decode cX8_meets 167 = .ok (.iload_n 2, 1) := by decide +kernel
theorem dX8_meets_168 : decode cX8_meets 168 = .ok (.iastore, 1) := by decide +kernel
theorem dX8_meets_169 : decode cX8_meets 169 = .ok (.aload_n 0, 1) := by decide +kernel
theorem dX8_meets_170 : decode cX8_meets 170 = .ok (.getfield 101, 3) := by decide +kernel
theorem dX8_meets_173 : decode cX8_meets 173 = .ok (.iload 4, 2) := by decide +kernel
theorem dX8_meets_175 : decode cX8_meets 175 = .ok (.iconst 5, 1) := by decide +kernel
theorem dX8_meets_176 : decode cX8_meets 176 = .ok (.iadd, 1) := by decide +kernel
theorem dX8_meets_177 : decode cX8_meets 177 = .ok (.aload_n 0, 1) := by decide +kernel
theorem dX8_meets_178 : decode cX8_meets 178 = .ok (.getfield 38, 3) := by decide +kernel
theorem dX8_meets_181 : decode cX8_meets 181 = .ok (.iload_n 1, 1) := by decide +kernel
theorem dX8_meets_182 : decode cX8_meets 182 = .ok (.iaload, 1) := by decide +kernel
theorem dX8_meets_183 : decode cX8_meets 183 = .ok (.iastore, 1) := by decide +kernel
theorem dX8_meets_184 : decode cX8_meets 184 = .ok (.aload_n 0, 1) := by decide +kernel
theorem dX8_meets_185 : decode cX8_meets 185 = .ok (.getfield 101, 3) := by decide +kernel
theorem dX8_meets_188 : decode cX8_meets 188 = .ok (.iload 4, 2) := by decide +kernel
theorem dX8_meets_190 : decode cX8_meets 190 = .ok (.bipush 6, 2) := by decide +kernel
theorem dX8_meets_192 : decode cX8_meets 192 = .ok (.iadd, 1) := by decide +kernel
theorem dX8_meets_193 : decode cX8_meets 193 = .ok (.aload_n 0, 1) := by decide +kernel
theorem dX8_meets_194 : decode cX8_meets 194 = .ok (.getfield 56, 3) := by decide +kernel
theorem dX8_meets_197 : decode cX8_meets 197 = .ok (.iload_n 1, 1) := by decide +kernel
theorem dX8_meets_198 : decode cX8_meets 198 = .ok (.iaload, 1) := by decide +kernel
theorem dX8_meets_199 : decode cX8_meets 199 = .ok (.iastore, 1) := by decide +kernel
theorem dX8_meets_200 : decode cX8_meets 200 = .ok (.aload_n 0, 1) := by decide +kernel
theorem dX8_meets_201 : decode cX8_meets 201 = .ok (.getfield 101, 3) := by decide +kernel
theorem dX8_meets_204 : decode cX8_meets 204 = .ok (.iload 4, 2) := by decide +kernel
theorem dX8_meets_206 : decode cX8_meets 206 = .ok (.bipush 7, 2) := by decide +kernel
theorem dX8_meets_208 : decode cX8_meets 208 = .ok (.iadd, 1) := by decide +kernel
theorem dX8_meets_209 : decode cX8_meets 209 = .ok (.aload_n 0, 1) := by decide +kernel
theorem dX8_meets_210 : decode cX8_meets 210 = .ok (.getfield 176, 3) := by decide +kernel
theorem dX8_meets_213 : decode cX8_meets 213 = .ok (.iastore, 1) := by decide +kernel
theorem dX8_meets_214 : decode cX8_meets 214 = .ok (.aload_n 0, 1) := by decide +kernel
theorem dX8_meets_215 : decode cX8_meets 215 = .ok (.dup, 1) := by decide +kernel
theorem dX8_meets_216 : decode cX8_meets 216 = .ok (.getfield 173, 3) := by decide +kernel
theorem dX8_meets_219 : decode cX8_meets 219 = .ok (.iconst 1, 1) := by decide +kernel
theorem dX8_meets_220 : decode cX8_meets 220 = .ok (.iadd, 1) := by decide +kernel
theorem dX8_meets_221 : decode cX8_meets 221 = .ok (.putfield 173, 3) := by decide +kernel
theorem dX8_meets_224 : decode cX8_meets 224 = .ok (.return_, 1) := by decide +kernel
theorem dX8_tells_0 : decode cX8_tells 0 = .ok (.aload_n 0, 1) := by decide +kernel
theorem dX8_tells_1 : decode cX8_tells 1 = .ok (.getfield 35, 3) := by decide +kernel
theorem dX8_tells_4 : decode cX8_tells 4 = .ok (.iload_n 1, 1) := by decide +kernel
theorem dX8_tells_5 : decode cX8_tells 5 = .ok (.iconst 3, 1) := by decide +kernel
theorem dX8_tells_6 : decode cX8_tells 6 = .ok (.iastore, 1) := by decide +kernel
theorem dX8_tells_7 : decode cX8_tells 7 = .ok (.aload_n 0, 1) := by decide +kernel
theorem dX8_tells_8 : decode cX8_tells 8 = .ok (.getfield 68, 3) := by decide +kernel
theorem dX8_tells_11 : decode cX8_tells 11 = .ok (.iload_n 1, 1) := by decide +kernel
theorem dX8_tells_12 : decode cX8_tells 12 = .ok (.iconst 1, 1) := by decide +kernel
theorem dX8_tells_13 : decode cX8_tells 13 = .ok (.bastore, 1) := by decide +kernel
theorem dX8_tells_14 : decode cX8_tells 14 = .ok (.aload_n 0, 1) := by decide +kernel
theorem dX8_tells_15 : decode cX8_tells 15 = .ok (.getfield 71, 3) := by decide +kernel
theorem dX8_tells_18 : decode cX8_tells 18 = .ok (.iload_n 1, 1) := by decide +kernel
theorem dX8_tells_19 : decode cX8_tells 19 = .ok (.iload_n 2, 1) := by decide +kernel
theorem dX8_tells_20 : decode cX8_tells 20 = .ok (.iastore, 1) := by decide +kernel
theorem dX8_tells_21 : decode cX8_tells 21 = .ok (.aload_n 0, 1) := by decide +kernel
theorem dX8_tells_22 : decode cX8_tells 22 = .ok (.getfield 77, 3) := by decide +kernel
theorem dX8_tells_25 : decode cX8_tells 25 = .ok (.iload_n 1, 1) := by decide +kernel
theorem dX8_tells_26 : decode cX8_tells 26 = .ok (.iload_n 3, 1) := by decide +kernel
theorem dX8_tells_27 : decode cX8_tells 27 = .ok (.iastore, 1) := by decide +kernel
theorem dX8_tells_28 : decode cX8_tells 28 = .ok (.aload_n 0, 1) := by decide +kernel
theorem dX8_tells_29 : decode cX8_tells 29 = .ok (.getfield 80, 3) := by decide +kernel
theorem dX8_tells_32 : decode cX8_tells 32 = .ok (.iload_n 1, 1) := by decide +kernel
theorem dX8_tells_33 : decode cX8_tells 33 = .ok (.aload_n 0, 1) := by decide +kernel
theorem dX8_tells_34 : decode cX8_tells 34 = .ok (.getfield 38, 3) := by decide +kernel
theorem dX8_tells_37 : decode cX8_tells 37 = .ok (.iload_n 1, 1) := by decide +kernel
theorem dX8_tells_38 : decode cX8_tells 38 = .ok (.iaload, 1) := by decide +kernel
theorem dX8_tells_39 : decode cX8_tells 39 = .ok (.iastore, 1) := by decide +kernel
theorem dX8_tells_40 : decode cX8_tells 40 = .ok (.return_, 1) := by decide +kernel
theorem dX8_ends_0 : decode cX8_ends 0 = .ok (.aload_n 0, 1) := by decide +kernel
theorem dX8_ends_1 : decode cX8_ends 1 = .ok (.getfield 35, 3) := by decide +kernel
theorem dX8_ends_4 : decode cX8_ends 4 = .ok (.iload_n 1, 1) := by decide +kernel
theorem dX8_ends_5 : decode cX8_ends 5 = .ok (.iaload, 1) := by decide +kernel
theorem dX8_ends_6 : decode cX8_ends 6 = .ok (.iconst 1, 1) := by decide +kernel
theorem dX8_ends_7 : decode cX8_ends 7 = .ok (.if_icmp .ne 23, 3) := by decide +kernel
theorem dX8_ends_10 : decode cX8_ends 10 = .ok (.aload_n 0, 1) := by decide +kernel
theorem dX8_ends_11 : decode cX8_ends 11 = .ok (.iload_n 1, 1) := by decide +kernel
theorem dX8_ends_12 : decode cX8_ends 12 = .ok (.invokevirtual 179, 3) := by decide +kernel
theorem dX8_ends_15 : decode cX8_ends 15 = .ok (.aload_n 0, 1) := by decide +kernel
theorem dX8_ends_16 : decode cX8_ends 16 = .ok (.getfield 65, 3) := by decide +kernel
theorem dX8_ends_19 : decode cX8_ends 19 = .ok (.iload_n 1, 1) := by decide +kernel
theorem dX8_ends_20 : decode cX8_ends 20 = .ok (.iconst 1, 1) := by decide +kernel
theorem dX8_ends_21 : decode cX8_ends 21 = .ok (.bastore, 1) := by decide +kernel
theorem dX8_ends_22 : decode cX8_ends 22 = .ok (.aload_n 0, 1) := by decide +kernel
theorem dX8_ends_23 : decode cX8_ends 23 = .ok (.iload_n 1, 1) := by decide +kernel
theorem dX8_ends_24 : decode cX8_ends 24 = .ok (.invokevirtual 163, 3) := by decide +kernel
theorem dX8_ends_27 : decode cX8_ends 27 = .ok (.goto 18, 3) := by decide +kernel
theorem dX8_ends_30 : decode cX8_ends 30 = .ok (.aload_n 0, 1) := by decide +kernel
theorem dX8_ends_31 : decode cX8_ends 31 = .ok (.getfield 35, 3) := by decide +kernel
theorem dX8_ends_34 : decode cX8_ends 34 = .ok (.iload_n 1, 1) := by decide +kernel
theorem dX8_ends_35 : decode cX8_ends 35 = .ok (.iaload, 1) := by decide +kernel
theorem dX8_ends_36 : decode cX8_ends 36 = .ok (.iconst 3, 1) := by decide +kernel
theorem dX8_ends_37 : decode cX8_ends 37 = .ok (.if_icmp .ne 8, 3) := by decide +kernel
theorem dX8_ends_40 : decode cX8_ends 40 = .ok (.aload_n 0, 1) := by decide +kernel
theorem dX8_ends_41 : decode cX8_ends 41 = .ok (.iload_n 1, 1) := by decide +kernel
theorem dX8_ends_42 : decode cX8_ends 42 = .ok (.invokevirtual 163, 3) := by decide +kernel
theorem dX8_ends_45 : decode cX8_ends 45 = .ok (.return_, 1) := by decide +kernel
theorem dX8_goesOut_0 : decode cX8_goesOut 0 = .ok (.aload_n 0, 1) := by decide +kernel
theorem dX8_goesOut_1 : decode cX8_goesOut 1 = .ok (.getfield 35, 3) := by decide +kernel
theorem dX8_goesOut_4 : decode cX8_goesOut 4 = .ok (.iload_n 1, 1) := by decide +kernel
theorem dX8_goesOut_5 : decode cX8_goesOut 5 = .ok (.iconst 4, 1) := by decide +kernel
theorem dX8_goesOut_6 : decode cX8_goesOut 6 = .ok (.iastore, 1) := by decide +kernel
theorem dX8_goesOut_7 : decode cX8_goesOut 7 = .ok (.aload_n 0, 1) := by decide +kernel
theorem dX8_goesOut_8 : decode cX8_goesOut 8 = .ok (.getfield 107, 3) := by decide +kernel
theorem dX8_goesOut_11 : decode cX8_goesOut 11 = .ok (.sipush 1001, 3) := by decide +kernel
theorem dX8_goesOut_14 : decode cX8_goesOut 14 = .ok (.iload_n 1, 1) := by decide +kernel
theorem dX8_goesOut_15 : decode cX8_goesOut 15 = .ok (.imul, 1) := by decide +kernel
theorem dX8_goesOut_16 : decode cX8_goesOut 16 = .ok (.aload_n 0, 1) := by decide +kernel
theorem dX8_goesOut_17 : decode cX8_goesOut 17 = .ok (.getfield 38, 3) := by decide +kernel
theorem dX8_goesOut_20 : decode cX8_goesOut 20 = .ok (.iload_n 1, 1) := by decide +kernel
theorem dX8_goesOut_21 : decode cX8_goesOut 21 = .ok (.iaload, 1) := by decide +kernel
theorem dX8_goesOut_22 : decode cX8_goesOut 22 = .ok (.iadd, 1) := by decide +kernel
theorem dX8_goesOut_23 : decode cX8_goesOut 23 = .ok (.iconst 1, 1) := by decide +kernel
theorem dX8_goesOut_24 : decode cX8_goesOut 24 = .ok (.bastore, 1) := by decide +kernel
theorem dX8_goesOut_25 : decode cX8_goesOut 25 = .ok (.return_, 1) := by decide +kernel
theorem dX8_isDue_0 : decode cX8_isDue 0 = .ok (.aload_n 0, 1) := by decide +kernel
theorem dX8_isDue_1 : decode cX8_isDue 1 = .ok (.getfield 9, 3) := by decide +kernel
theorem dX8_isDue_4 : decode cX8_isDue 4 = .ok (.iload_n 1, 1) := by decide +kernel
theorem dX8_isDue_5 : decode cX8_isDue 5 = .ok (.iaload, 1) := by decide +kernel
theorem dX8_isDue_6 : decode cX8_isDue 6 = .ok (.iconst 2, 1) := by decide +kernel
theorem dX8_isDue_7 : decode cX8_isDue 7 = .ok (.if_icmp .eq 35, 3) := by decide +kernel
theorem dX8_isDue_10 : decode cX8_isDue 10 = .ok (.aload_n 0, 1) := by decide +kernel
theorem dX8_isDue_11 : decode cX8_isDue 11 = .ok (.getfield 9, 3) := by decide +kernel
theorem dX8_isDue_14 : decode cX8_isDue 14 = .ok (.iload_n 1, 1) := by decide +kernel
theorem dX8_isDue_15 : decode cX8_isDue 15 = .ok (.iaload, 1) := by decide +kernel
theorem dX8_isDue_16 : decode cX8_isDue 16 = .ok (.iconst 3, 1) := by decide +kernel
theorem dX8_isDue_17 : decode cX8_isDue 17 = .ok (.if_icmp .eq 25, 3) := by decide +kernel
theorem dX8_isDue_20 : decode cX8_isDue 20 = .ok (.aload_n 0, 1) := by decide +kernel
theorem dX8_isDue_21 : decode cX8_isDue 21 = .ok (.getfield 9, 3) := by decide +kernel
theorem dX8_isDue_24 : decode cX8_isDue 24 = .ok (.iload_n 1, 1) := by decide +kernel
theorem dX8_isDue_25 : decode cX8_isDue 25 = .ok (.iaload, 1) := by decide +kernel
theorem dX8_isDue_26 : decode cX8_isDue 26 = .ok (.bipush 9, 2) := by decide +kernel
theorem dX8_isDue_28 : decode cX8_isDue 28 = .ok (.if_icmp .eq 14, 3) := by decide +kernel
theorem dX8_isDue_31 : decode cX8_isDue 31 = .ok (.aload_n 0, 1) := by decide +kernel
theorem dX8_isDue_32 : decode cX8_isDue 32 = .ok (.getfield 9, 3) := by decide +kernel
theorem dX8_isDue_35 : decode cX8_isDue 35 = .ok (.iload_n 1, 1) := by decide +kernel
theorem dX8_isDue_36 : decode cX8_isDue 36 = .ok (.iaload, 1) := by decide +kernel
theorem dX8_isDue_37 : decode cX8_isDue 37 = .ok (.bipush 10, 2) := by decide +kernel
theorem dX8_isDue_39 : decode cX8_isDue 39 = .ok (.if_icmp .ne 7, 3) := by decide +kernel
theorem dX8_isDue_42 : decode cX8_isDue 42 = .ok (.iconst 1, 1) := by decide +kernel
theorem dX8_isDue_43 : decode cX8_isDue 43 = .ok (.goto 4, 3) := by decide +kernel
theorem dX8_isDue_46 : decode cX8_isDue 46 = .ok (.iconst 0, 1) := by decide +kernel
theorem dX8_isDue_47 : decode cX8_isDue 47 = .ok (.istore_n 2, 1) := by decide +kernel
theorem dX8_isDue_48 : decode cX8_isDue 48 = .ok (.iload_n 2, 1) := by decide +kernel
theorem dX8_isDue_49 : decode cX8_isDue 49 = .ok (.ifCond .eq 30, 3) := by decide +kernel
theorem dX8_isDue_52 : decode cX8_isDue 52 = .ok (.aload_n 0, 1) := by decide +kernel
theorem dX8_isDue_53 : decode cX8_isDue 53 = .ok (.getfield 32, 3) := by decide +kernel
theorem dX8_isDue_56 : decode cX8_isDue 56 = .ok (.iload_n 1, 1) := by decide +kernel
theorem dX8_isDue_57 : decode cX8_isDue 57 = .ok (.iaload, 1) := by decide +kernel
theorem dX8_isDue_58 : decode cX8_isDue 58 = .ok (.iconst (-1), 1) := by decide +kernel
theorem dX8_isDue_59 : decode cX8_isDue 59 = .ok (.if_icmp .eq 20, 3) := by decide +kernel
theorem dX8_isDue_62 : decode cX8_isDue 62 = .ok (.aload_n 0, 1) := by decide +kernel
theorem dX8_isDue_63 : decode cX8_isDue 63 = .ok (.getfield 130, 3) := by decide +kernel
theorem dX8_isDue_66 : decode cX8_isDue 66 = .ok (.aload_n 0, 1) := by decide +kernel
theorem dX8_isDue_67 : decode cX8_isDue 67 = .ok (.getfield 32, 3) := by decide +kernel
theorem dX8_isDue_70 : decode cX8_isDue 70 = .ok (.iload_n 1, 1) := by decide +kernel
theorem dX8_isDue_71 : decode cX8_isDue 71 = .ok (.iaload, 1) := by decide +kernel
theorem dX8_isDue_72 : decode cX8_isDue 72 = .ok (.if_icmp .lt 7, 3) := by decide +kernel
theorem dX8_isDue_75 : decode cX8_isDue 75 = .ok (.iconst 1, 1) := by decide +kernel
theorem dX8_isDue_76 : decode cX8_isDue 76 = .ok (.goto 4, 3) := by decide +kernel
theorem dX8_isDue_79 : decode cX8_isDue 79 = .ok (.iconst 0, 1) := by decide +kernel
theorem dX8_isDue_80 : decode cX8_isDue 80 = .ok (.ireturn, 1) := by decide +kernel
theorem dX8_turns_0 : decode cX8_turns 0 = .ok (.aload_n 0, 1) := by decide +kernel
theorem dX8_turns_1 : decode cX8_turns 1 = .ok (.dup, 1) := by decide +kernel
theorem dX8_turns_2 : decode cX8_turns 2 = .ok (.getfield 176, 3) := by decide +kernel
theorem dX8_turns_5 : decode cX8_turns 5 = .ok (.iconst 1, 1) := by decide +kernel
theorem dX8_turns_6 : decode cX8_turns 6 = .ok (.iadd, 1) := by decide +kernel
theorem dX8_turns_7 : decode cX8_turns 7 = .ok (.putfield 176, 3) := by decide +kernel
theorem dX8_turns_10 : decode cX8_turns 10 = .ok (.bipush 8, 2) := by decide +kernel
theorem dX8_turns_12 : decode cX8_turns 12 = .ok (.iload_n 1, 1) := by decide +kernel
theorem dX8_turns_13 : decode cX8_turns 13 = .ok (.imul, 1) := by decide +kernel
theorem dX8_turns_14 : decode cX8_turns 14 = .ok (.aload_n 0, 1) := by decide +kernel
theorem dX8_turns_15 : decode cX8_turns 15 = .ok (.getfield 44, 3) := by decide +kernel
theorem dX8_turns_18 : decode cX8_turns 18 = .ok (.iload_n 1, 1) := by decide +kernel
theorem dX8_turns_19 : decode cX8_turns 19 = .ok (.iaload, 1) := by decide +kernel
theorem dX8_turns_20 : decode cX8_turns 20 = .ok (.iconst (-1), 1) := by decide +kernel
theorem dX8_turns_21 : decode cX8_turns 21 = .ok (.if_icmp .ne 7, 3) := by decide +kernel
theorem dX8_turns_24 : decode cX8_turns 24 = .ok (.iconst 0, 1) := by decide +kernel
theorem dX8_turns_25 : decode cX8_turns 25 = .ok (.goto 9, 3) := by decide +kernel
theorem dX8_turns_28 : decode cX8_turns 28 = .ok (.aload_n 0, 1) := by decide +kernel
theorem dX8_turns_29 : decode cX8_turns 29 = .ok (.getfield 44, 3) := by decide +kernel
theorem dX8_turns_32 : decode cX8_turns 32 = .ok (.iload_n 1, 1) := by decide +kernel
theorem dX8_turns_33 : decode cX8_turns 33 = .ok (.iaload, 1) := by decide +kernel
theorem dX8_turns_34 : decode cX8_turns 34 = .ok (.iadd, 1) := by decide +kernel
theorem dX8_turns_35 : decode cX8_turns 35 = .ok (.istore_n 2, 1) := by decide +kernel
theorem dX8_turns_36 : decode cX8_turns 36 = .ok (.aload_n 0, 1) := by decide +kernel
theorem dX8_turns_37 : decode cX8_turns 37 = .ok (.iload_n 1, 1) := by decide +kernel
theorem dX8_turns_38 : decode cX8_turns 38 = .ok (.invokevirtual 182, 3) := by decide +kernel
theorem dX8_turns_41 : decode cX8_turns 41 = .ok (.ifCond .eq 9, 3) := by decide +kernel
theorem dX8_turns_44 : decode cX8_turns 44 = .ok (.aload_n 0, 1) := by decide +kernel
theorem dX8_turns_45 : decode cX8_turns 45 = .ok (.iload_n 1, 1) := by decide +kernel
theorem dX8_turns_46 : decode cX8_turns 46 = .ok (.invokevirtual 185, 3) := by decide +kernel
theorem dX8_turns_49 : decode cX8_turns 49 = .ok (.return_, 1) := by decide +kernel
theorem dX8_turns_50 : decode cX8_turns 50 = .ok (.aload_n 0, 1) := by decide +kernel
theorem dX8_turns_51 : decode cX8_turns 51 = .ok (.getfield 9, 3) := by decide +kernel
theorem dX8_turns_54 : decode cX8_turns 54 = .ok (.iload_n 1, 1) := by decide +kernel
theorem dX8_turns_55 : decode cX8_turns 55 = .ok (.iaload, 1) := by decide +kernel
theorem dX8_turns_56 : decode cX8_turns 56 = .ok (.tableswitch 276 2 8 #[44, 90, 98, 106, 114, 167, 225], 44) := by decide +kernel
theorem dX8_turns_100 : decode cX8_turns 100 = .ok (.aload_n 0, 1) := by decide +kernel
theorem dX8_turns_101 : decode cX8_turns 101 = .ok (.iload_n 1, 1) := by decide +kernel
theorem dX8_turns_102 : decode cX8_turns 102 = .ok (.invokevirtual 188, 3) := by decide +kernel
theorem dX8_turns_105 : decode cX8_turns 105 = .ok (.aload_n 0, 1) := by decide +kernel
theorem dX8_turns_106 : decode cX8_turns 106 = .ok (.getfield 44, 3) := by decide +kernel
theorem dX8_turns_109 : decode cX8_turns 109 = .ok (.iload_n 1, 1) := by decide +kernel
theorem dX8_turns_110 : decode cX8_turns 110 = .ok (.aload_n 0, 1) := by decide +kernel
theorem dX8_turns_111 : decode cX8_turns 111 = .ok (.iload_n 1, 1) := by decide +kernel
theorem dX8_turns_112 : decode cX8_turns 112 = .ok (.aload_n 0, 1) := by decide +kernel
theorem dX8_turns_113 : decode cX8_turns 113 = .ok (.getfield 44, 3) := by decide +kernel
theorem dX8_turns_116 : decode cX8_turns 116 = .ok (.iload_n 1, 1) := by decide +kernel
theorem dX8_turns_117 : decode cX8_turns 117 = .ok (.iaload, 1) := by decide +kernel
theorem dX8_turns_118 : decode cX8_turns 118 = .ok (.invokevirtual 126, 3) := by decide +kernel
theorem dX8_turns_121 : decode cX8_turns 121 = .ok (.iastore, 1) := by decide +kernel
theorem dX8_turns_122 : decode cX8_turns 122 = .ok (.aload_n 0, 1) := by decide +kernel
theorem dX8_turns_123 : decode cX8_turns 123 = .ok (.getfield 44, 3) := by decide +kernel
theorem dX8_turns_126 : decode cX8_turns 126 = .ok (.iload_n 1, 1) := by decide +kernel
theorem dX8_turns_127 : decode cX8_turns 127 = .ok (.iaload, 1) := by decide +kernel
theorem dX8_turns_128 : decode cX8_turns 128 = .ok (.iconst (-1), 1) := by decide +kernel
theorem dX8_turns_129 : decode cX8_turns 129 = .ok (.if_icmp .ne 208, 3) := by decide +kernel
theorem dX8_turns_132 : decode cX8_turns 132 = .ok (.aload_n 0, 1) := by decide +kernel
theorem dX8_turns_133 : decode cX8_turns 133 = .ok (.iload_n 1, 1) := by decide +kernel
theorem dX8_turns_134 : decode cX8_turns 134 = .ok (.aload_n 0, 1) := by decide +kernel
theorem dX8_turns_135 : decode cX8_turns 135 = .ok (.iload_n 1, 1) := by decide +kernel
theorem dX8_turns_136 : decode cX8_turns 136 = .ok (.iconst (-1), 1) := by decide +kernel
theorem dX8_turns_137 : decode cX8_turns 137 = .ok (.invokevirtual 126, 3) := by decide +kernel
theorem dX8_turns_140 : decode cX8_turns 140 = .ok (.invokevirtual 149, 3) := by decide +kernel
theorem dX8_turns_143 : decode cX8_turns 143 = .ok (.goto 194, 3) := by decide +kernel
theorem dX8_turns_146 : decode cX8_turns 146 = .ok (.aload_n 0, 1) := by decide +kernel
theorem dX8_turns_147 : decode cX8_turns 147 = .ok (.iload_n 1, 1) := by decide +kernel
theorem dX8_turns_148 : decode cX8_turns 148 = .ok (.invokevirtual 191, 3) := by decide +kernel
theorem dX8_turns_151 : decode cX8_turns 151 = .ok (.goto 186, 3) := by decide +kernel
theorem dX8_turns_154 : decode cX8_turns 154 = .ok (.aload_n 0, 1) := by decide +kernel
theorem dX8_turns_155 : decode cX8_turns 155 = .ok (.iload_n 1, 1) := by decide +kernel
theorem dX8_turns_156 : decode cX8_turns 156 = .ok (.invokevirtual 194, 3) := by decide +kernel
theorem dX8_turns_159 : decode cX8_turns 159 = .ok (.goto 178, 3) := by decide +kernel
theorem dX8_turns_162 : decode cX8_turns 162 = .ok (.aload_n 0, 1) := by decide +kernel
theorem dX8_turns_163 : decode cX8_turns 163 = .ok (.iload_n 1, 1) := by decide +kernel
theorem dX8_turns_164 : decode cX8_turns 164 = .ok (.invokevirtual 197, 3) := by decide +kernel
theorem dX8_turns_167 : decode cX8_turns 167 = .ok (.goto 170, 3) := by decide +kernel
theorem dX8_turns_170 : decode cX8_turns 170 = .ok (.aload_n 0, 1) := by decide +kernel
theorem dX8_turns_171 : decode cX8_turns 171 = .ok (.getfield 35, 3) := by decide +kernel
theorem dX8_turns_174 : decode cX8_turns 174 = .ok (.iload_n 1, 1) := by decide +kernel
theorem dX8_turns_175 : decode cX8_turns 175 = .ok (.aload_n 0, 1) := by decide +kernel
theorem dX8_turns_176 : decode cX8_turns 176 = .ok (.getfield 53, 3) := by decide +kernel
theorem dX8_turns_179 : decode cX8_turns 179 = .ok (.iload_n 1, 1) := by decide +kernel
theorem dX8_turns_180 : decode cX8_turns 180 = .ok (.iaload, 1) := by decide +kernel
theorem dX8_turns_181 : decode cX8_turns 181 = .ok (.if_icmp .ge 7, 3) := by decide +kernel
theorem dX8_turns_184 : decode cX8_turns 184 = .ok (.iload_n 1, 1) := by decide +kernel
theorem dX8_turns_185 : decode cX8_turns 185 = .ok (.goto 9, 3) := by decide +kernel
theorem dX8_turns_188 : decode cX8_turns 188 = .ok (.aload_n 0, 1) := by decide +kernel
theorem dX8_turns_189 : decode cX8_turns 189 = .ok (.getfield 53, 3) := by decide +kernel
theorem dX8_turns_192 : decode cX8_turns 192 = .ok (.iload_n 1, 1) := by decide +kernel
theorem dX8_turns_193 : decode cX8_turns 193 = .ok (.iaload, 1) := by decide +kernel
theorem dX8_turns_194 : decode cX8_turns 194 = .ok (.iconst 1, 1) := by decide +kernel
theorem dX8_turns_195 : decode cX8_turns 195 = .ok (.iastore, 1) := by decide +kernel
theorem dX8_turns_196 : decode cX8_turns 196 = .ok (.aload_n 0, 1) := by decide +kernel
theorem dX8_turns_197 : decode cX8_turns 197 = .ok (.getfield 62, 3) := by decide +kernel
theorem dX8_turns_200 : decode cX8_turns 200 = .ok (.iload_n 1, 1) := by decide +kernel
theorem dX8_turns_201 : decode cX8_turns 201 = .ok (.baload, 1) := by decide +kernel
theorem dX8_turns_202 : decode cX8_turns 202 = .ok (.ifCond .eq 11, 3) := by decide +kernel
theorem dX8_turns_205 : decode cX8_turns 205 = .ok (.aload_n 0, 1) := by decide +kernel
theorem dX8_turns_206 : decode cX8_turns 206 = .ok (.iload_n 1, 1) := by decide +kernel
theorem dX8_turns_207 : decode cX8_turns 207 = .ok (.invokevirtual 163, 3) := by decide +kernel
theorem dX8_turns_210 : decode cX8_turns 210 = .ok (.goto 127, 3) := by decide +kernel
theorem dX8_turns_213 : decode cX8_turns 213 = .ok (.aload_n 0, 1) := by decide +kernel
theorem dX8_turns_214 : decode cX8_turns 214 = .ok (.getfield 9, 3) := by decide +kernel
theorem dX8_turns_217 : decode cX8_turns 217 = .ok (.iload_n 1, 1) := by decide +kernel
theorem dX8_turns_218 : decode cX8_turns 218 = .ok (.iconst 3, 1) := by decide +kernel
theorem dX8_turns_219 : decode cX8_turns 219 = .ok (.iastore, 1) := by decide +kernel
theorem dX8_turns_220 : decode cX8_turns 220 = .ok (.goto 117, 3) := by decide +kernel
theorem dX8_turns_223 : decode cX8_turns 223 = .ok (.aload_n 0, 1) := by decide +kernel
theorem dX8_turns_224 : decode cX8_turns 224 = .ok (.aload_n 0, 1) := by decide +kernel
theorem dX8_turns_225 : decode cX8_turns 225 = .ok (.getfield 53, 3) := by decide +kernel
theorem dX8_turns_228 : decode cX8_turns 228 = .ok (.iload_n 1, 1) := by decide +kernel
theorem dX8_turns_229 : decode cX8_turns 229 = .ok (.iaload, 1) := by decide +kernel
theorem dX8_turns_230 : decode cX8_turns 230 = .ok (.iload_n 1, 1) := by decide +kernel
theorem dX8_turns_231 : decode cX8_turns 231 = .ok (.aload_n 0, 1) := by decide +kernel
theorem dX8_turns_232 : decode cX8_turns 232 = .ok (.getfield 16, 3) := by decide +kernel
theorem dX8_turns_235 : decode cX8_turns 235 = .ok (.iload_n 2, 1) := by decide +kernel
theorem dX8_turns_236 : decode cX8_turns 236 = .ok (.iaload, 1) := by decide +kernel
theorem dX8_turns_237 : decode cX8_turns 237 = .ok (.ifCond .ne 12, 3) := by decide +kernel
theorem dX8_turns_240 : decode cX8_turns 240 = .ok (.aload_n 0, 1) := by decide +kernel
theorem dX8_turns_241 : decode cX8_turns 241 = .ok (.getfield 22, 3) := by decide +kernel
theorem dX8_turns_244 : decode cX8_turns 244 = .ok (.iload_n 2, 1) := by decide +kernel
theorem dX8_turns_245 : decode cX8_turns 245 = .ok (.iaload, 1) := by decide +kernel
theorem dX8_turns_246 : decode cX8_turns 246 = .ok (.goto 4, 3) := by decide +kernel
theorem dX8_turns_249 : decode cX8_turns 249 = .ok (.iconst 0, 1) := by decide +kernel
theorem dX8_turns_250 : decode cX8_turns 250 = .ok (.invokevirtual 200, 3) := by decide +kernel
theorem dX8_turns_253 : decode cX8_turns 253 = .ok (.aload_n 0, 1) := by decide +kernel
theorem dX8_turns_254 : decode cX8_turns 254 = .ok (.getfield 74, 3) := by decide +kernel
theorem dX8_turns_257 : decode cX8_turns 257 = .ok (.aload_n 0, 1) := by decide +kernel
theorem dX8_turns_258 : decode cX8_turns 258 = .ok (.getfield 53, 3) := by decide +kernel
theorem dX8_turns_261 : decode cX8_turns 261 = .ok (.iload_n 1, 1) := by decide +kernel
theorem dX8_turns_262 : decode cX8_turns 262 = .ok (.iaload, 1) := by decide +kernel
theorem dX8_turns_263 : decode cX8_turns 263 = .ok (.aload_n 0, 1) := by decide +kernel
theorem dX8_turns_264 : decode cX8_turns 264 = .ok (.getfield 19, 3) := by decide +kernel
theorem dX8_turns_267 : decode cX8_turns 267 = .ok (.iload_n 2, 1) := by decide +kernel
theorem dX8_turns_268 : decode cX8_turns 268 = .ok (.iaload, 1) := by decide +kernel
theorem dX8_turns_269 : decode cX8_turns 269 = .ok (.iastore, 1) := by decide +kernel
theorem dX8_turns_270 : decode cX8_turns 270 = .ok (.aload_n 0, 1) := by decide +kernel
theorem dX8_turns_271 : decode cX8_turns 271 = .ok (.getfield 9, 3) := by decide +kernel
theorem dX8_turns_274 : decode cX8_turns 274 = .ok (.iload_n 1, 1) := by decide +kernel
theorem dX8_turns_275 : decode cX8_turns 275 = .ok (.bipush 8, 2) := by decide +kernel
theorem dX8_turns_277 : decode cX8_turns 277 = .ok (.iastore, 1) := by decide +kernel
theorem dX8_turns_278 : decode cX8_turns 278 = .ok (.goto 59, 3) := by decide +kernel
theorem dX8_turns_281 : decode cX8_turns 281 = .ok (.aload_n 0, 1) := by decide +kernel
theorem dX8_turns_282 : decode cX8_turns 282 = .ok (.iload_n 1, 1) := by decide +kernel
theorem dX8_turns_283 : decode cX8_turns 283 = .ok (.aload_n 0, 1) := by decide +kernel
theorem dX8_turns_284 : decode cX8_turns 284 = .ok (.getfield 53, 3) := by decide +kernel
theorem dX8_turns_287 : decode cX8_turns 287 = .ok (.iload_n 1, 1) := by decide +kernel
theorem dX8_turns_288 : decode cX8_turns 288 = .ok (.iaload, 1) := by decide +kernel
theorem dX8_turns_289 : decode cX8_turns 289 = .ok (.aload_n 0, 1) := by decide +kernel
theorem dX8_turns_290 : decode cX8_turns 290 = .ok (.getfield 16, 3) := by decide +kernel
theorem dX8_turns_293 : decode cX8_turns 293 = .ok (.iload_n 2, 1) := by decide +kernel
theorem dX8_turns_294 : decode cX8_turns 294 = .ok (.iaload, 1) := by decide +kernel
theorem dX8_turns_295 : decode cX8_turns 295 = .ok (.iconst 1, 1) := by decide +kernel
theorem dX8_turns_296 : decode cX8_turns 296 = .ok (.if_icmp .ne 12, 3) := by decide +kernel
theorem dX8_turns_299 : decode cX8_turns 299 = .ok (.aload_n 0, 1) := by decide +kernel
theorem dX8_turns_300 : decode cX8_turns 300 = .ok (.getfield 59, 3) := by decide +kernel
theorem dX8_turns_303 : decode cX8_turns 303 = .ok (.iload_n 1, 1) := by decide +kernel
theorem dX8_turns_304 : decode cX8_turns 304 = .ok (.iaload, 1) := by decide +kernel
theorem dX8_turns_305 : decode cX8_turns 305 = .ok (.goto 4, 3) := by decide +kernel
theorem dX8_turns_308 : decode cX8_turns 308 = .ok (.iconst 0, 1) := by decide +kernel
theorem dX8_turns_309 : decode cX8_turns 309 = .ok (.invokevirtual 200, 3) := by decide +kernel
theorem dX8_turns_312 : decode cX8_turns 312 = .ok (.aload_n 0, 1) := by decide +kernel
theorem dX8_turns_313 : decode cX8_turns 313 = .ok (.getfield 74, 3) := by decide +kernel
theorem dX8_turns_316 : decode cX8_turns 316 = .ok (.iload_n 1, 1) := by decide +kernel
theorem dX8_turns_317 : decode cX8_turns 317 = .ok (.aload_n 0, 1) := by decide +kernel
theorem dX8_turns_318 : decode cX8_turns 318 = .ok (.getfield 19, 3) := by decide +kernel
theorem dX8_turns_321 : decode cX8_turns 321 = .ok (.iload_n 2, 1) := by decide +kernel
theorem dX8_turns_322 : decode cX8_turns 322 = .ok (.iaload, 1) := by decide +kernel
theorem dX8_turns_323 : decode cX8_turns 323 = .ok (.iastore, 1) := by decide +kernel
theorem dX8_turns_324 : decode cX8_turns 324 = .ok (.aload_n 0, 1) := by decide +kernel
theorem dX8_turns_325 : decode cX8_turns 325 = .ok (.iload_n 1, 1) := by decide +kernel
theorem dX8_turns_326 : decode cX8_turns 326 = .ok (.invokevirtual 163, 3) := by decide +kernel
theorem dX8_turns_329 : decode cX8_turns 329 = .ok (.goto 8, 3) := by decide +kernel
theorem dX8_turns_332 : decode cX8_turns 332 = .ok (.aload_n 0, 1) := by decide +kernel
theorem dX8_turns_333 : decode cX8_turns 333 = .ok (.iload_n 1, 1) := by decide +kernel
theorem dX8_turns_334 : decode cX8_turns 334 = .ok (.invokevirtual 203, 3) := by decide +kernel
theorem dX8_turns_337 : decode cX8_turns 337 = .ok (.return_, 1) := by decide +kernel
theorem dX8_rests_0 : decode cX8_rests 0 = .ok (.aload_n 0, 1) := by decide +kernel
theorem dX8_rests_1 : decode cX8_rests 1 = .ok (.getfield 9, 3) := by decide +kernel
theorem dX8_rests_4 : decode cX8_rests 4 = .ok (.iload_n 1, 1) := by decide +kernel
theorem dX8_rests_5 : decode cX8_rests 5 = .ok (.iaload, 1) := by decide +kernel
theorem dX8_rests_6 : decode cX8_rests 6 = .ok (.bipush 11, 2) := by decide +kernel
theorem dX8_rests_8 : decode cX8_rests 8 = .ok (.if_icmp .ne 20, 3) := by decide +kernel
theorem dX8_rests_11 : decode cX8_rests 11 = .ok (.aload_n 0, 1) := by decide +kernel
theorem dX8_rests_12 : decode cX8_rests 12 = .ok (.aload_n 0, 1) := by decide +kernel
theorem dX8_rests_13 : decode cX8_rests 13 = .ok (.iload_n 1, 1) := by decide +kernel
theorem dX8_rests_14 : decode cX8_rests 14 = .ok (.invokevirtual 139, 3) := by decide +kernel
theorem dX8_rests_17 : decode cX8_rests 17 = .ok (.invokevirtual 206, 3) := by decide +kernel
theorem dX8_rests_20 : decode cX8_rests 20 = .ok (.aload_n 0, 1) := by decide +kernel
theorem dX8_rests_21 : decode cX8_rests 21 = .ok (.iload_n 1, 1) := by decide +kernel
theorem dX8_rests_22 : decode cX8_rests 22 = .ok (.invokevirtual 163, 3) := by decide +kernel
theorem dX8_rests_25 : decode cX8_rests 25 = .ok (.goto 85, 3) := by decide +kernel
theorem dX8_rests_28 : decode cX8_rests 28 = .ok (.aload_n 0, 1) := by decide +kernel
theorem dX8_rests_29 : decode cX8_rests 29 = .ok (.iload_n 1, 1) := by decide +kernel
theorem dX8_rests_30 : decode cX8_rests 30 = .ok (.invokevirtual 160, 3) := by decide +kernel
theorem dX8_rests_33 : decode cX8_rests 33 = .ok (.ifCond .eq 11, 3) := by decide +kernel
theorem dX8_rests_36 : decode cX8_rests 36 = .ok (.aload_n 0, 1) := by decide +kernel
theorem dX8_rests_37 : decode cX8_rests 37 = .ok (.iload_n 1, 1) := by decide +kernel
theorem dX8_rests_38 : decode cX8_rests 38 = .ok (.invokevirtual 163, 3) := by decide +kernel
theorem dX8_rests_41 : decode cX8_rests 41 = .ok (.goto 69, 3) := by decide +kernel
theorem dX8_rests_44 : decode cX8_rests 44 = .ok (.aload_n 0, 1) := by decide +kernel
theorem dX8_rests_45 : decode cX8_rests 45 = .ok (.getfield 9, 3) := by decide +kernel
theorem dX8_rests_48 : decode cX8_rests 48 = .ok (.iload_n 1, 1) := by decide +kernel
theorem dX8_rests_49 : decode cX8_rests 49 = .ok (.iaload, 1) := by decide +kernel
theorem dX8_rests_50 : decode cX8_rests 50 = .ok (.bipush 9, 2) := by decide +kernel
theorem dX8_rests_52 : decode cX8_rests 52 = .ok (.if_icmp .ne 43, 3) := by decide +kernel
theorem dX8_rests_55 : decode cX8_rests 55 = .ok (.aload_n 0, 1) := by decide +kernel
theorem dX8_rests_56 : decode cX8_rests 56 = .ok (.getfield 50, 3) := by decide +kernel
theorem dX8_rests_59 : decode cX8_rests 59 = .ok (.iload_n 1, 1) := by decide +kernel
theorem dX8_rests_60 : decode cX8_rests 60 = .ok (.baload, 1) := by decide +kernel
theorem dX8_rests_61 : decode cX8_rests 61 = .ok (.ifCond .eq 34, 3) := by decide +kernel
theorem dX8_rests_64 : decode cX8_rests 64 = .ok (.aload_n 0, 1) := by decide +kernel
theorem dX8_rests_65 : decode cX8_rests 65 = .ok (.iload_n 1, 1) := by decide +kernel
theorem dX8_rests_66 : decode cX8_rests 66 = .ok (.iconst (-1), 1) := by decide +kernel
theorem dX8_rests_67 : decode cX8_rests 67 = .ok (.invokevirtual 126, 3) := by decide +kernel
theorem dX8_rests_70 : decode cX8_rests 70 = .ok (.iconst (-1), 1) := by decide +kernel
theorem dX8_rests_71 : decode cX8_rests 71 = .ok (.if_icmp .eq 24, 3) := by decide +kernel
theorem dX8_rests_74 : decode cX8_rests 74 = .ok (.aload_n 0, 1) := by decide +kernel
theorem dX8_rests_75 : decode cX8_rests 75 = .ok (.getfield 50, 3) := by decide +kernel
theorem dX8_rests_78 : decode cX8_rests 78 = .ok (.iload_n 1, 1) := by decide +kernel
theorem dX8_rests_79 : decode cX8_rests 79 = .ok (.iconst 0, 1) := by decide +kernel
theorem dX8_rests_80 : decode cX8_rests 80 = .ok (.bastore, 1) := by decide +kernel
theorem dX8_rests_81 : decode cX8_rests 81 = .ok (.aload_n 0, 1) := by decide +kernel
theorem dX8_rests_82 : decode cX8_rests 82 = .ok (.iload_n 1, 1) := by decide +kernel
theorem dX8_rests_83 : decode cX8_rests 83 = .ok (.aload_n 0, 1) := by decide +kernel
theorem dX8_rests_84 : decode cX8_rests 84 = .ok (.iload_n 1, 1) := by decide +kernel
theorem dX8_rests_85 : decode cX8_rests 85 = .ok (.iconst (-1), 1) := by decide +kernel
theorem dX8_rests_86 : decode cX8_rests 86 = .ok (.invokevirtual 126, 3) := by decide +kernel
theorem dX8_rests_89 : decode cX8_rests 89 = .ok (.invokevirtual 149, 3) := by decide +kernel
theorem dX8_rests_92 : decode cX8_rests 92 = .ok (.goto 18, 3) := by decide +kernel
theorem dX8_rests_95 : decode cX8_rests 95 = .ok (.aload_n 0, 1) := by decide +kernel
theorem dX8_rests_96 : decode cX8_rests 96 = .ok (.getfield 50, 3) := by decide +kernel
theorem dX8_rests_99 : decode cX8_rests 99 = .ok (.iload_n 1, 1) := by decide +kernel
theorem dX8_rests_100 : decode cX8_rests 100 = .ok (.iconst 0, 1) := by decide +kernel
theorem dX8_rests_101 : decode cX8_rests 101 = .ok (.bastore, 1) := by decide +kernel
theorem dX8_rests_102 : decode cX8_rests 102 = .ok (.aload_n 0, 1) := by decide +kernel
theorem dX8_rests_103 : decode cX8_rests 103 = .ok (.getfield 9, 3) := by decide +kernel
theorem dX8_rests_106 : decode cX8_rests 106 = .ok (.iload_n 1, 1) := by decide +kernel
theorem dX8_rests_107 : decode cX8_rests 107 = .ok (.bipush 10, 2) := by decide +kernel
theorem dX8_rests_109 : decode cX8_rests 109 = .ok (.iastore, 1) := by decide +kernel
theorem dX8_rests_110 : decode cX8_rests 110 = .ok (.return_, 1) := by decide +kernel
theorem dX8_how_0 : decode cX8_how 0 = .ok (.aload_n 0, 1) := by decide +kernel
theorem dX8_how_1 : decode cX8_how 1 = .ok (.getfield 9, 3) := by decide +kernel
theorem dX8_how_4 : decode cX8_how 4 = .ok (.iload_n 1, 1) := by decide +kernel
theorem dX8_how_5 : decode cX8_how 5 = .ok (.iaload, 1) := by decide +kernel
theorem dX8_how_6 : decode cX8_how 6 = .ok (.bipush 12, 2) := by decide +kernel
theorem dX8_how_8 : decode cX8_how 8 = .ok (.if_icmp .eq 20, 3) := by decide +kernel
theorem dX8_how_11 : decode cX8_how 11 = .ok (.aload_n 0, 1) := by decide +kernel
theorem dX8_how_12 : decode cX8_how 12 = .ok (.getfield 9, 3) := by decide +kernel
theorem dX8_how_15 : decode cX8_how 15 = .ok (.iload_n 1, 1) := by decide +kernel
theorem dX8_how_16 : decode cX8_how 16 = .ok (.iaload, 1) := by decide +kernel
theorem dX8_how_17 : decode cX8_how 17 = .ok (.bipush 10, 2) := by decide +kernel
theorem dX8_how_19 : decode cX8_how 19 = .ok (.if_icmp .ne 7, 3) := by decide +kernel
theorem dX8_how_22 : decode cX8_how 22 = .ok (.iconst 1, 1) := by decide +kernel
theorem dX8_how_23 : decode cX8_how 23 = .ok (.goto 4, 3) := by decide +kernel
theorem dX8_how_26 : decode cX8_how 26 = .ok (.iconst 0, 1) := by decide +kernel
theorem dX8_how_27 : decode cX8_how 27 = .ok (.ireturn, 1) := by decide +kernel
theorem dX8_how_28 : decode cX8_how 28 = .ok (.aload_n 0, 1) := by decide +kernel
theorem dX8_how_29 : decode cX8_how 29 = .ok (.getfield 35, 3) := by decide +kernel
theorem dX8_how_32 : decode cX8_how 32 = .ok (.iload_n 1, 1) := by decide +kernel
theorem dX8_how_33 : decode cX8_how 33 = .ok (.iaload, 1) := by decide +kernel
theorem dX8_how_34 : decode cX8_how 34 = .ok (.iconst 3, 1) := by decide +kernel
theorem dX8_how_35 : decode cX8_how 35 = .ok (.if_icmp .ne 7, 3) := by decide +kernel
theorem dX8_how_38 : decode cX8_how 38 = .ok (.iconst 2, 1) := by decide +kernel
theorem dX8_how_39 : decode cX8_how 39 = .ok (.goto 17, 3) := by decide +kernel
theorem dX8_how_42 : decode cX8_how 42 = .ok (.aload_n 0, 1) := by decide +kernel
theorem dX8_how_43 : decode cX8_how 43 = .ok (.getfield 65, 3) := by decide +kernel
theorem dX8_how_46 : decode cX8_how 46 = .ok (.iload_n 1, 1) := by decide +kernel
theorem dX8_how_47 : decode cX8_how 47 = .ok (.baload, 1) := by decide +kernel
theorem dX8_how_48 : decode cX8_how 48 = .ok (.ifCond .eq 7, 3) := by decide +kernel
theorem dX8_how_51 : decode cX8_how 51 = .ok (.iconst 3, 1) := by decide +kernel
theorem dX8_how_52 : decode cX8_how 52 = .ok (.goto 4, 3) := by decide +kernel
theorem dX8_how_55 : decode cX8_how 55 = .ok (.iconst 5, 1) := by decide +kernel
theorem dX8_how_56 : decode cX8_how 56 = .ok (.ireturn, 1) := by decide +kernel
theorem dX8_step_0 : decode cX8_step 0 = .ok (.aload_n 0, 1) := by decide +kernel
theorem dX8_step_1 : decode cX8_step 1 = .ok (.iload_n 1, 1) := by decide +kernel
theorem dX8_step_2 : decode cX8_step 2 = .ok (.invokevirtual 114, 3) := by decide +kernel
theorem dX8_step_5 : decode cX8_step 5 = .ok (.ifCond .eq 12, 3) := by decide +kernel
theorem dX8_step_8 : decode cX8_step 8 = .ok (.aload_n 0, 1) := by decide +kernel
theorem dX8_step_9 : decode cX8_step 9 = .ok (.getfield 9, 3) := by decide +kernel
theorem dX8_step_12 : decode cX8_step 12 = .ok (.iload_n 1, 1) := by decide +kernel
theorem dX8_step_13 : decode cX8_step 13 = .ok (.iaload, 1) := by decide +kernel
theorem dX8_step_14 : decode cX8_step 14 = .ok (.ifCond .ne 5, 3) := by decide +kernel
theorem dX8_step_17 : decode cX8_step 17 = .ok (.iconst (-1), 1) := by decide +kernel
theorem dX8_step_18 : decode cX8_step 18 = .ok (.ireturn, 1) := by decide +kernel
theorem dX8_step_19 : decode cX8_step 19 = .ok (.aload_n 0, 1) := by decide +kernel
theorem dX8_step_20 : decode cX8_step 20 = .ok (.getfield 9, 3) := by decide +kernel
theorem dX8_step_23 : decode cX8_step 23 = .ok (.iload_n 1, 1) := by decide +kernel
theorem dX8_step_24 : decode cX8_step 24 = .ok (.iaload, 1) := by decide +kernel
theorem dX8_step_25 : decode cX8_step 25 = .ok (.iconst 1, 1) := by decide +kernel
theorem dX8_step_26 : decode cX8_step 26 = .ok (.if_icmp .ne 5, 3) := by decide +kernel
theorem dX8_step_29 : decode cX8_step 29 = .ok (.iconst 4, 1) := by decide +kernel
theorem dX8_step_30 : decode cX8_step 30 = .ok (.ireturn, 1) := by decide +kernel
theorem dX8_step_31 : decode cX8_step 31 = .ok (.aload_n 0, 1) := by decide +kernel
theorem dX8_step_32 : decode cX8_step 32 = .ok (.getfield 9, 3) := by decide +kernel
theorem dX8_step_35 : decode cX8_step 35 = .ok (.iload_n 1, 1) := by decide +kernel
theorem dX8_step_36 : decode cX8_step 36 = .ok (.iaload, 1) := by decide +kernel
theorem dX8_step_37 : decode cX8_step 37 = .ok (.bipush 12, 2) := by decide +kernel
theorem dX8_step_39 : decode cX8_step 39 = .ok (.if_icmp .eq 8, 3) := by decide +kernel
theorem dX8_step_42 : decode cX8_step 42 = .ok (.aload_n 0, 1) := by decide +kernel
theorem dX8_step_43 : decode cX8_step 43 = .ok (.iload_n 1, 1) := by decide +kernel
theorem dX8_step_44 : decode cX8_step 44 = .ok (.invokevirtual 209, 3) := by decide +kernel
theorem dX8_step_47 : decode cX8_step 47 = .ok (.aload_n 0, 1) := by decide +kernel
theorem dX8_step_48 : decode cX8_step 48 = .ok (.iload_n 1, 1) := by decide +kernel
theorem dX8_step_49 : decode cX8_step 49 = .ok (.invokevirtual 212, 3) := by decide +kernel
theorem dX8_step_52 : decode cX8_step 52 = .ok (.ireturn, 1) := by decide +kernel
theorem dX8_cancel_0 : decode cX8_cancel 0 = .ok (.aload_n 0, 1) := by decide +kernel
theorem dX8_cancel_1 : decode cX8_cancel 1 = .ok (.iload_n 1, 1) := by decide +kernel
theorem dX8_cancel_2 : decode cX8_cancel 2 = .ok (.invokevirtual 215, 3) := by decide +kernel
theorem dX8_cancel_5 : decode cX8_cancel 5 = .ok (.ifCond .eq 13, 3) := by decide +kernel
theorem dX8_cancel_8 : decode cX8_cancel 8 = .ok (.aload_n 0, 1) := by decide +kernel
theorem dX8_cancel_9 : decode cX8_cancel 9 = .ok (.getfield 35, 3) := by decide +kernel
theorem dX8_cancel_12 : decode cX8_cancel 12 = .ok (.iload_n 1, 1) := by decide +kernel
theorem dX8_cancel_13 : decode cX8_cancel 13 = .ok (.iaload, 1) := by decide +kernel
theorem dX8_cancel_14 : decode cX8_cancel 14 = .ok (.iconst 1, 1) := by decide +kernel
theorem dX8_cancel_15 : decode cX8_cancel 15 = .ok (.if_icmp .eq 5, 3) := by decide +kernel
theorem dX8_cancel_18 : decode cX8_cancel 18 = .ok (.iconst 0, 1) := by decide +kernel
theorem dX8_cancel_19 : decode cX8_cancel 19 = .ok (.ireturn, 1) := by decide +kernel
theorem dX8_cancel_20 : decode cX8_cancel 20 = .ok (.aload_n 0, 1) := by decide +kernel
theorem dX8_cancel_21 : decode cX8_cancel 21 = .ok (.iload_n 1, 1) := by decide +kernel
theorem dX8_cancel_22 : decode cX8_cancel 22 = .ok (.invokevirtual 179, 3) := by decide +kernel
theorem dX8_cancel_25 : decode cX8_cancel 25 = .ok (.aload_n 0, 1) := by decide +kernel
theorem dX8_cancel_26 : decode cX8_cancel 26 = .ok (.getfield 9, 3) := by decide +kernel
theorem dX8_cancel_29 : decode cX8_cancel 29 = .ok (.iload_n 1, 1) := by decide +kernel
theorem dX8_cancel_30 : decode cX8_cancel 30 = .ok (.iaload, 1) := by decide +kernel
theorem dX8_cancel_31 : decode cX8_cancel 31 = .ok (.istore_n 2, 1) := by decide +kernel
theorem dX8_cancel_32 : decode cX8_cancel 32 = .ok (.iload_n 2, 1) := by decide +kernel
theorem dX8_cancel_33 : decode cX8_cancel 33 = .ok (.iconst 2, 1) := by decide +kernel
theorem dX8_cancel_34 : decode cX8_cancel 34 = .ok (.if_icmp .eq 25, 3) := by decide +kernel
theorem dX8_cancel_37 : decode cX8_cancel 37 = .ok (.iload_n 2, 1) := by decide +kernel
theorem dX8_cancel_38 : decode cX8_cancel 38 = .ok (.iconst 3, 1) := by decide +kernel
theorem dX8_cancel_39 : decode cX8_cancel 39 = .ok (.if_icmp .eq 20, 3) := by decide +kernel
theorem dX8_cancel_42 : decode cX8_cancel 42 = .ok (.iload_n 2, 1) := by decide +kernel
theorem dX8_cancel_43 : decode cX8_cancel 43 = .ok (.iconst 4, 1) := by decide +kernel
theorem dX8_cancel_44 : decode cX8_cancel 44 = .ok (.if_icmp .eq 15, 3) := by decide +kernel
theorem dX8_cancel_47 : decode cX8_cancel 47 = .ok (.iload_n 2, 1) := by decide +kernel
theorem dX8_cancel_48 : decode cX8_cancel 48 = .ok (.bipush 9, 2) := by decide +kernel
theorem dX8_cancel_50 : decode cX8_cancel 50 = .ok (.if_icmp .eq 9, 3) := by decide +kernel
theorem dX8_cancel_53 : decode cX8_cancel 53 = .ok (.iload_n 2, 1) := by decide +kernel
theorem dX8_cancel_54 : decode cX8_cancel 54 = .ok (.bipush 10, 2) := by decide +kernel
theorem dX8_cancel_56 : decode cX8_cancel 56 = .ok (.if_icmp .ne 8, 3) := by decide +kernel
theorem dX8_cancel_59 : decode cX8_cancel 59 = .ok (.aload_n 0, 1) := by decide +kernel
theorem dX8_cancel_60 : decode cX8_cancel 60 = .ok (.iload_n 1, 1) := by decide +kernel
theorem dX8_cancel_61 : decode cX8_cancel 61 = .ok (.invokevirtual 163, 3) := by decide +kernel
theorem dX8_cancel_64 : decode cX8_cancel 64 = .ok (.iconst 1, 1) := by decide +kernel
theorem dX8_cancel_65 : decode cX8_cancel 65 = .ok (.ireturn, 1) := by decide +kernel
theorem dX8_finish_0 : decode cX8_finish 0 = .ok (.aload_n 0, 1) := by decide +kernel
theorem dX8_finish_1 : decode cX8_finish 1 = .ok (.iload_n 1, 1) := by decide +kernel
theorem dX8_finish_2 : decode cX8_finish 2 = .ok (.bipush 12, 2) := by decide +kernel
theorem dX8_finish_4 : decode cX8_finish 4 = .ok (.invokevirtual 118, 3) := by decide +kernel
theorem dX8_finish_7 : decode cX8_finish 7 = .ok (.ifCond .ne 5, 3) := by decide +kernel
theorem dX8_finish_10 : decode cX8_finish 10 = .ok (.iconst 0, 1) := by decide +kernel
theorem dX8_finish_11 : decode cX8_finish 11 = .ok (.ireturn, 1) := by decide +kernel
theorem dX8_finish_12 : decode cX8_finish 12 = .ok (.aload_n 0, 1) := by decide +kernel
theorem dX8_finish_13 : decode cX8_finish 13 = .ok (.iload_n 1, 1) := by decide +kernel
theorem dX8_finish_14 : decode cX8_finish 14 = .ok (.invokevirtual 122, 3) := by decide +kernel
theorem dX8_finish_17 : decode cX8_finish 17 = .ok (.aload_n 0, 1) := by decide +kernel
theorem dX8_finish_18 : decode cX8_finish 18 = .ok (.getfield 35, 3) := by decide +kernel
theorem dX8_finish_21 : decode cX8_finish 21 = .ok (.iload_n 1, 1) := by decide +kernel
theorem dX8_finish_22 : decode cX8_finish 22 = .ok (.iconst 0, 1) := by decide +kernel
theorem dX8_finish_23 : decode cX8_finish 23 = .ok (.iastore, 1) := by decide +kernel
theorem dX8_finish_24 : decode cX8_finish 24 = .ok (.iconst 1, 1) := by decide +kernel
theorem dX8_finish_25 : decode cX8_finish 25 = .ok (.ireturn, 1) := by decide +kernel
theorem dX8_tick_0 : decode cX8_tick 0 = .ok (.aload_n 0, 1) := by decide +kernel
theorem dX8_tick_1 : decode cX8_tick 1 = .ok (.dup, 1) := by decide +kernel
theorem dX8_tick_2 : decode cX8_tick 2 = .ok (.getfield 130, 3) := by decide +kernel
theorem dX8_tick_5 : decode cX8_tick 5 = .ok (.iconst 1, 1) := by decide +kernel
theorem dX8_tick_6 : decode cX8_tick 6 = .ok (.iadd, 1) := by decide +kernel
theorem dX8_tick_7 : decode cX8_tick 7 = .ok (.putfield 130, 3) := by decide +kernel
theorem dX8_tick_10 : decode cX8_tick 10 = .ok (.aload_n 0, 1) := by decide +kernel
theorem dX8_tick_11 : decode cX8_tick 11 = .ok (.getfield 130, 3) := by decide +kernel
theorem dX8_tick_14 : decode cX8_tick 14 = .ok (.ireturn, 1) := by decide +kernel
theorem dX8_run_0 : decode cX8_run 0 = .ok (.iload_n 1, 1) := by decide +kernel
theorem dX8_run_1 : decode cX8_run 1 = .ok (.ifCond .lt 10, 3) := by decide +kernel
theorem dX8_run_4 : decode cX8_run 4 = .ok (.iload_n 1, 1) := by decide +kernel
theorem dX8_run_5 : decode cX8_run 5 = .ok (.sipush 5000, 3) := by decide +kernel
theorem dX8_run_8 : decode cX8_run 8 = .ok (.if_icmp .le 5, 3) := by decide +kernel
theorem dX8_run_11 : decode cX8_run 11 = .ok (.iconst (-1), 1) := by decide +kernel
theorem dX8_run_12 : decode cX8_run 12 = .ok (.ireturn, 1) := by decide +kernel
theorem dX8_run_13 : decode cX8_run 13 = .ok (.iload_n 2, 1) := by decide +kernel
theorem dX8_run_14 : decode cX8_run 14 = .ok (.istore_n 3, 1) := by decide +kernel
theorem dX8_run_15 : decode cX8_run 15 = .ok (.aload_n 0, 1) := by decide +kernel
theorem dX8_run_16 : decode cX8_run 16 = .ok (.getfield 173, 3) := by decide +kernel
theorem dX8_run_19 : decode cX8_run 19 = .ok (.istore 4, 2) := by decide +kernel
theorem dX8_run_21 : decode cX8_run 21 = .ok (.iconst 0, 1) := by decide +kernel
theorem dX8_run_22 : decode cX8_run 22 = .ok (.istore 5, 2) := by decide +kernel
theorem dX8_run_24 : decode cX8_run 24 = .ok (.iload 5, 2) := by decide +kernel
theorem dX8_run_26 : decode cX8_run 26 = .ok (.iload_n 1, 1) := by decide +kernel
theorem dX8_run_27 : decode cX8_run 27 = .ok (.if_icmp .ge 44, 3) := by decide +kernel
theorem dX8_run_30 : decode cX8_run 30 = .ok (.iload_n 3, 1) := by decide +kernel
theorem dX8_run_31 : decode cX8_run 31 = .ok (.ldc 218, 2) := by decide +kernel
theorem dX8_run_33 : decode cX8_run 33 = .ok (.imul, 1) := by decide +kernel
theorem dX8_run_34 : decode cX8_run 34 = .ok (.sipush 12345, 3) := by decide +kernel
theorem dX8_run_37 : decode cX8_run 37 = .ok (.iadd, 1) := by decide +kernel
theorem dX8_run_38 : decode cX8_run 38 = .ok (.istore_n 3, 1) := by decide +kernel
theorem dX8_run_39 : decode cX8_run 39 = .ok (.iload_n 3, 1) := by decide +kernel
theorem dX8_run_40 : decode cX8_run 40 = .ok (.bipush 16, 2) := by decide +kernel
theorem dX8_run_42 : decode cX8_run 42 = .ok (.iushr, 1) := by decide +kernel
theorem dX8_run_43 : decode cX8_run 43 = .ok (.aload_n 0, 1) := by decide +kernel
theorem dX8_run_44 : decode cX8_run 44 = .ok (.getfield 110, 3) := by decide +kernel
theorem dX8_run_47 : decode cX8_run 47 = .ok (.irem, 1) := by decide +kernel
theorem dX8_run_48 : decode cX8_run 48 = .ok (.istore 6, 2) := by decide +kernel
theorem dX8_run_50 : decode cX8_run 50 = .ok (.aload_n 0, 1) := by decide +kernel
theorem dX8_run_51 : decode cX8_run 51 = .ok (.iload 6, 2) := by decide +kernel
theorem dX8_run_53 : decode cX8_run 53 = .ok (.invokevirtual 215, 3) := by decide +kernel
theorem dX8_run_56 : decode cX8_run 56 = .ok (.ifCond .eq 9, 3) := by decide +kernel
theorem dX8_run_59 : decode cX8_run 59 = .ok (.aload_n 0, 1) := by decide +kernel
theorem dX8_run_60 : decode cX8_run 60 = .ok (.iload 6, 2) := by decide +kernel
theorem dX8_run_62 : decode cX8_run 62 = .ok (.invokevirtual 209, 3) := by decide +kernel
theorem dX8_run_65 : decode cX8_run 65 = .ok (.iinc 5 1, 3) := by decide +kernel
theorem dX8_run_68 : decode cX8_run 68 = .ok (.goto (-44), 3) := by decide +kernel
theorem dX8_run_71 : decode cX8_run 71 = .ok (.aload_n 0, 1) := by decide +kernel
theorem dX8_run_72 : decode cX8_run 72 = .ok (.getfield 173, 3) := by decide +kernel
theorem dX8_run_75 : decode cX8_run 75 = .ok (.iload 4, 2) := by decide +kernel
theorem dX8_run_77 : decode cX8_run 77 = .ok (.isub, 1) := by decide +kernel
theorem dX8_run_78 : decode cX8_run 78 = .ok (.ireturn, 1) := by decide +kernel
theorem dX8_phase_0 : decode cX8_phase 0 = .ok (.aload_n 0, 1) := by decide +kernel
theorem dX8_phase_1 : decode cX8_phase 1 = .ok (.iload_n 1, 1) := by decide +kernel
theorem dX8_phase_2 : decode cX8_phase 2 = .ok (.invokevirtual 114, 3) := by decide +kernel
theorem dX8_phase_5 : decode cX8_phase 5 = .ok (.ifCond .eq 12, 3) := by decide +kernel
theorem dX8_phase_8 : decode cX8_phase 8 = .ok (.aload_n 0, 1) := by decide +kernel
theorem dX8_phase_9 : decode cX8_phase 9 = .ok (.getfield 9, 3) := by decide +kernel
theorem dX8_phase_12 : decode cX8_phase 12 = .ok (.iload_n 1, 1) := by decide +kernel
theorem dX8_phase_13 : decode cX8_phase 13 = .ok (.iaload, 1) := by decide +kernel
theorem dX8_phase_14 : decode cX8_phase 14 = .ok (.goto 4, 3) := by decide +kernel
theorem dX8_phase_17 : decode cX8_phase 17 = .ok (.iconst (-1), 1) := by decide +kernel
theorem dX8_phase_18 : decode cX8_phase 18 = .ok (.ireturn, 1) := by decide +kernel
theorem dX8_word_0 : decode cX8_word 0 = .ok (.aload_n 0, 1) := by decide +kernel
theorem dX8_word_1 : decode cX8_word 1 = .ok (.iload_n 1, 1) := by decide +kernel
theorem dX8_word_2 : decode cX8_word 2 = .ok (.invokevirtual 114, 3) := by decide +kernel
theorem dX8_word_5 : decode cX8_word 5 = .ok (.ifCond .ne 5, 3) := by decide +kernel
theorem dX8_word_8 : decode cX8_word 8 = .ok (.iconst (-1), 1) := by decide +kernel
theorem dX8_word_9 : decode cX8_word 9 = .ok (.ireturn, 1) := by decide +kernel
theorem dX8_word_10 : decode cX8_word 10 = .ok (.iload_n 2, 1) := by decide +kernel
theorem dX8_word_11 : decode cX8_word 11 = .ok (.tableswitch 60 0 2 #[25, 32, 39], 25) := by decide +kernel
theorem dX8_word_36 : decode cX8_word 36 = .ok (.aload_n 0, 1) := by decide +kernel
theorem dX8_word_37 : decode cX8_word 37 = .ok (.getfield 35, 3) := by decide +kernel
theorem dX8_word_40 : decode cX8_word 40 = .ok (.iload_n 1, 1) := by decide +kernel
theorem dX8_word_41 : decode cX8_word 41 = .ok (.iaload, 1) := by decide +kernel
theorem dX8_word_42 : decode cX8_word 42 = .ok (.ireturn, 1) := by decide +kernel
theorem dX8_word_43 : decode cX8_word 43 = .ok (.aload_n 0, 1) := by decide +kernel
theorem dX8_word_44 : decode cX8_word 44 = .ok (.getfield 38, 3) := by decide +kernel
theorem dX8_word_47 : decode cX8_word 47 = .ok (.iload_n 1, 1) := by decide +kernel
theorem dX8_word_48 : decode cX8_word 48 = .ok (.iaload, 1) := by decide +kernel
theorem dX8_word_49 : decode cX8_word 49 = .ok (.ireturn, 1) := by decide +kernel
theorem dX8_word_50 : decode cX8_word 50 = .ok (.aload_n 0, 1) := by decide +kernel
theorem dX8_word_51 : decode cX8_word 51 = .ok (.getfield 35, 3) := by decide +kernel
theorem dX8_word_54 : decode cX8_word 54 = .ok (.iload_n 1, 1) := by decide +kernel
theorem dX8_word_55 : decode cX8_word 55 = .ok (.iaload, 1) := by decide +kernel
theorem dX8_word_56 : decode cX8_word 56 = .ok (.iconst 2, 1) := by decide +kernel
theorem dX8_word_57 : decode cX8_word 57 = .ok (.if_icmp .ne 12, 3) := by decide +kernel
theorem dX8_word_60 : decode cX8_word 60 = .ok (.aload_n 0, 1) := by decide +kernel
theorem dX8_word_61 : decode cX8_word 61 = .ok (.getfield 41, 3) := by decide +kernel
theorem dX8_word_64 : decode cX8_word 64 = .ok (.iload_n 1, 1) := by decide +kernel
theorem dX8_word_65 : decode cX8_word 65 = .ok (.iaload, 1) := by decide +kernel
theorem dX8_word_66 : decode cX8_word 66 = .ok (.goto 4, 3) := by decide +kernel
theorem dX8_word_69 : decode cX8_word 69 = .ok (.iconst (-1), 1) := by decide +kernel
theorem dX8_word_70 : decode cX8_word 70 = .ok (.ireturn, 1) := by decide +kernel
theorem dX8_word_71 : decode cX8_word 71 = .ok (.iconst (-1), 1) := by decide +kernel
theorem dX8_word_72 : decode cX8_word 72 = .ok (.ireturn, 1) := by decide +kernel
theorem dX8_outcome_0 : decode cX8_outcome 0 = .ok (.aload_n 0, 1) := by decide +kernel
theorem dX8_outcome_1 : decode cX8_outcome 1 = .ok (.iload_n 1, 1) := by decide +kernel
theorem dX8_outcome_2 : decode cX8_outcome 2 = .ok (.invokevirtual 114, 3) := by decide +kernel
theorem dX8_outcome_5 : decode cX8_outcome 5 = .ok (.ifCond .eq 12, 3) := by decide +kernel
theorem dX8_outcome_8 : decode cX8_outcome 8 = .ok (.aload_n 0, 1) := by decide +kernel
theorem dX8_outcome_9 : decode cX8_outcome 9 = .ok (.getfield 68, 3) := by decide +kernel
theorem dX8_outcome_12 : decode cX8_outcome 12 = .ok (.iload_n 1, 1) := by decide +kernel
theorem dX8_outcome_13 : decode cX8_outcome 13 = .ok (.baload, 1) := by decide +kernel
theorem dX8_outcome_14 : decode cX8_outcome 14 = .ok (.ifCond .ne 5, 3) := by decide +kernel
theorem dX8_outcome_17 : decode cX8_outcome 17 = .ok (.iconst (-1), 1) := by decide +kernel
theorem dX8_outcome_18 : decode cX8_outcome 18 = .ok (.ireturn, 1) := by decide +kernel
theorem dX8_outcome_19 : decode cX8_outcome 19 = .ok (.iload_n 2, 1) := by decide +kernel
theorem dX8_outcome_20 : decode cX8_outcome 20 = .ok (.tableswitch 60 0 3 #[32, 39, 46, 53], 32) := by decide +kernel
theorem dX8_outcome_52 : decode cX8_outcome 52 = .ok (.aload_n 0, 1) := by decide +kernel
theorem dX8_outcome_53 : decode cX8_outcome 53 = .ok (.getfield 71, 3) := by decide +kernel
theorem dX8_outcome_56 : decode cX8_outcome 56 = .ok (.iload_n 1, 1) := by decide +kernel
theorem dX8_outcome_57 : decode cX8_outcome 57 = .ok (.iaload, 1) := by decide +kernel
theorem dX8_outcome_58 : decode cX8_outcome 58 = .ok (.ireturn, 1) := by decide +kernel
theorem dX8_outcome_59 : decode cX8_outcome 59 = .ok (.aload_n 0, 1) := by decide +kernel
theorem dX8_outcome_60 : decode cX8_outcome 60 = .ok (.getfield 74, 3) := by decide +kernel
theorem dX8_outcome_63 : decode cX8_outcome 63 = .ok (.iload_n 1, 1) := by decide +kernel
theorem dX8_outcome_64 : decode cX8_outcome 64 = .ok (.iaload, 1) := by decide +kernel
theorem dX8_outcome_65 : decode cX8_outcome 65 = .ok (.ireturn, 1) := by decide +kernel
theorem dX8_outcome_66 : decode cX8_outcome 66 = .ok (.aload_n 0, 1) := by decide +kernel
theorem dX8_outcome_67 : decode cX8_outcome 67 = .ok (.getfield 77, 3) := by decide +kernel
theorem dX8_outcome_70 : decode cX8_outcome 70 = .ok (.iload_n 1, 1) := by decide +kernel
theorem dX8_outcome_71 : decode cX8_outcome 71 = .ok (.iaload, 1) := by decide +kernel
theorem dX8_outcome_72 : decode cX8_outcome 72 = .ok (.ireturn, 1) := by decide +kernel
theorem dX8_outcome_73 : decode cX8_outcome 73 = .ok (.aload_n 0, 1) := by decide +kernel
theorem dX8_outcome_74 : decode cX8_outcome 74 = .ok (.getfield 80, 3) := by decide +kernel
theorem dX8_outcome_77 : decode cX8_outcome 77 = .ok (.iload_n 1, 1) := by decide +kernel
theorem dX8_outcome_78 : decode cX8_outcome 78 = .ok (.iaload, 1) := by decide +kernel
theorem dX8_outcome_79 : decode cX8_outcome 79 = .ok (.ireturn, 1) := by decide +kernel
theorem dX8_outcome_80 : decode cX8_outcome 80 = .ok (.iconst (-1), 1) := by decide +kernel
theorem dX8_outcome_81 : decode cX8_outcome 81 = .ok (.ireturn, 1) := by decide +kernel
theorem dX8_entry_0 : decode cX8_entry 0 = .ok (.iload_n 2, 1) := by decide +kernel
theorem dX8_entry_1 : decode cX8_entry 1 = .ok (.ifCond .ge 5, 3) := by decide +kernel
theorem dX8_entry_4 : decode cX8_entry 4 = .ok (.iconst (-1), 1) := by decide +kernel
theorem dX8_entry_5 : decode cX8_entry 5 = .ok (.ireturn, 1) := by decide +kernel
theorem dX8_entry_6 : decode cX8_entry 6 = .ok (.iload_n 2, 1) := by decide +kernel
theorem dX8_entry_7 : decode cX8_entry 7 = .ok (.istore 4, 2) := by decide +kernel
theorem dX8_entry_9 : decode cX8_entry 9 = .ok (.iconst 0, 1) := by decide +kernel
theorem dX8_entry_10 : decode cX8_entry 10 = .ok (.istore 5, 2) := by decide +kernel
theorem dX8_entry_12 : decode cX8_entry 12 = .ok (.iload 5, 2) := by decide +kernel
theorem dX8_entry_14 : decode cX8_entry 14 = .ok (.aload_n 0, 1) := by decide +kernel
theorem dX8_entry_15 : decode cX8_entry 15 = .ok (.getfield 136, 3) := by decide +kernel
theorem dX8_entry_18 : decode cX8_entry 18 = .ok (.if_icmp .ge 39, 3) := by decide +kernel
theorem dX8_entry_21 : decode cX8_entry 21 = .ok (.aload_n 0, 1) := by decide +kernel
theorem dX8_entry_22 : decode cX8_entry 22 = .ok (.getfield 98, 3) := by decide +kernel
theorem dX8_entry_25 : decode cX8_entry 25 = .ok (.iload 5, 2) := by decide +kernel
theorem dX8_entry_27 : decode cX8_entry 27 = .ok (.iaload, 1) := by decide +kernel
theorem dX8_entry_28 : decode cX8_entry 28 = .ok (.iload_n 1, 1) := by decide +kernel
theorem dX8_entry_29 : decode cX8_entry 29 = .ok (.if_icmp .ne 8, 3) := by decide +kernel
theorem dX8_entry_32 : decode cX8_entry 32 = .ok (.iload 4, 2) := by decide +kernel
theorem dX8_entry_34 : decode cX8_entry 34 = .ok (.ifCond .le 23, 3) := by decide +kernel
theorem dX8_entry_37 : decode cX8_entry 37 = .ok (.aload_n 0, 1) := by decide +kernel
theorem dX8_entry_38 : decode cX8_entry 38 = .ok (.getfield 98, 3) := by decide +kernel
theorem dX8_entry_41 : decode cX8_entry 41 = .ok (.iload 5, 2) := by decide +kernel
theorem dX8_entry_43 : decode cX8_entry 43 = .ok (.iaload, 1) := by decide +kernel
theorem dX8_entry_44 : decode cX8_entry 44 = .ok (.iload_n 1, 1) := by decide +kernel
theorem dX8_entry_45 : decode cX8_entry 45 = .ok (.if_icmp .ne 6, 3) := by decide +kernel
theorem dX8_entry_48 : decode cX8_entry 48 = .ok (.iinc 4 (-1), 3) := by decide +kernel
theorem dX8_entry_51 : decode cX8_entry 51 = .ok (.iinc 5 1, 3) := by decide +kernel
theorem dX8_entry_54 : decode cX8_entry 54 = .ok (.goto (-42), 3) := by decide +kernel
theorem dX8_entry_57 : decode cX8_entry 57 = .ok (.iload 5, 2) := by decide +kernel
theorem dX8_entry_59 : decode cX8_entry 59 = .ok (.aload_n 0, 1) := by decide +kernel
theorem dX8_entry_60 : decode cX8_entry 60 = .ok (.getfield 136, 3) := by decide +kernel
theorem dX8_entry_63 : decode cX8_entry 63 = .ok (.if_icmp .ne 5, 3) := by decide +kernel
theorem dX8_entry_66 : decode cX8_entry 66 = .ok (.iconst (-1), 1) := by decide +kernel
theorem dX8_entry_67 : decode cX8_entry 67 = .ok (.ireturn, 1) := by decide +kernel
theorem dX8_entry_68 : decode cX8_entry 68 = .ok (.iload_n 3, 1) := by decide +kernel
theorem dX8_entry_69 : decode cX8_entry 69 = .ok (.tableswitch 75 0 4 #[35, 43, 51, 59, 67], 35) := by decide +kernel
theorem dX8_entry_104 : decode cX8_entry 104 = .ok (.aload_n 0, 1) := by decide +kernel
theorem dX8_entry_105 : decode cX8_entry 105 = .ok (.getfield 83, 3) := by decide +kernel
theorem dX8_entry_108 : decode cX8_entry 108 = .ok (.iload 5, 2) := by decide +kernel
theorem dX8_entry_110 : decode cX8_entry 110 = .ok (.iaload, 1) := by decide +kernel
theorem dX8_entry_111 : decode cX8_entry 111 = .ok (.ireturn, 1) := by decide +kernel
theorem dX8_entry_112 : decode cX8_entry 112 = .ok (.aload_n 0, 1) := by decide +kernel
theorem dX8_entry_113 : decode cX8_entry 113 = .ok (.getfield 89, 3) := by decide +kernel
theorem dX8_entry_116 : decode cX8_entry 116 = .ok (.iload 5, 2) := by decide +kernel
theorem dX8_entry_118 : decode cX8_entry 118 = .ok (.iaload, 1) := by decide +kernel
theorem dX8_entry_119 : decode cX8_entry 119 = .ok (.ireturn, 1) := by decide +kernel
theorem dX8_entry_120 : decode cX8_entry 120 = .ok (.aload_n 0, 1) := by decide +kernel
theorem dX8_entry_121 : decode cX8_entry 121 = .ok (.getfield 92, 3) := by decide +kernel
theorem dX8_entry_124 : decode cX8_entry 124 = .ok (.iload 5, 2) := by decide +kernel
theorem dX8_entry_126 : decode cX8_entry 126 = .ok (.iaload, 1) := by decide +kernel
theorem dX8_entry_127 : decode cX8_entry 127 = .ok (.ireturn, 1) := by decide +kernel
theorem dX8_entry_128 : decode cX8_entry 128 = .ok (.aload_n 0, 1) := by decide +kernel
theorem dX8_entry_129 : decode cX8_entry 129 = .ok (.getfield 95, 3) := by decide +kernel
theorem dX8_entry_132 : decode cX8_entry 132 = .ok (.iload 5, 2) := by decide +kernel
theorem dX8_entry_134 : decode cX8_entry 134 = .ok (.iaload, 1) := by decide +kernel
theorem dX8_entry_135 : decode cX8_entry 135 = .ok (.ireturn, 1) := by decide +kernel
theorem dX8_entry_136 : decode cX8_entry 136 = .ok (.aload_n 0, 1) := by decide +kernel
theorem dX8_entry_137 : decode cX8_entry 137 = .ok (.getfield 86, 3) := by decide +kernel
theorem dX8_entry_140 : decode cX8_entry 140 = .ok (.iload 5, 2) := by decide +kernel
theorem dX8_entry_142 : decode cX8_entry 142 = .ok (.iaload, 1) := by decide +kernel
theorem dX8_entry_143 : decode cX8_entry 143 = .ok (.ireturn, 1) := by decide +kernel
theorem dX8_entry_144 : decode cX8_entry 144 = .ok (.iconst (-1), 1) := by decide +kernel
theorem dX8_entry_145 : decode cX8_entry 145 = .ok (.ireturn, 1) := by decide +kernel
theorem dX8_pair_0 : decode cX8_pair 0 = .ok (.iload_n 1, 1) := by decide +kernel
theorem dX8_pair_1 : decode cX8_pair 1 = .ok (.ifCond .lt 42, 3) := by decide +kernel
theorem dX8_pair_4 : decode cX8_pair 4 = .ok (.iload_n 1, 1) := by decide +kernel
theorem dX8_pair_5 : decode cX8_pair 5 = .ok (.aload_n 0, 1) := by decide +kernel
theorem dX8_pair_6 : decode cX8_pair 6 = .ok (.getfield 173, 3) := by decide +kernel
theorem dX8_pair_9 : decode cX8_pair 9 = .ok (.if_icmp .ge 34, 3) := by decide +kernel
theorem dX8_pair_12 : decode cX8_pair 12 = .ok (.iload_n 1, 1) := by decide +kernel
theorem dX8_pair_13 : decode cX8_pair 13 = .ok (.sipush 200, 3) := by decide +kernel
theorem dX8_pair_16 : decode cX8_pair 16 = .ok (.if_icmp .ge 27, 3) := by decide +kernel
theorem dX8_pair_19 : decode cX8_pair 19 = .ok (.iload_n 2, 1) := by decide +kernel
theorem dX8_pair_20 : decode cX8_pair 20 = .ok (.ifCond .lt 23, 3) := by decide +kernel
theorem dX8_pair_23 : decode cX8_pair 23 = .ok (.iload_n 2, 1) := by decide +kernel
theorem dX8_pair_24 : decode cX8_pair 24 = .ok (.bipush 8, 2) := by decide +kernel
theorem dX8_pair_26 : decode cX8_pair 26 = .ok (.if_icmp .ge 17, 3) := by decide +kernel
theorem dX8_pair_29 : decode cX8_pair 29 = .ok (.aload_n 0, 1) := by decide +kernel
theorem dX8_pair_30 : decode cX8_pair 30 = .ok (.getfield 101, 3) := by decide +kernel
theorem dX8_pair_33 : decode cX8_pair 33 = .ok (.bipush 8, 2) := by decide +kernel
theorem dX8_pair_35 : decode cX8_pair 35 = .ok (.iload_n 1, 1) := by decide +kernel
theorem dX8_pair_36 : decode cX8_pair 36 = .ok (.imul, 1) := by decide +kernel
theorem dX8_pair_37 : decode cX8_pair 37 = .ok (.iload_n 2, 1) := by decide +kernel
theorem dX8_pair_38 : decode cX8_pair 38 = .ok (.iadd, 1) := by decide +kernel
theorem dX8_pair_39 : decode cX8_pair 39 = .ok (.iaload, 1) := by decide +kernel
theorem dX8_pair_40 : decode cX8_pair 40 = .ok (.goto 4, 3) := by decide +kernel
theorem dX8_pair_43 : decode cX8_pair 43 = .ok (.iconst (-1), 1) := by decide +kernel
theorem dX8_pair_44 : decode cX8_pair 44 = .ok (.ireturn, 1) := by decide +kernel
theorem dX8_doubles_0 : decode cX8_doubles 0 = .ok (.iconst 0, 1) := by decide +kernel
theorem dX8_doubles_1 : decode cX8_doubles 1 = .ok (.istore_n 1, 1) := by decide +kernel
theorem dX8_doubles_2 : decode cX8_doubles 2 = .ok (.iconst 0, 1) := by decide +kernel
theorem dX8_doubles_3 : decode cX8_doubles 3 = .ok (.istore_n 2, 1) := by decide +kernel
theorem dX8_doubles_4 : decode cX8_doubles 4 = .ok (.iload_n 2, 1) := by decide +kernel
theorem dX8_doubles_5 : decode cX8_doubles 5 = .ok (.sipush 16016, 3) := by decide +kernel
theorem dX8_doubles_8 : decode cX8_doubles 8 = .ok (.if_icmp .ge 46, 3) := by decide +kernel
theorem dX8_doubles_11 : decode cX8_doubles 11 = .ok (.iload_n 1, 1) := by decide +kernel
theorem dX8_doubles_12 : decode cX8_doubles 12 = .ok (.aload_n 0, 1) := by decide +kernel
theorem dX8_doubles_13 : decode cX8_doubles 13 = .ok (.getfield 104, 3) := by decide +kernel
theorem dX8_doubles_16 : decode cX8_doubles 16 = .ok (.iload_n 2, 1) := by decide +kernel
theorem dX8_doubles_17 : decode cX8_doubles 17 = .ok (.iaload, 1) := by decide +kernel
theorem dX8_doubles_18 : decode cX8_doubles 18 = .ok (.iconst 1, 1) := by decide +kernel
theorem dX8_doubles_19 : decode cX8_doubles 19 = .ok (.if_icmp .gt 22, 3) := by decide +kernel
theorem dX8_doubles_22 : decode cX8_doubles 22 = .ok (.aload_n 0, 1) := by decide +kernel
theorem dX8_doubles_23 : decode cX8_doubles 23 = .ok (.getfield 104, 3) := by decide +kernel
theorem dX8_doubles_26 : decode cX8_doubles 26 = .ok (.iload_n 2, 1) := by decide +kernel
theorem dX8_doubles_27 : decode cX8_doubles 27 = .ok (.iaload, 1) := by decide +kernel
theorem dX8_doubles_28 : decode cX8_doubles 28 = .ok (.iconst 1, 1) := by decide +kernel
theorem dX8_doubles_29 : decode cX8_doubles 29 = .ok (.if_icmp .ne 16, 3) := by decide +kernel
theorem dX8_doubles_32 : decode cX8_doubles 32 = .ok (.aload_n 0, 1) := by decide +kernel
theorem dX8_doubles_33 : decode cX8_doubles 33 = .ok (.getfield 107, 3) := by decide +kernel
theorem dX8_doubles_36 : decode cX8_doubles 36 = .ok (.iload_n 2, 1) := by decide +kernel
theorem dX8_doubles_37 : decode cX8_doubles 37 = .ok (.baload, 1) := by decide +kernel
theorem dX8_doubles_38 : decode cX8_doubles 38 = .ok (.ifCond .eq 7, 3) := by decide +kernel
theorem dX8_doubles_41 : decode cX8_doubles 41 = .ok (.iconst 1, 1) := by decide +kernel
theorem dX8_doubles_42 : decode cX8_doubles 42 = .ok (.goto 4, 3) := by decide +kernel
theorem dX8_doubles_45 : decode cX8_doubles 45 = .ok (.iconst 0, 1) := by decide +kernel
theorem dX8_doubles_46 : decode cX8_doubles 46 = .ok (.iadd, 1) := by decide +kernel
theorem dX8_doubles_47 : decode cX8_doubles 47 = .ok (.istore_n 1, 1) := by decide +kernel
theorem dX8_doubles_48 : decode cX8_doubles 48 = .ok (.iinc 2 1, 3) := by decide +kernel
theorem dX8_doubles_51 : decode cX8_doubles 51 = .ok (.goto (-47), 3) := by decide +kernel
theorem dX8_doubles_54 : decode cX8_doubles 54 = .ok (.iload_n 1, 1) := by decide +kernel
theorem dX8_doubles_55 : decode cX8_doubles 55 = .ok (.ireturn, 1) := by decide +kernel
theorem dX8_isUnmet_0 : decode cX8_isUnmet 0 = .ok (.aload_n 0, 1) := by decide +kernel
theorem dX8_isUnmet_1 : decode cX8_isUnmet 1 = .ok (.getfield 9, 3) := by decide +kernel
theorem dX8_isUnmet_4 : decode cX8_isUnmet 4 = .ok (.iload_n 1, 1) := by decide +kernel
theorem dX8_isUnmet_5 : decode cX8_isUnmet 5 = .ok (.iaload, 1) := by decide +kernel
theorem dX8_isUnmet_6 : decode cX8_isUnmet 6 = .ok (.bipush 10, 2) := by decide +kernel
theorem dX8_isUnmet_8 : decode cX8_isUnmet 8 = .ok (.if_icmp .ne 17, 3) := by decide +kernel
theorem dX8_isUnmet_11 : decode cX8_isUnmet 11 = .ok (.aload_n 0, 1) := by decide +kernel
theorem dX8_isUnmet_12 : decode cX8_isUnmet 12 = .ok (.getfield 35, 3) := by decide +kernel
theorem dX8_isUnmet_15 : decode cX8_isUnmet 15 = .ok (.iload_n 1, 1) := by decide +kernel
theorem dX8_isUnmet_16 : decode cX8_isUnmet 16 = .ok (.iaload, 1) := by decide +kernel
theorem dX8_isUnmet_17 : decode cX8_isUnmet 17 = .ok (.iconst 1, 1) := by decide +kernel
theorem dX8_isUnmet_18 : decode cX8_isUnmet 18 = .ok (.if_icmp .ne 7, 3) := by decide +kernel
theorem dX8_isUnmet_21 : decode cX8_isUnmet 21 = .ok (.iconst 1, 1) := by decide +kernel
theorem dX8_isUnmet_22 : decode cX8_isUnmet 22 = .ok (.goto 4, 3) := by decide +kernel
theorem dX8_isUnmet_25 : decode cX8_isUnmet 25 = .ok (.iconst 0, 1) := by decide +kernel
theorem dX8_isUnmet_26 : decode cX8_isUnmet 26 = .ok (.ireturn, 1) := by decide +kernel
theorem dX8_match_0 : decode cX8_match 0 = .ok (.iconst 0, 1) := by decide +kernel
theorem dX8_match_1 : decode cX8_match 1 = .ok (.istore_n 3, 1) := by decide +kernel
theorem dX8_match_2 : decode cX8_match 2 = .ok (.bipush 8, 2) := by decide +kernel
theorem dX8_match_4 : decode cX8_match 4 = .ok (.iload_n 1, 1) := by decide +kernel
theorem dX8_match_5 : decode cX8_match 5 = .ok (.imul, 1) := by decide +kernel
theorem dX8_match_6 : decode cX8_match 6 = .ok (.istore 4, 2) := by decide +kernel
theorem dX8_match_8 : decode cX8_match 8 = .ok (.iload 4, 2) := by decide +kernel
theorem dX8_match_10 : decode cX8_match 10 = .ok (.bipush 8, 2) := by decide +kernel
theorem dX8_match_12 : decode cX8_match 12 = .ok (.iload_n 1, 1) := by decide +kernel
theorem dX8_match_13 : decode cX8_match 13 = .ok (.imul, 1) := by decide +kernel
theorem dX8_match_14 : decode cX8_match 14 = .ok (.aload_n 0, 1) := by decide +kernel
theorem dX8_match_15 : decode cX8_match 15 = .ok (.getfield 13, 3) := by decide +kernel
theorem dX8_match_18 : decode cX8_match 18 = .ok (.iload_n 1, 1) := by decide +kernel
theorem dX8_match_19 : decode cX8_match 19 = .ok (.iaload, 1) := by decide +kernel
theorem dX8_match_20 : decode cX8_match 20 = .ok (.iadd, 1) := by decide +kernel
theorem dX8_match_21 : decode cX8_match 21 = .ok (.if_icmp .ge 101, 3) := by decide +kernel
theorem dX8_match_24 : decode cX8_match 24 = .ok (.bipush 8, 2) := by decide +kernel
theorem dX8_match_26 : decode cX8_match 26 = .ok (.iload_n 2, 1) := by decide +kernel
theorem dX8_match_27 : decode cX8_match 27 = .ok (.imul, 1) := by decide +kernel
theorem dX8_match_28 : decode cX8_match 28 = .ok (.istore 5, 2) := by decide +kernel
theorem dX8_match_30 : decode cX8_match 30 = .ok (.iload 5, 2) := by decide +kernel
theorem dX8_match_32 : decode cX8_match 32 = .ok (.bipush 8, 2) := by decide +kernel
theorem dX8_match_34 : decode cX8_match 34 = .ok (.iload_n 2, 1) := by decide +kernel
theorem dX8_match_35 : decode cX8_match 35 = .ok (.imul, 1) := by decide +kernel
theorem dX8_match_36 : decode cX8_match 36 = .ok (.aload_n 0, 1) := by decide +kernel
theorem dX8_match_37 : decode cX8_match 37 = .ok (.getfield 13, 3) := by decide +kernel
theorem dX8_match_40 : decode cX8_match 40 = .ok (.iload_n 2, 1) := by decide +kernel
theorem dX8_match_41 : decode cX8_match 41 = .ok (.iaload, 1) := by decide +kernel
theorem dX8_match_42 : decode cX8_match 42 = .ok (.iadd, 1) := by decide +kernel
theorem dX8_match_43 : decode cX8_match 43 = .ok (.if_icmp .ge 73, 3) := by decide +kernel
theorem dX8_match_46 : decode cX8_match 46 = .ok (.iload_n 3, 1) := by decide +kernel
theorem dX8_match_47 : decode cX8_match 47 = .ok (.ifCond .ne 57, 3) := by decide +kernel
theorem dX8_match_50 : decode cX8_match 50 = .ok (.aload_n 0, 1) := by decide +kernel
theorem dX8_match_51 : decode cX8_match 51 = .ok (.getfield 25, 3) := by decide +kernel
theorem dX8_match_54 : decode cX8_match 54 = .ok (.iload 4, 2) := by decide +kernel
theorem dX8_match_56 : decode cX8_match 56 = .ok (.baload, 1) := by decide +kernel
theorem dX8_match_57 : decode cX8_match 57 = .ok (.ifCond .eq 51, 3) := by decide +kernel
theorem dX8_match_60 : decode cX8_match 60 = .ok (.aload_n 0, 1) := by decide +kernel
theorem dX8_match_61 : decode cX8_match 61 = .ok (.getfield 25, 3) := by decide +kernel
theorem dX8_match_64 : decode cX8_match 64 = .ok (.iload 5, 2) := by decide +kernel
theorem dX8_match_66 : decode cX8_match 66 = .ok (.baload, 1) := by decide +kernel
theorem dX8_match_67 : decode cX8_match 67 = .ok (.ifCond .eq 41, 3) := by decide +kernel
theorem dX8_match_70 : decode cX8_match 70 = .ok (.aload_n 0, 1) := by decide +kernel
theorem dX8_match_71 : decode cX8_match 71 = .ok (.getfield 19, 3) := by decide +kernel
theorem dX8_match_74 : decode cX8_match 74 = .ok (.iload 4, 2) := by decide +kernel
theorem dX8_match_76 : decode cX8_match 76 = .ok (.iaload, 1) := by decide +kernel
theorem dX8_match_77 : decode cX8_match 77 = .ok (.aload_n 0, 1) := by decide +kernel
theorem dX8_match_78 : decode cX8_match 78 = .ok (.getfield 19, 3) := by decide +kernel
theorem dX8_match_81 : decode cX8_match 81 = .ok (.iload 5, 2) := by decide +kernel
theorem dX8_match_83 : decode cX8_match 83 = .ok (.iaload, 1) := by decide +kernel
theorem dX8_match_84 : decode cX8_match 84 = .ok (.if_icmp .ne 24, 3) := by decide +kernel
theorem dX8_match_87 : decode cX8_match 87 = .ok (.aload_n 0, 1) := by decide +kernel
theorem dX8_match_88 : decode cX8_match 88 = .ok (.getfield 16, 3) := by decide +kernel
theorem dX8_match_91 : decode cX8_match 91 = .ok (.iload 4, 2) := by decide +kernel
theorem dX8_match_93 : decode cX8_match 93 = .ok (.iaload, 1) := by decide +kernel
theorem dX8_match_94 : decode cX8_match 94 = .ok (.aload_n 0, 1) := by decide +kernel
theorem dX8_match_95 : decode cX8_match 95 = .ok (.getfield 16, 3) := by decide +kernel
theorem dX8_match_98 : decode cX8_match 98 = .ok (.iload 5, 2) := by decide +kernel
theorem dX8_match_100 : decode cX8_match 100 = .ok (.iaload, 1) := by decide +kernel
theorem dX8_match_101 : decode cX8_match 101 = .ok (.if_icmp .eq 7, 3) := by decide +kernel
theorem dX8_match_104 : decode cX8_match 104 = .ok (.iconst 1, 1) := by decide +kernel
theorem dX8_match_105 : decode cX8_match 105 = .ok (.goto 4, 3) := by decide +kernel
theorem dX8_match_108 : decode cX8_match 108 = .ok (.iconst 0, 1) := by decide +kernel
theorem dX8_match_109 : decode cX8_match 109 = .ok (.istore_n 3, 1) := by decide +kernel
theorem dX8_match_110 : decode cX8_match 110 = .ok (.iinc 5 1, 3) := by decide +kernel
theorem dX8_match_113 : decode cX8_match 113 = .ok (.goto (-83), 3) := by decide +kernel
theorem dX8_match_116 : decode cX8_match 116 = .ok (.iinc 4 1, 3) := by decide +kernel
theorem dX8_match_119 : decode cX8_match 119 = .ok (.goto (-111), 3) := by decide +kernel
theorem dX8_match_122 : decode cX8_match 122 = .ok (.iload_n 3, 1) := by decide +kernel
theorem dX8_match_123 : decode cX8_match 123 = .ok (.ireturn, 1) := by decide +kernel
theorem dX8_unmet_0 : decode cX8_unmet 0 = .ok (.iconst 0, 1) := by decide +kernel
theorem dX8_unmet_1 : decode cX8_unmet 1 = .ok (.istore_n 1, 1) := by decide +kernel
theorem dX8_unmet_2 : decode cX8_unmet 2 = .ok (.iconst 0, 1) := by decide +kernel
theorem dX8_unmet_3 : decode cX8_unmet 3 = .ok (.istore_n 2, 1) := by decide +kernel
theorem dX8_unmet_4 : decode cX8_unmet 4 = .ok (.iload_n 2, 1) := by decide +kernel
theorem dX8_unmet_5 : decode cX8_unmet 5 = .ok (.aload_n 0, 1) := by decide +kernel
theorem dX8_unmet_6 : decode cX8_unmet 6 = .ok (.getfield 110, 3) := by decide +kernel
theorem dX8_unmet_9 : decode cX8_unmet 9 = .ok (.if_icmp .ge 60, 3) := by decide +kernel
theorem dX8_unmet_12 : decode cX8_unmet 12 = .ok (.iload_n 2, 1) := by decide +kernel
theorem dX8_unmet_13 : decode cX8_unmet 13 = .ok (.iconst 1, 1) := by decide +kernel
theorem dX8_unmet_14 : decode cX8_unmet 14 = .ok (.iadd, 1) := by decide +kernel
theorem dX8_unmet_15 : decode cX8_unmet 15 = .ok (.istore_n 3, 1) := by decide +kernel
theorem dX8_unmet_16 : decode cX8_unmet 16 = .ok (.iload_n 3, 1) := by decide +kernel
theorem dX8_unmet_17 : decode cX8_unmet 17 = .ok (.aload_n 0, 1) := by decide +kernel
theorem dX8_unmet_18 : decode cX8_unmet 18 = .ok (.getfield 110, 3) := by decide +kernel
theorem dX8_unmet_21 : decode cX8_unmet 21 = .ok (.if_icmp .ge 42, 3) := by decide +kernel
theorem dX8_unmet_24 : decode cX8_unmet 24 = .ok (.iload_n 1, 1) := by decide +kernel
theorem dX8_unmet_25 : decode cX8_unmet 25 = .ok (.aload_n 0, 1) := by decide +kernel
theorem dX8_unmet_26 : decode cX8_unmet 26 = .ok (.iload_n 2, 1) := by decide +kernel
theorem dX8_unmet_27 : decode cX8_unmet 27 = .ok (.invokevirtual 219, 3) := by decide +kernel
theorem dX8_unmet_30 : decode cX8_unmet 30 = .ok (.ifCond .eq 24, 3) := by decide +kernel
theorem dX8_unmet_33 : decode cX8_unmet 33 = .ok (.aload_n 0, 1) := by decide +kernel
theorem dX8_unmet_34 : decode cX8_unmet 34 = .ok (.iload_n 3, 1) := by decide +kernel
theorem dX8_unmet_35 : decode cX8_unmet 35 = .ok (.invokevirtual 219, 3) := by decide +kernel
theorem dX8_unmet_38 : decode cX8_unmet 38 = .ok (.ifCond .eq 16, 3) := by decide +kernel
theorem dX8_unmet_41 : decode cX8_unmet 41 = .ok (.aload_n 0, 1) := by decide +kernel
theorem dX8_unmet_42 : decode cX8_unmet 42 = .ok (.iload_n 2, 1) := by decide +kernel
theorem dX8_unmet_43 : decode cX8_unmet 43 = .ok (.iload_n 3, 1) := by decide +kernel
theorem dX8_unmet_44 : decode cX8_unmet 44 = .ok (.invokevirtual 222, 3) := by decide +kernel
theorem dX8_unmet_47 : decode cX8_unmet 47 = .ok (.ifCond .eq 7, 3) := by decide +kernel
theorem dX8_unmet_50 : decode cX8_unmet 50 = .ok (.iconst 1, 1) := by decide +kernel
theorem dX8_unmet_51 : decode cX8_unmet 51 = .ok (.goto 4, 3) := by decide +kernel
theorem dX8_unmet_54 : decode cX8_unmet 54 = .ok (.iconst 0, 1) := by decide +kernel
theorem dX8_unmet_55 : decode cX8_unmet 55 = .ok (.iadd, 1) := by decide +kernel
theorem dX8_unmet_56 : decode cX8_unmet 56 = .ok (.istore_n 1, 1) := by decide +kernel
theorem dX8_unmet_57 : decode cX8_unmet 57 = .ok (.iinc 3 1, 3) := by decide +kernel
theorem dX8_unmet_60 : decode cX8_unmet 60 = .ok (.goto (-44), 3) := by decide +kernel
theorem dX8_unmet_63 : decode cX8_unmet 63 = .ok (.iinc 2 1, 3) := by decide +kernel
theorem dX8_unmet_66 : decode cX8_unmet 66 = .ok (.goto (-62), 3) := by decide +kernel
theorem dX8_unmet_69 : decode cX8_unmet 69 = .ok (.iload_n 1, 1) := by decide +kernel
theorem dX8_unmet_70 : decode cX8_unmet 70 = .ok (.ireturn, 1) := by decide +kernel
theorem dX8_held_0 : decode cX8_held 0 = .ok (.iconst 0, 1) := by decide +kernel
theorem dX8_held_1 : decode cX8_held 1 = .ok (.istore_n 1, 1) := by decide +kernel
theorem dX8_held_2 : decode cX8_held 2 = .ok (.iconst 0, 1) := by decide +kernel
theorem dX8_held_3 : decode cX8_held 3 = .ok (.istore_n 2, 1) := by decide +kernel
theorem dX8_held_4 : decode cX8_held 4 = .ok (.iload_n 2, 1) := by decide +kernel
theorem dX8_held_5 : decode cX8_held 5 = .ok (.aload_n 0, 1) := by decide +kernel
theorem dX8_held_6 : decode cX8_held 6 = .ok (.getfield 110, 3) := by decide +kernel
theorem dX8_held_9 : decode cX8_held 9 = .ok (.if_icmp .ge 65, 3) := by decide +kernel
theorem dX8_held_12 : decode cX8_held 12 = .ok (.aload_n 0, 1) := by decide +kernel
theorem dX8_held_13 : decode cX8_held 13 = .ok (.getfield 35, 3) := by decide +kernel
theorem dX8_held_16 : decode cX8_held 16 = .ok (.iload_n 2, 1) := by decide +kernel
theorem dX8_held_17 : decode cX8_held 17 = .ok (.iaload, 1) := by decide +kernel
theorem dX8_held_18 : decode cX8_held 18 = .ok (.iconst 2, 1) := by decide +kernel
theorem dX8_held_19 : decode cX8_held 19 = .ok (.if_icmp .eq 6, 3) := by decide +kernel
theorem dX8_held_22 : decode cX8_held 22 = .ok (.goto 46, 3) := by decide +kernel
theorem dX8_held_25 : decode cX8_held 25 = .ok (.aload_n 0, 1) := by decide +kernel
theorem dX8_held_26 : decode cX8_held 26 = .ok (.getfield 9, 3) := by decide +kernel
theorem dX8_held_29 : decode cX8_held 29 = .ok (.aload_n 0, 1) := by decide +kernel
theorem dX8_held_30 : decode cX8_held 30 = .ok (.getfield 41, 3) := by decide +kernel
theorem dX8_held_33 : decode cX8_held 33 = .ok (.iload_n 2, 1) := by decide +kernel
theorem dX8_held_34 : decode cX8_held 34 = .ok (.iaload, 1) := by decide +kernel
theorem dX8_held_35 : decode cX8_held 35 = .ok (.iaload, 1) := by decide +kernel
theorem dX8_held_36 : decode cX8_held 36 = .ok (.istore_n 3, 1) := by decide +kernel
theorem dX8_held_37 : decode cX8_held 37 = .ok (.iload_n 1, 1) := by decide +kernel
theorem dX8_held_38 : decode cX8_held 38 = .ok (.iload_n 3, 1) := by decide +kernel
theorem dX8_held_39 : decode cX8_held 39 = .ok (.iconst 5, 1) := by decide +kernel
theorem dX8_held_40 : decode cX8_held 40 = .ok (.if_icmp .eq 21, 3) := by decide +kernel
theorem dX8_held_43 : decode cX8_held 43 = .ok (.iload_n 3, 1) := by decide +kernel
theorem dX8_held_44 : decode cX8_held 44 = .ok (.bipush 6, 2) := by decide +kernel
theorem dX8_held_46 : decode cX8_held 46 = .ok (.if_icmp .eq 15, 3) := by decide +kernel
theorem dX8_held_49 : decode cX8_held 49 = .ok (.iload_n 3, 1) := by decide +kernel
theorem dX8_held_50 : decode cX8_held 50 = .ok (.bipush 7, 2) := by decide +kernel
theorem dX8_held_52 : decode cX8_held 52 = .ok (.if_icmp .eq 9, 3) := by decide +kernel
theorem dX8_held_55 : decode cX8_held 55 = .ok (.iload_n 3, 1) := by decide +kernel
theorem dX8_held_56 : decode cX8_held 56 = .ok (.bipush 8, 2) := by decide +kernel
theorem dX8_held_58 : decode cX8_held 58 = .ok (.if_icmp .ne 7, 3) := by decide +kernel
theorem dX8_held_61 : decode cX8_held 61 = .ok (.iconst 0, 1) := by decide +kernel
theorem dX8_held_62 : decode cX8_held 62 = .ok (.goto 4, 3) := by decide +kernel
theorem dX8_held_65 : decode cX8_held 65 = .ok (.iconst 1, 1) := by decide +kernel
theorem dX8_held_66 : decode cX8_held 66 = .ok (.iadd, 1) := by decide +kernel
theorem dX8_held_67 : decode cX8_held 67 = .ok (.istore_n 1, 1) := by decide +kernel
theorem dX8_held_68 : decode cX8_held 68 = .ok (.iinc 2 1, 3) := by decide +kernel
theorem dX8_held_71 : decode cX8_held 71 = .ok (.goto (-67), 3) := by decide +kernel
theorem dX8_held_74 : decode cX8_held 74 = .ok (.iload_n 1, 1) := by decide +kernel
theorem dX8_held_75 : decode cX8_held 75 = .ok (.ireturn, 1) := by decide +kernel
theorem dX8_count_0 : decode cX8_count 0 = .ok (.iconst 0, 1) := by decide +kernel
theorem dX8_count_1 : decode cX8_count 1 = .ok (.istore_n 2, 1) := by decide +kernel
theorem dX8_count_2 : decode cX8_count 2 = .ok (.iload_n 1, 1) := by decide +kernel
theorem dX8_count_3 : decode cX8_count 3 = .ok (.tableswitch 124 0 8 #[49, 54, 89, 94, 99, 104, 109, 114, 119], 49) := by decide +kernel
theorem dX8_count_52 : decode cX8_count 52 = .ok (.aload_n 0, 1) := by decide +kernel
theorem dX8_count_53 : decode cX8_count 53 = .ok (.getfield 110, 3) := by decide +kernel
theorem dX8_count_56 : decode cX8_count 56 = .ok (.ireturn, 1) := by decide +kernel
theorem dX8_count_57 : decode cX8_count 57 = .ok (.iconst 0, 1) := by decide +kernel
theorem dX8_count_58 : decode cX8_count 58 = .ok (.istore_n 3, 1) := by decide +kernel
theorem dX8_count_59 : decode cX8_count 59 = .ok (.iload_n 3, 1) := by decide +kernel
theorem dX8_count_60 : decode cX8_count 60 = .ok (.aload_n 0, 1) := by decide +kernel
theorem dX8_count_61 : decode cX8_count 61 = .ok (.getfield 110, 3) := by decide +kernel
theorem dX8_count_64 : decode cX8_count 64 = .ok (.if_icmp .ge 26, 3) := by decide +kernel
theorem dX8_count_67 : decode cX8_count 67 = .ok (.iload_n 2, 1) := by decide +kernel
theorem dX8_count_68 : decode cX8_count 68 = .ok (.aload_n 0, 1) := by decide +kernel
theorem dX8_count_69 : decode cX8_count 69 = .ok (.getfield 9, 3) := by decide +kernel
theorem dX8_count_72 : decode cX8_count 72 = .ok (.iload_n 3, 1) := by decide +kernel
theorem dX8_count_73 : decode cX8_count 73 = .ok (.iaload, 1) := by decide +kernel
theorem dX8_count_74 : decode cX8_count 74 = .ok (.ifCond .eq 7, 3) := by decide +kernel
theorem dX8_count_77 : decode cX8_count 77 = .ok (.iconst 1, 1) := by decide +kernel
theorem dX8_count_78 : decode cX8_count 78 = .ok (.goto 4, 3) := by decide +kernel
theorem dX8_count_81 : decode cX8_count 81 = .ok (.iconst 0, 1) := by decide +kernel
theorem dX8_count_82 : decode cX8_count 82 = .ok (.iadd, 1) := by decide +kernel
theorem dX8_count_83 : decode cX8_count 83 = .ok (.istore_n 2, 1) := by decide +kernel
theorem dX8_count_84 : decode cX8_count 84 = .ok (.iinc 3 1, 3) := by decide +kernel
theorem dX8_count_87 : decode cX8_count 87 = .ok (.goto (-28), 3) := by decide +kernel
theorem dX8_count_90 : decode cX8_count 90 = .ok (.iload_n 2, 1) := by decide +kernel
theorem dX8_count_91 : decode cX8_count 91 = .ok (.ireturn, 1) := by decide +kernel
theorem dX8_count_92 : decode cX8_count 92 = .ok (.aload_n 0, 1) := by decide +kernel
theorem dX8_count_93 : decode cX8_count 93 = .ok (.getfield 173, 3) := by decide +kernel
theorem dX8_count_96 : decode cX8_count 96 = .ok (.ireturn, 1) := by decide +kernel
theorem dX8_count_97 : decode cX8_count 97 = .ok (.aload_n 0, 1) := by decide +kernel
theorem dX8_count_98 : decode cX8_count 98 = .ok (.getfield 130, 3) := by decide +kernel
theorem dX8_count_101 : decode cX8_count 101 = .ok (.ireturn, 1) := by decide +kernel
theorem dX8_count_102 : decode cX8_count 102 = .ok (.aload_n 0, 1) := by decide +kernel
theorem dX8_count_103 : decode cX8_count 103 = .ok (.getfield 176, 3) := by decide +kernel
theorem dX8_count_106 : decode cX8_count 106 = .ok (.ireturn, 1) := by decide +kernel
theorem dX8_count_107 : decode cX8_count 107 = .ok (.aload_n 0, 1) := by decide +kernel
theorem dX8_count_108 : decode cX8_count 108 = .ok (.getfield 136, 3) := by decide +kernel
theorem dX8_count_111 : decode cX8_count 111 = .ok (.ireturn, 1) := by decide +kernel
theorem dX8_count_112 : decode cX8_count 112 = .ok (.aload_n 0, 1) := by decide +kernel
theorem dX8_count_113 : decode cX8_count 113 = .ok (.getfield 133, 3) := by decide +kernel
theorem dX8_count_116 : decode cX8_count 116 = .ok (.ireturn, 1) := by decide +kernel
theorem dX8_count_117 : decode cX8_count 117 = .ok (.aload_n 0, 1) := by decide +kernel
theorem dX8_count_118 : decode cX8_count 118 = .ok (.getfield 143, 3) := by decide +kernel
theorem dX8_count_121 : decode cX8_count 121 = .ok (.ireturn, 1) := by decide +kernel
theorem dX8_count_122 : decode cX8_count 122 = .ok (.aload_n 0, 1) := by decide +kernel
theorem dX8_count_123 : decode cX8_count 123 = .ok (.getfield 146, 3) := by decide +kernel
theorem dX8_count_126 : decode cX8_count 126 = .ok (.ireturn, 1) := by decide +kernel
theorem dX8_count_127 : decode cX8_count 127 = .ok (.iconst (-1), 1) := by decide +kernel
theorem dX8_count_128 : decode cX8_count 128 = .ok (.ireturn, 1) := by decide +kernel
