set_option maxRecDepth 20000 in
theorem cw_X10_340 : CwV RX10 340 yX10_take cX10_take 4 none 2 := ⟨wm 1404 (by decide +kernel) rfl, wm 1406 (by decide +kernel) rfl, wms 54 (by decide +kernel) rfl, wm 11 (by decide +kernel) rfl, wm 1407 rfl rfl, by decide +kernel⟩
set_option maxRecDepth 20000 in
theorem cw_X10_343 : CwV RX10 343 yX10_openerOf cX10_openerOf 3 (some .int) 1 := ⟨wm 1440 (by decide +kernel) rfl, wm 1442 (by decide +kernel) rfl, wms 63 (by decide +kernel) rfl, wm 11 (by decide +kernel) rfl, wm 1443 rfl rfl, by decide +kernel⟩
set_option maxRecDepth 20000 in
theorem cw_X10_337 : CwV RX10 337 yX10_isGoer cX10_isGoer 4 (some .boolean) 1 := ⟨wm 1400 (by decide +kernel) rfl, wm 1402 (by decide +kernel) rfl, wms 53 (by decide +kernel) rfl, wm 11 (by decide +kernel) rfl, wm 1403 rfl rfl, by decide +kernel⟩
set_option maxRecDepth 20000 in
theorem cw_X10_330 : CwV RX10 330 yX10_measure cX10_measure 4 none 0 := ⟨wm 1353 (by decide +kernel) rfl, wm 1355 (by decide +kernel) rfl, wms 42 (by decide +kernel) rfl, wm 11 (by decide +kernel) rfl, wm 1356 rfl rfl, by decide +kernel⟩
set_option maxRecDepth 20000 in
theorem cw_X10_333 : CwV RX10 333 yX10_cutUp cX10_cutUp 5 (some .boolean) 0 := ⟨wm 1357 (by decide +kernel) rfl, wm 1359 (by decide +kernel) rfl, wms 43 (by decide +kernel) rfl, wm 11 (by decide +kernel) rfl, wm 1360 rfl rfl, by decide +kernel⟩
theorem dX10_readAll_276 : decode cX10_readAll 276 = .ok (.iload 4, 2) := by decide +kernel
theorem dX10_readAll_278 : decode cX10_readAll 278 = .ok (.aload_n 0, 1) := by decide +kernel
theorem dX10_readAll_279 : decode cX10_readAll 279 = .ok (.getfield 293, 3) := by decide +kernel
theorem dX10_readAll_282 : decode cX10_readAll 282 = .ok (.if_icmp .ge 56, 3) := by decide +kernel
theorem dX10_readAll_338 : decode cX10_readAll 338 = .ok (.aload_n 0, 1) := by decide +kernel
theorem dX10_readAll_339 : decode cX10_readAll 339 = .ok (.getfield 245, 3) := by decide +kernel
theorem dX10_readAll_342 : decode cX10_readAll 342 = .ok (.ifCond .ne 7, 3) := by decide +kernel
theorem dX10_readAll_349 : decode cX10_readAll 349 = .ok (.iconst 0, 1) := by decide +kernel
theorem dX10_readAll_350 : decode cX10_readAll 350 = .ok (.ireturn, 1) := by decide +kernel
theorem dX10_readAll_345 : decode cX10_readAll 345 = .ok (.iconst 1, 1) := by decide +kernel
theorem dX10_readAll_346 : decode cX10_readAll 346 = .ok (.goto 4, 3) := by decide +kernel
theorem dX10_readAll_285 : decode cX10_readAll 285 = .ok (.aload_n 0, 1) := by decide +kernel
theorem dX10_readAll_286 : decode cX10_readAll 286 = .ok (.getfield 245, 3) := by decide +kernel
theorem dX10_readAll_289 : decode cX10_readAll 289 = .ok (.ifCond .ne 49, 3) := by decide +kernel
theorem dX10_readAll_292 : decode cX10_readAll 292 = .ok (.aload_n 0, 1) := by decide +kernel
theorem dX10_readAll_293 : decode cX10_readAll 293 = .ok (.getfield 73, 3) := by decide +kernel
theorem dX10_readAll_296 : decode cX10_readAll 296 = .ok (.aload_n 0, 1) := by decide +kernel
theorem dX10_readAll_297 : decode cX10_readAll 297 = .ok (.getfield 118, 3) := by decide +kernel
theorem dX10_readAll_300 : decode cX10_readAll 300 = .ok (.iload 4, 2) := by decide +kernel
theorem dX10_readAll_302 : decode cX10_readAll 302 = .ok (.iaload, 1) := by decide +kernel
theorem dX10_readAll_303 : decode cX10_readAll 303 = .ok (.iaload, 1) := by decide +kernel
theorem dX10_readAll_304 : decode cX10_readAll 304 = .ok (.iconst 4, 1) := by decide +kernel
theorem dX10_readAll_305 : decode cX10_readAll 305 = .ok (.if_icmp .ne 27, 3) := by decide +kernel
theorem dX10_readAll_332 : decode cX10_readAll 332 = .ok (.iinc 4 1, 3) := by decide +kernel
theorem dX10_readAll_335 : decode cX10_readAll 335 = .ok (.goto (-59), 3) := by decide +kernel
theorem dX10_readAll_308 : decode cX10_readAll 308 = .ok (.aload_n 0, 1) := by decide +kernel
theorem dX10_readAll_309 : decode cX10_readAll 309 = .ok (.bipush 6, 2) := by decide +kernel
theorem dX10_readAll_311 : decode cX10_readAll 311 = .ok (.aload_n 0, 1) := by decide +kernel
theorem dX10_readAll_312 : decode cX10_readAll 312 = .ok (.getfield 45, 3) := by decide +kernel
theorem dX10_readAll_315 : decode cX10_readAll 315 = .ok (.aload_n 0, 1) := by decide +kernel
theorem dX10_readAll_316 : decode cX10_readAll 316 = .ok (.getfield 82, 3) := by decide +kernel
theorem dX10_readAll_319 : decode cX10_readAll 319 = .ok (.aload_n 0, 1) := by decide +kernel
theorem dX10_readAll_320 : decode cX10_readAll 320 = .ok (.getfield 118, 3) := by decide +kernel
theorem dX10_readAll_323 : decode cX10_readAll 323 = .ok (.iload 4, 2) := by decide +kernel
theorem dX10_readAll_325 : decode cX10_readAll 325 = .ok (.iaload, 1) := by decide +kernel
theorem dX10_readAll_326 : decode cX10_readAll 326 = .ok (.iaload, 1) := by decide +kernel
theorem dX10_readAll_327 : decode cX10_readAll 327 = .ok (.iaload, 1) := by decide +kernel
theorem dX10_readAll_328 : decode cX10_readAll 328 = .ok (.invokevirtual 254, 3) := by decide +kernel
theorem dX10_readAll_331 : decode cX10_readAll 331 = .ok (.ireturn, 1) := by decide +kernel
theorem dX10_readAll_80 : decode cX10_readAll 80 = .ok (.iload 4, 2) := by decide +kernel
theorem dX10_readAll_82 : decode cX10_readAll 82 = .ok (.aload_n 0, 1) := by decide +kernel
theorem dX10_readAll_83 : decode cX10_readAll 83 = .ok (.getfield 258, 3) := by decide +kernel
theorem dX10_readAll_86 : decode cX10_readAll 86 = .ok (.if_icmp .ge 130, 3) := by decide +kernel
theorem dX10_readAll_216 : decode cX10_readAll 216 = .ok (.aload_n 0, 1) := by decide +kernel
theorem dX10_readAll_217 : decode cX10_readAll 217 = .ok (.getfield 245, 3) := by decide +kernel
theorem dX10_readAll_220 : decode cX10_readAll 220 = .ok (.ifCond .ne 18, 3) := by decide +kernel
theorem dX10_readAll_238 : decode cX10_readAll 238 = .ok (.aload_n 0, 1) := by decide +kernel
theorem dX10_readAll_239 : decode cX10_readAll 239 = .ok (.getfield 245, 3) := by decide +kernel
theorem dX10_readAll_242 : decode cX10_readAll 242 = .ok (.ifCond .ne 31, 3) := by decide +kernel
theorem dX10_readAll_273 : decode cX10_readAll 273 = .ok (.iconst 0, 1) := by decide +kernel
theorem dX10_readAll_274 : decode cX10_readAll 274 = .ok (.istore 4, 2) := by decide +kernel
theorem dX10_readAll_245 : decode cX10_readAll 245 = .ok (.iload_n 3, 1) := by decide +kernel
theorem dX10_readAll_246 : decode cX10_readAll 246 = .ok (.ifCond .le 27, 3) := by decide +kernel
theorem dX10_readAll_249 : decode cX10_readAll 249 = .ok (.aload_n 0, 1) := by decide +kernel
theorem dX10_readAll_250 : decode cX10_readAll 250 = .ok (.iload_n 3, 1) := by decide +kernel
theorem dX10_readAll_251 : decode cX10_readAll 251 = .ok (.bipush (-9), 2) := by decide +kernel
theorem dX10_readAll_253 : decode cX10_readAll 253 = .ok (.aload_n 0, 1) := by decide +kernel
theorem dX10_readAll_254 : decode cX10_readAll 254 = .ok (.getfield 91, 3) := by decide +kernel
theorem dX10_readAll_257 : decode cX10_readAll 257 = .ok (.aload_n 0, 1) := by decide +kernel
theorem dX10_readAll_258 : decode cX10_readAll 258 = .ok (.invokevirtual 296, 3) := by decide +kernel
theorem dX10_readAll_261 : decode cX10_readAll 261 = .ok (.iaload, 1) := by decide +kernel
theorem dX10_readAll_262 : decode cX10_readAll 262 = .ok (.aload_n 0, 1) := by decide +kernel
theorem dX10_readAll_263 : decode cX10_readAll 263 = .ok (.getfield 258, 3) := by decide +kernel
theorem dX10_readAll_266 : decode cX10_readAll 266 = .ok (.iconst 1, 1) := by decide +kernel
theorem dX10_readAll_267 : decode cX10_readAll 267 = .ok (.isub, 1) := by decide +kernel
theorem dX10_readAll_268 : decode cX10_readAll 268 = .ok (.invokevirtual 299, 3) := by decide +kernel
theorem dX10_readAll_271 : decode cX10_readAll 271 = .ok (.istore 4, 2) := by decide +kernel
theorem dX10_readAll_223 : decode cX10_readAll 223 = .ok (.iload_n 3, 1) := by decide +kernel
theorem dX10_readAll_224 : decode cX10_readAll 224 = .ok (.iconst 1, 1) := by decide +kernel
theorem dX10_readAll_225 : decode cX10_readAll 225 = .ok (.if_icmp .ne 13, 3) := by decide +kernel
theorem dX10_readAll_228 : decode cX10_readAll 228 = .ok (.aload_n 0, 1) := by decide +kernel
theorem dX10_readAll_229 : decode cX10_readAll 229 = .ok (.iconst 3, 1) := by decide +kernel
theorem dX10_readAll_230 : decode cX10_readAll 230 = .ok (.aload_n 0, 1) := by decide +kernel
theorem dX10_readAll_231 : decode cX10_readAll 231 = .ok (.getfield 251, 3) := by decide +kernel
theorem dX10_readAll_234 : decode cX10_readAll 234 = .ok (.invokevirtual 254, 3) := by decide +kernel
theorem dX10_readAll_237 : decode cX10_readAll 237 = .ok (.ireturn, 1) := by decide +kernel
theorem dX10_readAll_89 : decode cX10_readAll 89 = .ok (.aload_n 0, 1) := by decide +kernel
theorem dX10_readAll_90 : decode cX10_readAll 90 = .ok (.getfield 245, 3) := by decide +kernel
theorem dX10_readAll_93 : decode cX10_readAll 93 = .ok (.ifCond .ne 123, 3) := by decide +kernel
theorem dX10_readAll_96 : decode cX10_readAll 96 = .ok (.aload_n 0, 1) := by decide +kernel
theorem dX10_readAll_97 : decode cX10_readAll 97 = .ok (.getfield 73, 3) := by decide +kernel
theorem dX10_readAll_100 : decode cX10_readAll 100 = .ok (.aload_n 0, 1) := by decide +kernel
theorem dX10_readAll_101 : decode cX10_readAll 101 = .ok (.invokevirtual 296, 3) := by decide +kernel
theorem dX10_readAll_104 : decode cX10_readAll 104 = .ok (.iaload, 1) := by decide +kernel
theorem dX10_readAll_105 : decode cX10_readAll 105 = .ok (.iconst 4, 1) := by decide +kernel
theorem dX10_readAll_106 : decode cX10_readAll 106 = .ok (.if_icmp .ne 7, 3) := by decide +kernel
theorem dX10_readAll_113 : decode cX10_readAll 113 = .ok (.iconst 0, 1) := by decide +kernel
theorem dX10_readAll_114 : decode cX10_readAll 114 = .ok (.istore 5, 2) := by decide +kernel
theorem dX10_readAll_116 : decode cX10_readAll 116 = .ok (.aload_n 0, 1) := by decide +kernel
theorem dX10_readAll_117 : decode cX10_readAll 117 = .ok (.getfield 57, 3) := by decide +kernel
theorem dX10_readAll_120 : decode cX10_readAll 120 = .ok (.iload 4, 2) := by decide +kernel
theorem dX10_readAll_122 : decode cX10_readAll 122 = .ok (.aload_n 0, 1) := by decide +kernel
theorem dX10_readAll_123 : decode cX10_readAll 123 = .ok (.getfield 57, 3) := by decide +kernel
theorem dX10_readAll_126 : decode cX10_readAll 126 = .ok (.iload 4, 2) := by decide +kernel
theorem dX10_readAll_128 : decode cX10_readAll 128 = .ok (.baload, 1) := by decide +kernel
theorem dX10_readAll_129 : decode cX10_readAll 129 = .ok (.ifCond .eq 28, 3) := by decide +kernel
theorem dX10_readAll_157 : decode cX10_readAll 157 = .ok (.iconst 0, 1) := by decide +kernel
theorem dX10_readAll_158 : decode cX10_readAll 158 = .ok (.bastore, 1) := by decide +kernel
theorem dX10_readAll_159 : decode cX10_readAll 159 = .ok (.aload_n 0, 1) := by decide +kernel
theorem dX10_readAll_160 : decode cX10_readAll 160 = .ok (.iload 4, 2) := by decide +kernel
theorem dX10_readAll_162 : decode cX10_readAll 162 = .ok (.iload_n 3, 1) := by decide +kernel
theorem dX10_readAll_163 : decode cX10_readAll 163 = .ok (.invokevirtual 340, 3) := by decide +kernel
theorem dX10_readAll_166 : decode cX10_readAll 166 = .ok (.aload_n 0, 1) := by decide +kernel
theorem dX10_readAll_167 : decode cX10_readAll 167 = .ok (.aload_n 0, 1) := by decide +kernel
theorem dX10_readAll_168 : decode cX10_readAll 168 = .ok (.getfield 57, 3) := by decide +kernel
theorem dX10_readAll_171 : decode cX10_readAll 171 = .ok (.iload 4, 2) := by decide +kernel
theorem dX10_readAll_173 : decode cX10_readAll 173 = .ok (.baload, 1) := by decide +kernel
theorem dX10_readAll_174 : decode cX10_readAll 174 = .ok (.ifCond .eq 13, 3) := by decide +kernel
theorem dX10_readAll_187 : decode cX10_readAll 187 = .ok (.aload_n 0, 1) := by decide +kernel
theorem dX10_readAll_188 : decode cX10_readAll 188 = .ok (.getfield 313, 3) := by decide +kernel
theorem dX10_readAll_191 : decode cX10_readAll 191 = .ok (.putfield 313, 3) := by decide +kernel
theorem dX10_readAll_194 : decode cX10_readAll 194 = .ok (.iload 5, 2) := by decide +kernel
theorem dX10_readAll_196 : decode cX10_readAll 196 = .ok (.ifCond .eq 7, 3) := by decide +kernel
theorem dX10_readAll_203 : decode cX10_readAll 203 = .ok (.aload_n 0, 1) := by decide +kernel
theorem dX10_readAll_204 : decode cX10_readAll 204 = .ok (.iload 4, 2) := by decide +kernel
theorem dX10_readAll_206 : decode cX10_readAll 206 = .ok (.invokevirtual 343, 3) := by decide +kernel
theorem dX10_readAll_209 : decode cX10_readAll 209 = .ok (.istore_n 3, 1) := by decide +kernel
theorem dX10_readAll_210 : decode cX10_readAll 210 = .ok (.iinc 4 1, 3) := by decide +kernel
theorem dX10_readAll_213 : decode cX10_readAll 213 = .ok (.goto (-133), 3) := by decide +kernel
theorem dX10_readAll_177 : decode cX10_readAll 177 = .ok (.aload_n 0, 1) := by decide +kernel
theorem dX10_readAll_178 : decode cX10_readAll 178 = .ok (.getfield 54, 3) := by decide +kernel
theorem dX10_readAll_181 : decode cX10_readAll 181 = .ok (.iload 4, 2) := by decide +kernel
theorem dX10_readAll_183 : decode cX10_readAll 183 = .ok (.iaload, 1) := by decide +kernel
theorem dX10_readAll_184 : decode cX10_readAll 184 = .ok (.goto 7, 3) := by decide +kernel
theorem dX10_readAll_132 : decode cX10_readAll 132 = .ok (.iload 5, 2) := by decide +kernel
theorem dX10_readAll_134 : decode cX10_readAll 134 = .ok (.ifCond .ne 23, 3) := by decide +kernel
theorem dX10_readAll_137 : decode cX10_readAll 137 = .ok (.iload 4, 2) := by decide +kernel
theorem dX10_readAll_139 : decode cX10_readAll 139 = .ok (.ifCond .eq 14, 3) := by decide +kernel
theorem dX10_readAll_153 : decode cX10_readAll 153 = .ok (.iconst 1, 1) := by decide +kernel
theorem dX10_readAll_154 : decode cX10_readAll 154 = .ok (.goto 4, 3) := by decide +kernel
theorem dX10_readAll_142 : decode cX10_readAll 142 = .ok (.aload_n 0, 1) := by decide +kernel
theorem dX10_readAll_143 : decode cX10_readAll 143 = .ok (.iload 4, 2) := by decide +kernel
theorem dX10_readAll_145 : decode cX10_readAll 145 = .ok (.iconst 1, 1) := by decide +kernel
theorem dX10_readAll_146 : decode cX10_readAll 146 = .ok (.isub, 1) := by decide +kernel
theorem dX10_readAll_147 : decode cX10_readAll 147 = .ok (.invokevirtual 337, 3) := by decide +kernel
theorem dX10_readAll_150 : decode cX10_readAll 150 = .ok (.ifCond .ne 7, 3) := by decide +kernel
theorem dX10_readAll_109 : decode cX10_readAll 109 = .ok (.iconst 1, 1) := by decide +kernel
theorem dX10_readAll_110 : decode cX10_readAll 110 = .ok (.goto 4, 3) := by decide +kernel
theorem dX10_readAll_199 : decode cX10_readAll 199 = .ok (.iconst 0, 1) := by decide +kernel
theorem dX10_readAll_200 : decode cX10_readAll 200 = .ok (.goto 9, 3) := by decide +kernel
theorem dX10_readAll_0 : decode cX10_readAll 0 = .ok (.aload_n 0, 1) := by decide +kernel
theorem dX10_readAll_1 : decode cX10_readAll 1 = .ok (.aload_n 1, 1) := by decide +kernel
theorem dX10_readAll_2 : decode cX10_readAll 2 = .ok (.putfield 39, 3) := by decide +kernel
theorem dX10_readAll_5 : decode cX10_readAll 5 = .ok (.aload_n 0, 1) := by decide +kernel
theorem dX10_readAll_6 : decode cX10_readAll 6 = .ok (.iload_n 2, 1) := by decide +kernel
theorem dX10_readAll_7 : decode cX10_readAll 7 = .ok (.putfield 251, 3) := by decide +kernel
theorem dX10_readAll_10 : decode cX10_readAll 10 = .ok (.aload_n 0, 1) := by decide +kernel
theorem dX10_readAll_11 : decode cX10_readAll 11 = .ok (.iconst 0, 1) := by decide +kernel
theorem dX10_readAll_12 : decode cX10_readAll 12 = .ok (.putfield 245, 3) := by decide +kernel
theorem dX10_readAll_15 : decode cX10_readAll 15 = .ok (.aload_n 0, 1) := by decide +kernel
theorem dX10_readAll_16 : decode cX10_readAll 16 = .ok (.bipush (-9), 2) := by decide +kernel
theorem dX10_readAll_18 : decode cX10_readAll 18 = .ok (.putfield 248, 3) := by decide +kernel
theorem dX10_readAll_21 : decode cX10_readAll 21 = .ok (.aload_n 0, 1) := by decide +kernel
theorem dX10_readAll_22 : decode cX10_readAll 22 = .ok (.iconst 0, 1) := by decide +kernel
theorem dX10_readAll_23 : decode cX10_readAll 23 = .ok (.putfield 281, 3) := by decide +kernel
theorem dX10_readAll_26 : decode cX10_readAll 26 = .ok (.aload_n 0, 1) := by decide +kernel
theorem dX10_readAll_27 : decode cX10_readAll 27 = .ok (.iconst 0, 1) := by decide +kernel
theorem dX10_readAll_28 : decode cX10_readAll 28 = .ok (.putfield 287, 3) := by decide +kernel
theorem dX10_readAll_31 : decode cX10_readAll 31 = .ok (.aload_n 0, 1) := by decide +kernel
theorem dX10_readAll_32 : decode cX10_readAll 32 = .ok (.iconst 0, 1) := by decide +kernel
theorem dX10_readAll_33 : decode cX10_readAll 33 = .ok (.putfield 290, 3) := by decide +kernel
theorem dX10_readAll_36 : decode cX10_readAll 36 = .ok (.aload_n 0, 1) := by decide +kernel
theorem dX10_readAll_37 : decode cX10_readAll 37 = .ok (.invokevirtual 330, 3) := by decide +kernel
theorem dX10_readAll_40 : decode cX10_readAll 40 = .ok (.aload_n 0, 1) := by decide +kernel
theorem dX10_readAll_41 : decode cX10_readAll 41 = .ok (.invokevirtual 333, 3) := by decide +kernel
theorem dX10_readAll_44 : decode cX10_readAll 44 = .ok (.ifCond .ne 5, 3) := by decide +kernel
theorem dX10_readAll_49 : decode cX10_readAll 49 = .ok (.aload_n 0, 1) := by decide +kernel
theorem dX10_readAll_50 : decode cX10_readAll 50 = .ok (.getfield 118, 3) := by decide +kernel
theorem dX10_readAll_53 : decode cX10_readAll 53 = .ok (.iconst 0, 1) := by decide +kernel
theorem dX10_readAll_54 : decode cX10_readAll 54 = .ok (.aload_n 0, 1) := by decide +kernel
theorem dX10_readAll_55 : decode cX10_readAll 55 = .ok (.iconst 0, 1) := by decide +kernel
theorem dX10_readAll_56 : decode cX10_readAll 56 = .ok (.iconst 0, 1) := by decide +kernel
theorem dX10_readAll_57 : decode cX10_readAll 57 = .ok (.bipush (-9), 2) := by decide +kernel
theorem dX10_readAll_59 : decode cX10_readAll 59 = .ok (.bipush (-9), 2) := by decide +kernel
theorem dX10_readAll_61 : decode cX10_readAll 61 = .ok (.invokevirtual 299, 3) := by decide +kernel
theorem dX10_readAll_64 : decode cX10_readAll 64 = .ok (.iastore, 1) := by decide +kernel
theorem dX10_readAll_65 : decode cX10_readAll 65 = .ok (.aload_n 0, 1) := by decide +kernel
theorem dX10_readAll_66 : decode cX10_readAll 66 = .ok (.iconst 1, 1) := by decide +kernel
theorem dX10_readAll_67 : decode cX10_readAll 67 = .ok (.putfield 293, 3) := by decide +kernel
theorem dX10_readAll_70 : decode cX10_readAll 70 = .ok (.aload_n 0, 1) := by decide +kernel
theorem dX10_readAll_71 : decode cX10_readAll 71 = .ok (.iconst (-1), 1) := by decide +kernel
theorem dX10_readAll_72 : decode cX10_readAll 72 = .ok (.putfield 313, 3) := by decide +kernel
theorem dX10_readAll_75 : decode cX10_readAll 75 = .ok (.iconst 0, 1) := by decide +kernel
theorem dX10_readAll_76 : decode cX10_readAll 76 = .ok (.istore_n 3, 1) := by decide +kernel
theorem dX10_readAll_77 : decode cX10_readAll 77 = .ok (.iconst 0, 1) := by decide +kernel
theorem dX10_readAll_78 : decode cX10_readAll 78 = .ok (.istore 4, 2) := by decide +kernel
theorem dX10_readAll_47 : decode cX10_readAll 47 = .ok (.iconst 0, 1) := by decide +kernel
theorem dX10_readAll_48 : decode cX10_readAll 48 = .ok (.ireturn, 1) := by decide +kernel
set_option maxHeartbeats 4000000 in
set_option maxRecDepth 100000 in
theorem m_readAll_85 (l : Launch) (D : va_G) (tA : Nat → ClassId) (b : Nat) (i F : Nat → Nat → Int32) (G : Nat → Nat → Int64) (y : Int32) (hn : 0 ≤ y.toInt ∧ y.toInt ≤ 600) (hTA : TA (F 89) (F 90)) (hCB : CB F) (hWA : WA F) (hBR : BR i) : xMI l yX10_readAll cX10_readAll 6 (some .boolean) 5 120 D tA b 78 52 i F G [.ref (b + 78), .ref (b + 85), .int y] (fun r u => RO [17, 18, 19, 30, 31, 32, 40, 47, 51, 52] [88, 89, 90, 91, 92, 93, 94, 95, 96, 97, 98, 99, 100, 101, 102, 103, 104, 105, 106, 107, 108, 109, 110, 111, 112, 113] i F G u ∧ TKm u.1 u.2.1 ∧ TMm u.1 u.2.1 ∧ CB u.2.1 ∧ (r = 0 ∨ r = 1) ∧ (r = 0 → (0 ≤ (u.1 78 31).toInt ∧ (u.1 78 31).toInt ≤ 600)) ∧ u.1 78 17 = nI 85 ∧ (1 ≤ (u.1 78 32).toInt ∨ (r = 0 ∧ (u.1 78 32).toInt = 0 ∧ (u.1 78 40).toInt = 0 ∧ ∀ k : Nat, 95 ≤ k → (k < 96 ∨ 98 ≤ k) → u.2.1 k = F k))) := by
  refine xstart RX10 rfl (by decide) (Nat.le_of_ble_eq_true rfl) ?_
  intro p e s m below meth c ls C0 hr hH hS hl
  have hl : lv_has ls 6 [(0, .ref (b + 78)), (1, .ref (b + 85)), (2, .int y)] := hl
  have rg_y := fb_rng y
  have hBr := hBR
  unfold BR at hBr
  have L276 : ∀ (d : Nat) (q : Int32) (iv Fv : Nat → Nat → Int32) (Gv : Nat → Nat → Int64) (H : Heap) (locs : List Loc) (ls : Array Slot), (RO [17, 18, 19, 30, 31, 32, 40, 47, 51, 52] [88, 89, 90, 91, 92, 93, 94, 95, 96, 97, 98, 99, 100, 101, 102, 103, 104, 105, 106, 107, 108, 109, 110, 111, 112, 113] i F G (iv, Fv, Gv)) → (TMm iv Fv) → (TKm iv Fv) → (PLI iv) → (CB Fv) → ((iv 78 18).toInt = y.toInt) → (iv 78 17 = nI 85) → ((iv 78 30).toInt = 0 → PMm 0 iv Fv) → (0 ≤ q.toInt) → (1202 - q.toInt ≤ d) → (1 ≤ (iv 78 32).toInt) → Hd D tA b 78 52 zz iv Fv Gv H → va_S (xA b 78 52) s.heap H locs → lv_has ls 6 [(4, .int q), (0, .ref (b + 78)), (2, .int y)] → W p l e (xR 5 120) s m ([.ref (b + 78), .ref (b + 85), .int y] : List Value).toArray below meth c H locs 0 0 (MQ below (va_Qi (fun r u => RO [17, 18, 19, 30, 31, 32, 40, 47, 51, 52] [88, 89, 90, 91, 92, 93, 94, 95, 96, 97, 98, 99, 100, 101, 102, 103, 104, 105, 106, 107, 108, 109, 110, 111, 112, 113] i F G u ∧ TKm u.1 u.2.1 ∧ TMm u.1 u.2.1 ∧ CB u.2.1 ∧ (r = 0 ∨ r = 1) ∧ (r = 0 → (0 ≤ (u.1 78 31).toInt ∧ (u.1 78 31).toInt ≤ 600)) ∧ u.1 78 17 = nI 85 ∧ (1 ≤ (u.1 78 32).toInt ∨ (r = 0 ∧ (u.1 78 32).toInt = 0 ∧ (u.1 78 40).toInt = 0 ∧ ∀ k : Nat, 95 ≤ k → (k < 96 ∨ 98 ≤ k) → u.2.1 k = F k))) (xB D tA b 78 52 zz) (xA b 78 52)) ([.ref (b + 78), .ref (b + 85), .int y] : List Value).toArray s 0 0 (xA b 78 52)) (F0 m 276 ls []) := by
    intro d
    induction d with
    | zero =>
      intro q iv Fv Gv H locs ls g1 g2 g3 g4 g5 g6 g7 g8 g9 g10 g11 hH hS hl
      have rg_q := fb_rng q
      have hT := g2
      have hTK := g3
      have hPI := g4
      have hBR : BR iv := BR.ro hBR g1 (by decide)
      have hBr := hBR
      unfold BR at hBr
      have hTL := TMm.lin hT
      have hTKl := hTK.1
      have hCB := g5
      have hi_78_17 := g7
      refine lv_iload (pc := 276) C0.1 C0.2.1 dX10_readAll_276 (lv_at hl 0 rfl) ?_
      refine lv_aload_n (pc := 278) C0.1 C0.2.1 dX10_readAll_278 rfl (lv_at hl 1 rfl) ?_
      refine xget (pc := 279) C0 hH 78 51 clX10 ⟨Nat.le_of_ble_eq_true rfl, Nat.le_of_ble_eq_true rfl⟩ ⟨rfl, rfl⟩ (Nat.le_of_ble_eq_true rfl) fl_X10_293 (v := .int (iv 78 51)) rfl dX10_readAll_279 ?_
      have hle : (iv 78 51).toInt ≤ 1202 ∨ ¬ (iv 78 30).toInt = 0 := if w : (iv 78 30).toInt = 0 then Or.inl (by have := (g8 w).1; omega) else Or.inr w
      refine lv_icmp_ge (pc := 282) (tgt := 338) C0.1 C0.2.1 dX10_readAll_282 (by decide) (fun c201 => ?_) (fun c201 => ?_)
      · have c201 := Int32.le_iff_toInt_le.mp c201
        refine lv_aload_n (pc := 338) C0.1 C0.2.1 dX10_readAll_338 rfl (lv_at hl 1 rfl) ?_
        refine xget (pc := 339) C0 hH 78 30 clX10 ⟨Nat.le_of_ble_eq_true rfl, Nat.le_of_ble_eq_true rfl⟩ ⟨rfl, rfl⟩ (Nat.le_of_ble_eq_true rfl) fl_X10_245 (v := .int (iv 78 30)) rfl dX10_readAll_339 ?_
        refine lv_if_ne (pc := 342) (tgt := 349) C0.1 C0.2.1 dX10_readAll_342 (by decide) (fun c202 => ?_) (fun c202 => ?_)
        · have : Int32.toInt 0 = 0 := rfl
          have c202 : ¬ _ := fun q => c202 (Int32.toInt_inj.mp q)
          refine lv_iconst (pc := 349) (v := 0) C0.1 C0.2.1 dX10_readAll_349 (by decide) ?_
          exact xzret (pc := 350) C0 hr hH hS dX10_readAll_350 (by decide) ⟨g1, hTK, hT, hCB, (by decide), (fun _ => hPI.resolve_left (fun w => absurd w (by assumption))), hi_78_17, Or.inl (show 1 ≤ Int32.toInt (iv 78 32) from by omega)⟩
        · have : Int32.toInt 0 = 0 := rfl
          have c202 := congrArg Int32.toInt c202
          refine lv_iconst (pc := 345) (v := 1) C0.1 C0.2.1 dX10_readAll_345 (by decide) ?_
          refine lv_goto (pc := 346) (tgt := 350) C0.1 C0.2.1 dX10_readAll_346 (by decide) ?_
          exact xzret (pc := 350) C0 hr hH hS dX10_readAll_350 (by decide) ⟨g1, hTK, hT, hCB, (by decide), (fun q => absurd q (by decide)), hi_78_17, Or.inl (show 1 ≤ Int32.toInt (iv 78 32) from by omega)⟩
      · have c201 : ¬ _ := fun q => c201 (Int32.le_iff_toInt_le.mpr q)
        refine lv_aload_n (pc := 285) C0.1 C0.2.1 dX10_readAll_285 rfl (lv_at hl 1 rfl) ?_
        refine xget (pc := 286) C0 hH 78 30 clX10 ⟨Nat.le_of_ble_eq_true rfl, Nat.le_of_ble_eq_true rfl⟩ ⟨rfl, rfl⟩ (Nat.le_of_ble_eq_true rfl) fl_X10_245 (v := .int (iv 78 30)) rfl dX10_readAll_286 ?_
        have : Int32.toInt 0 = 0 := rfl
        refine lv_if_ne (pc := 289) (tgt := 338) C0.1 C0.2.1 dX10_readAll_289 (by decide) (fun _ => ?_) (fun c => absurd c (fun q => absurd (congrArg Int32.toInt q) (by omega)))
        refine lv_aload_n (pc := 338) C0.1 C0.2.1 dX10_readAll_338 rfl (lv_at hl 1 rfl) ?_
        refine xget (pc := 339) C0 hH 78 30 clX10 ⟨Nat.le_of_ble_eq_true rfl, Nat.le_of_ble_eq_true rfl⟩ ⟨rfl, rfl⟩ (Nat.le_of_ble_eq_true rfl) fl_X10_245 (v := .int (iv 78 30)) rfl dX10_readAll_339 ?_
        refine lv_if_ne (pc := 342) (tgt := 349) C0.1 C0.2.1 dX10_readAll_342 (by decide) (fun c203 => ?_) (fun c203 => ?_)
        · have : Int32.toInt 0 = 0 := rfl
          have c203 : ¬ _ := fun q => c203 (Int32.toInt_inj.mp q)
          refine lv_iconst (pc := 349) (v := 0) C0.1 C0.2.1 dX10_readAll_349 (by decide) ?_
          exact xzret (pc := 350) C0 hr hH hS dX10_readAll_350 (by decide) ⟨g1, hTK, hT, hCB, (by decide), (fun _ => hPI.resolve_left (fun w => absurd w (by assumption))), hi_78_17, Or.inl (show 1 ≤ Int32.toInt (iv 78 32) from by omega)⟩
        · have : Int32.toInt 0 = 0 := rfl
          have c203 := congrArg Int32.toInt c203
          refine lv_iconst (pc := 345) (v := 1) C0.1 C0.2.1 dX10_readAll_345 (by decide) ?_
          refine lv_goto (pc := 346) (tgt := 350) C0.1 C0.2.1 dX10_readAll_346 (by decide) ?_
          exact xzret (pc := 350) C0 hr hH hS dX10_readAll_350 (by decide) ⟨g1, hTK, hT, hCB, (by decide), (fun q => absurd q (by decide)), hi_78_17, Or.inl (show 1 ≤ Int32.toInt (iv 78 32) from by omega)⟩
    | succ d ih276 =>
      intro q iv Fv Gv H locs ls g1 g2 g3 g4 g5 g6 g7 g8 g9 g10 g11 hH hS hl
      have rg_q := fb_rng q
      have hT := g2
      have hTK := g3
      have hPI := g4
      have hBR : BR iv := BR.ro hBR g1 (by decide)
      have hBr := hBR
      unfold BR at hBr
      have hTL := TMm.lin hT
      have hTKl := hTK.1
      have hCB := g5
      have hi_78_17 := g7
      refine lv_iload (pc := 276) C0.1 C0.2.1 dX10_readAll_276 (lv_at hl 0 rfl) ?_
      refine lv_aload_n (pc := 278) C0.1 C0.2.1 dX10_readAll_278 rfl (lv_at hl 1 rfl) ?_
      refine xget (pc := 279) C0 hH 78 51 clX10 ⟨Nat.le_of_ble_eq_true rfl, Nat.le_of_ble_eq_true rfl⟩ ⟨rfl, rfl⟩ (Nat.le_of_ble_eq_true rfl) fl_X10_293 (v := .int (iv 78 51)) rfl dX10_readAll_279 ?_
      refine lv_icmp_ge (pc := 282) (tgt := 338) C0.1 C0.2.1 dX10_readAll_282 (by decide) (fun c201 => ?_) (fun c201 => ?_)
      · have c201 := Int32.le_iff_toInt_le.mp c201
        refine lv_aload_n (pc := 338) C0.1 C0.2.1 dX10_readAll_338 rfl (lv_at hl 1 rfl) ?_
        refine xget (pc := 339) C0 hH 78 30 clX10 ⟨Nat.le_of_ble_eq_true rfl, Nat.le_of_ble_eq_true rfl⟩ ⟨rfl, rfl⟩ (Nat.le_of_ble_eq_true rfl) fl_X10_245 (v := .int (iv 78 30)) rfl dX10_readAll_339 ?_
        refine lv_if_ne (pc := 342) (tgt := 349) C0.1 C0.2.1 dX10_readAll_342 (by decide) (fun c202 => ?_) (fun c202 => ?_)
        · have : Int32.toInt 0 = 0 := rfl
          have c202 : ¬ _ := fun q => c202 (Int32.toInt_inj.mp q)
          refine lv_iconst (pc := 349) (v := 0) C0.1 C0.2.1 dX10_readAll_349 (by decide) ?_
          exact xzret (pc := 350) C0 hr hH hS dX10_readAll_350 (by decide) ⟨g1, hTK, hT, hCB, (by decide), (fun _ => hPI.resolve_left (fun w => absurd w (by assumption))), hi_78_17, Or.inl (show 1 ≤ Int32.toInt (iv 78 32) from by omega)⟩
        · have : Int32.toInt 0 = 0 := rfl
          have c202 := congrArg Int32.toInt c202
          refine lv_iconst (pc := 345) (v := 1) C0.1 C0.2.1 dX10_readAll_345 (by decide) ?_
          refine lv_goto (pc := 346) (tgt := 350) C0.1 C0.2.1 dX10_readAll_346 (by decide) ?_
          exact xzret (pc := 350) C0 hr hH hS dX10_readAll_350 (by decide) ⟨g1, hTK, hT, hCB, (by decide), (fun q => absurd q (by decide)), hi_78_17, Or.inl (show 1 ≤ Int32.toInt (iv 78 32) from by omega)⟩
      · have c201 : ¬ _ := fun q => c201 (Int32.le_iff_toInt_le.mpr q)
        refine lv_aload_n (pc := 285) C0.1 C0.2.1 dX10_readAll_285 rfl (lv_at hl 1 rfl) ?_
        refine xget (pc := 286) C0 hH 78 30 clX10 ⟨Nat.le_of_ble_eq_true rfl, Nat.le_of_ble_eq_true rfl⟩ ⟨rfl, rfl⟩ (Nat.le_of_ble_eq_true rfl) fl_X10_245 (v := .int (iv 78 30)) rfl dX10_readAll_286 ?_
        refine lv_if_ne (pc := 289) (tgt := 338) C0.1 C0.2.1 dX10_readAll_289 (by decide) (fun c203 => ?_) (fun c203 => ?_)
        · have : Int32.toInt 0 = 0 := rfl
          have c203 : ¬ _ := fun q => c203 (Int32.toInt_inj.mp q)
          refine lv_aload_n (pc := 338) C0.1 C0.2.1 dX10_readAll_338 rfl (lv_at hl 1 rfl) ?_
          refine xget (pc := 339) C0 hH 78 30 clX10 ⟨Nat.le_of_ble_eq_true rfl, Nat.le_of_ble_eq_true rfl⟩ ⟨rfl, rfl⟩ (Nat.le_of_ble_eq_true rfl) fl_X10_245 (v := .int (iv 78 30)) rfl dX10_readAll_339 ?_
          refine lv_if_ne (pc := 342) (tgt := 349) C0.1 C0.2.1 dX10_readAll_342 (by decide) (fun c204 => ?_) (fun c204 => ?_)
          · have : Int32.toInt 0 = 0 := rfl
            have c204 : ¬ _ := fun q => c204 (Int32.toInt_inj.mp q)
            refine lv_iconst (pc := 349) (v := 0) C0.1 C0.2.1 dX10_readAll_349 (by decide) ?_
            exact xzret (pc := 350) C0 hr hH hS dX10_readAll_350 (by decide) ⟨g1, hTK, hT, hCB, (by decide), (fun _ => hPI.resolve_left (fun w => absurd w (by assumption))), hi_78_17, Or.inl (show 1 ≤ Int32.toInt (iv 78 32) from by omega)⟩
          · have : Int32.toInt 0 = 0 := rfl
            have c204 := congrArg Int32.toInt c204
            refine lv_iconst (pc := 345) (v := 1) C0.1 C0.2.1 dX10_readAll_345 (by decide) ?_
            refine lv_goto (pc := 346) (tgt := 350) C0.1 C0.2.1 dX10_readAll_346 (by decide) ?_
            exact xzret (pc := 350) C0 hr hH hS dX10_readAll_350 (by decide) ⟨g1, hTK, hT, hCB, (by decide), (fun q => absurd q (by decide)), hi_78_17, Or.inl (show 1 ≤ Int32.toInt (iv 78 32) from by omega)⟩
        · have : Int32.toInt 0 = 0 := rfl
          have c203 := congrArg Int32.toInt c203
          have hP := g8 (by have : Int32.toInt 0 = 0 := rfl; omega)
          have hPl := hP.1
          have hpl := PMm.lt hP (x := q) (by omega)
          refine lv_aload_n (pc := 292) C0.1 C0.2.1 dX10_readAll_292 rfl (lv_at hl 1 rfl) ?_
          refine xget (pc := 293) C0 hH 78 33 clX10 ⟨Nat.le_of_ble_eq_true rfl, Nat.le_of_ble_eq_true rfl⟩ ⟨rfl, rfl⟩ (Nat.le_of_ble_eq_true rfl) fl_X10_73 (v := .ref (b + 98)) rfl dX10_readAll_293 ?_
          refine lv_aload_n (pc := 296) C0.1 C0.2.1 dX10_readAll_296 rfl (lv_at hl 1 rfl) ?_
          refine xget (pc := 297) C0 hH 78 50 clX10 ⟨Nat.le_of_ble_eq_true rfl, Nat.le_of_ble_eq_true rfl⟩ ⟨rfl, rfl⟩ (Nat.le_of_ble_eq_true rfl) fl_X10_118 (v := .ref (b + 113)) rfl dX10_readAll_297 ?_
          refine lv_iload (pc := 300) C0.1 C0.2.1 dX10_readAll_300 (lv_at hl 0 rfl) ?_
          refine xiald (pc := 302) (N := 1202) C0 hH 113 ⟨Nat.le_of_ble_eq_true rfl, Nat.le_of_ble_eq_true rfl⟩ ⟨rfl, rfl⟩ (vI (by omega) (by omega)) dX10_readAll_302 ?_
          refine xiald (pc := 303) (N := 1202) C0 hH 98 ⟨Nat.le_of_ble_eq_true rfl, Nat.le_of_ble_eq_true rfl⟩ ⟨rfl, rfl⟩ (vI hpl.1.1 (by have := hpl.1.2; omega)) dX10_readAll_303 ?_
          refine lv_iconst (pc := 304) (v := 4) C0.1 C0.2.1 dX10_readAll_304 (by decide) ?_
          refine lv_icmp_ne (pc := 305) (tgt := 332) C0.1 C0.2.1 dX10_readAll_305 (by decide) (fun c205 => ?_) (fun c205 => ?_)
          · have : Int32.toInt 4 = 4 := rfl
            have c205 : ¬ _ := fun q => c205 (Int32.toInt_inj.mp q)
            obtain ⟨x206, ex206⟩ : ∃ y_ : Int32, y_ = q + 1 := ⟨_, rfl⟩
            have : Int32.toInt 1 = 1 := rfl
            have hx206 : Int32.toInt x206 = Int32.toInt q + Int32.toInt 1 := by rw [ex206]; exact fb_addI (by omega) (by omega)
            refine lv_iinc (pc := 332) (v := x206) (lv' := [(4, .int x206), (0, .ref (b + 78)), (2, .int y)]) C0.1 C0.2.1 dX10_readAll_332 hl (k := 0) rfl (by rw [ex206]; rfl) (by decide) rfl (fun ls hl => ?_)
            refine lv_goto (pc := 335) (tgt := 276) C0.1 C0.2.1 dX10_readAll_335 (by decide) ?_
            exact ih276 x206 iv Fv Gv _ _ _ g1 hT hTK hPI hCB g6 g7 g8 (by omega) (by omega) g11 hH hS (lv_sub hl [0, 1, 2] rfl)
          · have : Int32.toInt 4 = 4 := rfl
            have c205 := congrArg Int32.toInt c205
            have hk4 : Int32.toInt (Fv 98 (Int32.toNatClampNeg (Fv 113 (Int32.toNatClampNeg q)))) = Int32.toInt 4 := (by assumption)
            have hb0 : ¬ (Fv 113 (Int32.toNatClampNeg q)) = 0 := fun w => by rw [w, show Int32.toNatClampNeg 0 = 0 from rfl, hP.2.2.2.1] at hk4; exact absurd hk4 (by decide)
            have hb0I : ¬ Int32.toInt (Fv 113 (Int32.toNatClampNeg q)) = 0 := fun w => hb0 (Int32.toInt_inj.mp w)
            have hpt := TMm.pt hT (x := Fv 113 (Int32.toNatClampNeg q)) (by omega)
            refine lv_aload_n (pc := 308) C0.1 C0.2.1 dX10_readAll_308 rfl (lv_at hl 1 rfl) ?_
            refine lv_bipush (pc := 309) (v := 6) C0.1 C0.2.1 dX10_readAll_309 (by decide) ?_
            refine lv_aload_n (pc := 311) C0.1 C0.2.1 dX10_readAll_311 rfl (lv_at hl 1 rfl) ?_
            refine xget (pc := 312) C0 hH 78 21 clX10 ⟨Nat.le_of_ble_eq_true rfl, Nat.le_of_ble_eq_true rfl⟩ ⟨rfl, rfl⟩ (Nat.le_of_ble_eq_true rfl) fl_X10_45 (v := .ref (b + 89)) rfl dX10_readAll_312 ?_
            refine lv_aload_n (pc := 315) C0.1 C0.2.1 dX10_readAll_315 rfl (lv_at hl 1 rfl) ?_
            refine xget (pc := 316) C0 hH 78 36 clX10 ⟨Nat.le_of_ble_eq_true rfl, Nat.le_of_ble_eq_true rfl⟩ ⟨rfl, rfl⟩ (Nat.le_of_ble_eq_true rfl) fl_X10_82 (v := .ref (b + 101)) rfl dX10_readAll_316 ?_
            refine lv_aload_n (pc := 319) C0.1 C0.2.1 dX10_readAll_319 rfl (lv_at hl 1 rfl) ?_
            refine xget (pc := 320) C0 hH 78 50 clX10 ⟨Nat.le_of_ble_eq_true rfl, Nat.le_of_ble_eq_true rfl⟩ ⟨rfl, rfl⟩ (Nat.le_of_ble_eq_true rfl) fl_X10_118 (v := .ref (b + 113)) rfl dX10_readAll_320 ?_
            refine lv_iload (pc := 323) C0.1 C0.2.1 dX10_readAll_323 (lv_at hl 0 rfl) ?_
            refine xiald (pc := 325) (N := 1202) C0 hH 113 ⟨Nat.le_of_ble_eq_true rfl, Nat.le_of_ble_eq_true rfl⟩ ⟨rfl, rfl⟩ (vI (by omega) (by omega)) dX10_readAll_325 ?_
            refine xiald (pc := 326) (N := 1202) C0 hH 101 ⟨Nat.le_of_ble_eq_true rfl, Nat.le_of_ble_eq_true rfl⟩ ⟨rfl, rfl⟩ (vI hpl.1.1 (by have := hpl.1.2; omega)) dX10_readAll_326 ?_
            refine xiald (pc := 327) (N := 600) C0 hH 89 ⟨Nat.le_of_ble_eq_true rfl, Nat.le_of_ble_eq_true rfl⟩ ⟨rfl, rfl⟩ (vI hpt.2.1 hpt.2.2) dX10_readAll_327 ?_
            refine xcVI (pc := 328) 78 [.int 6, .int (Fv 89 (Int32.toNatClampNeg (Fv 101 (Int32.toNatClampNeg (Fv 113 (Int32.toNatClampNeg q))))))] (m_fail l D tA b iv Fv Gv 6 (Fv 89 (Int32.toNatClampNeg (Fv 101 (Int32.toNatClampNeg (Fv 113 (Int32.toNatClampNeg q))))))) C0 hH hS clX10 rfl ⟨⟨Nat.le_of_ble_eq_true rfl, Nat.le_of_ble_eq_true rfl⟩, rfl, rfl⟩ cw_X10_254 rfl ⟨Nat.le_of_ble_eq_true rfl, Nat.le_of_ble_eq_true rfl⟩ hl.1 rfl (Nat.le_of_ble_eq_true rfl) dX10_readAll_328 ⟨Nat.le_of_ble_eq_true rfl, Nat.le_of_ble_eq_true rfl⟩ (fun r207 ir207 Fr207 Gr207 _ locs hp hH hS => ?_)
            obtain ⟨hu, rfl⟩ := hp
            cases hu
            have hH : Hd D tA b 78 52 zz (up2 (up2 iv 78 30 6) 78 31 (Fv 89 (Int32.toNatClampNeg (Fv 101 (Int32.toNatClampNeg (Fv 113 (Int32.toNatClampNeg q))))))) Fv Gv _ := hH
            exact xzret (pc := 331) C0 hr hH hS dX10_readAll_331 (by decide) ⟨(RO.i (RO.i g1 (by decide)) (by decide)), hTK, hT, hCB, (by decide), (fun _ => (show 0 ≤ Int32.toInt (Fv 89 (Int32.toNatClampNeg (Fv 101 (Int32.toNatClampNeg (Fv 113 (Int32.toNatClampNeg q)))))) ∧ Int32.toInt (Fv 89 (Int32.toNatClampNeg (Fv 101 (Int32.toNatClampNeg (Fv 113 (Int32.toNatClampNeg q)))))) ≤ 600 from by first | omega | (have := hTK.2.1 (Int32.toNatClampNeg (Fv 101 (Int32.toNatClampNeg (Fv 113 (Int32.toNatClampNeg q))))); omega))), hi_78_17, Or.inl (show 1 ≤ Int32.toInt (iv 78 32) from by omega)⟩
  have L80 : ∀ (d : Nat) (q hw : Int32) (iv Fv : Nat → Nat → Int32) (Gv : Nat → Nat → Int64) (H : Heap) (locs : List Loc) (ls : Array Slot), (RO [17, 18, 19, 30, 31, 32, 40, 47, 51, 52] [88, 89, 90, 91, 92, 93, 94, 95, 96, 97, 98, 99, 100, 101, 102, 103, 104, 105, 106, 107, 108, 109, 110, 111, 112, 113] i F G (iv, Fv, Gv)) → (TMm iv Fv) → (TKm iv Fv) → (PLI iv) → (CB Fv) → ((iv 78 18).toInt = y.toInt) → (iv 78 17 = nI 85) → ((iv 78 30).toInt = 0 → PMm q.toInt iv Fv) → (0 ≤ q.toInt ∧ q.toInt ≤ (iv 78 19).toInt) → ((iv 78 19).toInt - q.toInt ≤ d) → (0 < hw.toInt → 1 ≤ q.toInt) → ((1 ≤ (iv 78 32).toInt ∧ (iv 78 32).toInt ≤ 1 + 2 * q.toInt) ∧ (iv 78 40).toInt ≤ 2 * q.toInt ∧ (iv 78 47).toInt ≤ 3 * q.toInt + 1) → (q.toInt = 0 → 0 < (iv 78 19).toInt → Fv 93 0 = 1) → (0 < q.toInt ∨ ((iv 78 30).toInt = 0 → (iv 78 51).toInt = 1)) → Hd D tA b 78 52 zz iv Fv Gv H → va_S (xA b 78 52) s.heap H locs → lv_has ls 6 [(4, .int q), (3, .int hw), (0, .ref (b + 78)), (2, .int y)] → W p l e (xR 5 120) s m ([.ref (b + 78), .ref (b + 85), .int y] : List Value).toArray below meth c H locs 0 0 (MQ below (va_Qi (fun r u => RO [17, 18, 19, 30, 31, 32, 40, 47, 51, 52] [88, 89, 90, 91, 92, 93, 94, 95, 96, 97, 98, 99, 100, 101, 102, 103, 104, 105, 106, 107, 108, 109, 110, 111, 112, 113] i F G u ∧ TKm u.1 u.2.1 ∧ TMm u.1 u.2.1 ∧ CB u.2.1 ∧ (r = 0 ∨ r = 1) ∧ (r = 0 → (0 ≤ (u.1 78 31).toInt ∧ (u.1 78 31).toInt ≤ 600)) ∧ u.1 78 17 = nI 85 ∧ (1 ≤ (u.1 78 32).toInt ∨ (r = 0 ∧ (u.1 78 32).toInt = 0 ∧ (u.1 78 40).toInt = 0 ∧ ∀ k : Nat, 95 ≤ k → (k < 96 ∨ 98 ≤ k) → u.2.1 k = F k))) (xB D tA b 78 52 zz) (xA b 78 52)) ([.ref (b + 78), .ref (b + 85), .int y] : List Value).toArray s 0 0 (xA b 78 52)) (F0 m 80 ls []) := by
    intro d
    induction d with
    | zero =>
      intro q hw iv Fv Gv H locs ls h1 h2 h3 h4 h5 h6 h7 h8 h9 h10 h11 h12 h13 h14 hH hS hl
      have rg_q := fb_rng q
      have rg_hw := fb_rng hw
      have hT := h2
      have hTK := h3
      have hPI := h4
      have hBR : BR iv := BR.ro hBR h1 (by decide)
      have hBr := hBR
      unfold BR at hBr
      have hTL := TMm.lin hT
      have hTKl := hTK.1
      have hCB := h5
      have hi_78_17 := h7
      refine lv_iload (pc := 80) C0.1 C0.2.1 dX10_readAll_80 (lv_at hl 0 rfl) ?_
      refine lv_aload_n (pc := 82) C0.1 C0.2.1 dX10_readAll_82 rfl (lv_at hl 2 rfl) ?_
      refine xget (pc := 83) C0 hH 78 19 clX10 ⟨Nat.le_of_ble_eq_true rfl, Nat.le_of_ble_eq_true rfl⟩ ⟨rfl, rfl⟩ (Nat.le_of_ble_eq_true rfl) fl_X10_258 (v := .int (iv 78 19)) rfl dX10_readAll_83 ?_
      refine lv_icmp_ge (pc := 86) (tgt := 216) C0.1 C0.2.1 dX10_readAll_86 (by decide) (fun _ => ?_) (fun c => absurd (Int32.le_iff_toInt_le.mpr (by omega)) c)
      refine lv_aload_n (pc := 216) C0.1 C0.2.1 dX10_readAll_216 rfl (lv_at hl 2 rfl) ?_
      refine xget (pc := 217) C0 hH 78 30 clX10 ⟨Nat.le_of_ble_eq_true rfl, Nat.le_of_ble_eq_true rfl⟩ ⟨rfl, rfl⟩ (Nat.le_of_ble_eq_true rfl) fl_X10_245 (v := .int (iv 78 30)) rfl dX10_readAll_217 ?_
      refine lv_if_ne (pc := 220) (tgt := 238) C0.1 C0.2.1 dX10_readAll_220 (by decide) (fun c201 => ?_) (fun c201 => ?_)
      · have : Int32.toInt 0 = 0 := rfl
        have c201 : ¬ _ := fun q => c201 (Int32.toInt_inj.mp q)
        refine lv_aload_n (pc := 238) C0.1 C0.2.1 dX10_readAll_238 rfl (lv_at hl 2 rfl) ?_
        refine xget (pc := 239) C0 hH 78 30 clX10 ⟨Nat.le_of_ble_eq_true rfl, Nat.le_of_ble_eq_true rfl⟩ ⟨rfl, rfl⟩ (Nat.le_of_ble_eq_true rfl) fl_X10_245 (v := .int (iv 78 30)) rfl dX10_readAll_239 ?_
        refine lv_if_ne (pc := 242) (tgt := 273) C0.1 C0.2.1 dX10_readAll_242 (by decide) (fun c202 => ?_) (fun c202 => ?_)
        · have : Int32.toInt 0 = 0 := rfl
          have c202 : ¬ _ := fun q => c202 (Int32.toInt_inj.mp q)
          refine lv_iconst (pc := 273) (v := 0) C0.1 C0.2.1 dX10_readAll_273 (by decide) ?_
          refine lv_istore (pc := 274) (lv' := [(4, .int 0), (3, .int hw), (0, .ref (b + 78)), (2, .int y)]) C0.1 C0.2.1 dX10_readAll_274 hl (by decide) rfl (fun ls hl => ?_)
          exact L276 1202 0 iv Fv Gv _ _ _ h1 hT hTK hPI hCB (show Int32.toInt (iv 78 18) = _ from by omega) hi_78_17 (fun w => PMm.zk (h8 w)) (by decide) (by decide) (show 1 ≤ Int32.toInt (iv 78 32) from by omega) hH hS (lv_sub hl [0, 2, 3] rfl)
        · have : Int32.toInt 0 = 0 := rfl
          have c202 := congrArg Int32.toInt c202
          refine lv_iload_n (pc := 245) C0.1 C0.2.1 dX10_readAll_245 rfl (lv_at hl 1 rfl) ?_
          refine lv_if_le (pc := 246) (tgt := 273) C0.1 C0.2.1 dX10_readAll_246 (by decide) (fun c203 => ?_) (fun c203 => ?_)
          · have : Int32.toInt 0 = 0 := rfl
            have c203 := Int32.le_iff_toInt_le.mp c203
            refine lv_iconst (pc := 273) (v := 0) C0.1 C0.2.1 dX10_readAll_273 (by decide) ?_
            refine lv_istore (pc := 274) (lv' := [(4, .int 0), (3, .int hw), (0, .ref (b + 78)), (2, .int y)]) C0.1 C0.2.1 dX10_readAll_274 hl (by decide) rfl (fun ls hl => ?_)
            exact L276 1202 0 iv Fv Gv _ _ _ h1 hT hTK hPI hCB (show Int32.toInt (iv 78 18) = _ from by omega) hi_78_17 (fun w => PMm.zk (h8 w)) (by decide) (by decide) (show 1 ≤ Int32.toInt (iv 78 32) from by omega) hH hS (lv_sub hl [0, 2, 3] rfl)
          · have : Int32.toInt 0 = 0 := rfl
            have c203 : ¬ _ := fun q => c203 (Int32.le_iff_toInt_le.mpr q)
            have hP := h8 (by have : Int32.toInt 0 = 0 := rfl; omega)
            have hPl := hP.1
            have hq1 := h11 (by have : Int32.toInt 0 = 0 := rfl; omega)
            refine lv_aload_n (pc := 249) C0.1 C0.2.1 dX10_readAll_249 rfl (lv_at hl 2 rfl) ?_
            refine lv_iload_n (pc := 250) C0.1 C0.2.1 dX10_readAll_250 rfl (lv_at hl 1 rfl) ?_
            refine lv_bipush (pc := 251) (v := (-9)) C0.1 C0.2.1 dX10_readAll_251 (by decide) ?_
            refine lv_aload_n (pc := 253) C0.1 C0.2.1 dX10_readAll_253 rfl (lv_at hl 2 rfl) ?_
            refine xget (pc := 254) C0 hH 78 39 clX10 ⟨Nat.le_of_ble_eq_true rfl, Nat.le_of_ble_eq_true rfl⟩ ⟨rfl, rfl⟩ (Nat.le_of_ble_eq_true rfl) fl_X10_91 (v := .ref (b + 104)) rfl dX10_readAll_254 ?_
            refine lv_aload_n (pc := 257) C0.1 C0.2.1 dX10_readAll_257 rfl (lv_at hl 2 rfl) ?_
            refine xcVI (pc := 258) 78 [] (m_topmost l D tA b iv Fv Gv q.toInt hT hP) C0 hH hS clX10 rfl ⟨⟨Nat.le_of_ble_eq_true rfl, Nat.le_of_ble_eq_true rfl⟩, rfl, rfl⟩ cw_X10_296 rfl ⟨Nat.le_of_ble_eq_true rfl, Nat.le_of_ble_eq_true rfl⟩ hl.1 rfl (Nat.le_of_ble_eq_true rfl) dX10_readAll_258 ⟨Nat.le_of_ble_eq_true rfl, Nat.le_of_ble_eq_true rfl⟩ (fun r204 ir204 Fr204 Gr204 _ locs hp hH hS => ?_)
            obtain ⟨hu, htpr204, htqr204, htzr204⟩ := hp
            cases hu
            have hBtr204 := TMm.bt hT (x := r204) (show 0 ≤ Int32.toInt r204 ∧ Int32.toInt r204 < Int32.toInt (iv 78 32) from htpr204)
            refine xiald (pc := 261) (N := 1202) C0 hH 104 ⟨Nat.le_of_ble_eq_true rfl, Nat.le_of_ble_eq_true rfl⟩ ⟨rfl, rfl⟩ (vI (by omega) (by omega)) dX10_readAll_261 ?_
            have hv9 := htqr204 (Or.inr (by omega))
            refine lv_aload_n (pc := 262) C0.1 C0.2.1 dX10_readAll_262 rfl (lv_at hl 2 rfl) ?_
            refine xget (pc := 263) C0 hH 78 19 clX10 ⟨Nat.le_of_ble_eq_true rfl, Nat.le_of_ble_eq_true rfl⟩ ⟨rfl, rfl⟩ (Nat.le_of_ble_eq_true rfl) fl_X10_258 (v := .int (iv 78 19)) rfl dX10_readAll_263 ?_
            refine lv_iconst (pc := 266) (v := 1) C0.1 C0.2.1 dX10_readAll_266 (by decide) ?_
            have : Int32.toInt 1 = 1 := rfl
            refine lv_isub (pc := 267) C0.1 C0.2.1 dX10_readAll_267 ?_
            refine lv_topi (fun x205 ex205 => ?_)
            have hx205 : Int32.toInt x205 = Int32.toInt (iv 78 19) - Int32.toInt 1 := by rw [ex205]; exact fb_subI (by omega) (by omega)
            refine xcVI (pc := 268) 78 [.int hw, .int (-9), .int (Fv 104 (Int32.toNatClampNeg r204)), .int x205] (m_newBlock l D tA b iv Fv Gv hw (-9) (Fv 104 (Int32.toNatClampNeg r204)) x205 hT (show Int32.toInt (iv 78 32) < 1202 from by omega) (show Int32.toInt (iv 78 47) < 1802 from by omega) (show (Int32.toInt (iv 78 32) = 0 ∧ Int32.toInt (Fv 104 (Int32.toNatClampNeg r204)) = -9) ∨ (1 ≤ Int32.toInt (iv 78 32) ∧ (0 ≤ Int32.toInt (Fv 104 (Int32.toNatClampNeg r204)) ∧ Int32.toInt (Fv 104 (Int32.toNatClampNeg r204)) < Int32.toInt (iv 78 40)) ∧ 0 ≤ Int32.toInt x205 ∧ Int32.toInt x205 < 600) from by omega)) C0 hH hS clX10 rfl ⟨⟨Nat.le_of_ble_eq_true rfl, Nat.le_of_ble_eq_true rfl⟩, rfl, rfl⟩ cw_X10_299 rfl ⟨Nat.le_of_ble_eq_true rfl, Nat.le_of_ble_eq_true rfl⟩ hl.1 rfl (Nat.le_of_ble_eq_true rfl) dX10_readAll_268 ⟨Nat.le_of_ble_eq_true rfl, Nat.le_of_ble_eq_true rfl⟩ (fun r206 ir206 Fr206 Gr206 _ locs hp hH hS => ?_)
            obtain ⟨honr206, hT, h32r206, h47r206, hrbr206, e98r206, e99r206, e102r206⟩ := hp
            have hT : TMm ir206 Fr206 := hT
            have h32r206 : (ir206 78 32).toInt = Int32.toInt (iv 78 32) + 1 := h32r206
            have h47r206 : Int32.toInt (iv 78 47) ≤ (ir206 78 47).toInt ∧ (ir206 78 47).toInt ≤ Int32.toInt (iv 78 47) + 1 := h47r206
            have hrIr206 : Int32.toInt r206 = Int32.toInt (iv 78 32) := congrArg Int32.toInt hrbr206
            have hTL := TMm.lin hT
            have hTK : TKm ir206 Fr206 := TKm.ro (i := iv) (F := Fv) hTK honr206 (by decide)
            have hPI : PLI ir206 := PLI.ro (i := iv) (F := Fv) hPI honr206 (by decide)
            have hP : PMm q.toInt ir206 Fr206 := PMm.nb (i := iv) (F := Fv) hP (by omega) h32r206 e98r206 e99r206 e102r206 (honr206.2 113 (by decide)).1 (honr206.1 78 51 (Or.inr (by decide)))
            have hBR : BR ir206 := BR.ro (i := iv) (F := Fv) hBR honr206 (by decide)
            have hCB : CB Fr206 := CB.ro (F := Fv) hCB honr206 (by decide)
            have hi_78_17 : ir206 78 17 = nI 85 := (honr206.1 78 17 (Or.inr (by decide))).trans hi_78_17
            have ek_40r206 : Int32.toInt (ir206 78 40) = Int32.toInt (iv 78 40) := congrArg Int32.toInt (honr206.1 78 40 (Or.inr (by decide)))
            have ek_51r206 : Int32.toInt (ir206 78 51) = Int32.toInt (iv 78 51) := congrArg Int32.toInt (honr206.1 78 51 (Or.inr (by decide)))
            have ek_19r206 : Int32.toInt (ir206 78 19) = Int32.toInt (iv 78 19) := congrArg Int32.toInt (honr206.1 78 19 (Or.inr (by decide)))
            have ek_18r206 : Int32.toInt (ir206 78 18) = Int32.toInt (iv 78 18) := congrArg Int32.toInt (honr206.1 78 18 (Or.inr (by decide)))
            have ek_30r206 : Int32.toInt (ir206 78 30) = Int32.toInt (iv 78 30) := congrArg Int32.toInt (honr206.1 78 30 (Or.inr (by decide)))
            have hTKl := hTK.1
            refine lv_istore (pc := 271) (lv' := [(4, .int r206), (3, .int hw), (0, .ref (b + 78)), (2, .int y)]) C0.1 C0.2.1 dX10_readAll_271 hl (by decide) rfl (fun ls hl => ?_)
            refine lv_iconst (pc := 273) (v := 0) C0.1 C0.2.1 dX10_readAll_273 (by decide) ?_
            refine lv_istore (pc := 274) (lv' := [(4, .int 0), (3, .int hw), (0, .ref (b + 78)), (2, .int y)]) C0.1 C0.2.1 dX10_readAll_274 hl (by decide) rfl (fun ls hl => ?_)
            exact L276 1202 0 ir206 Fr206 Gr206 _ _ _ (RO.tr h1 honr206 (by decide) (by decide)) hT hTK hPI hCB (show Int32.toInt (ir206 78 18) = _ from by omega) hi_78_17 (fun _ => PMm.zk hP) (by decide) (by decide) (show 1 ≤ Int32.toInt (ir206 78 32) from by omega) hH hS (lv_sub hl [0, 2, 3] rfl)
      · have : Int32.toInt 0 = 0 := rfl
        have c201 := congrArg Int32.toInt c201
        refine lv_iload_n (pc := 223) C0.1 C0.2.1 dX10_readAll_223 rfl (lv_at hl 1 rfl) ?_
        refine lv_iconst (pc := 224) (v := 1) C0.1 C0.2.1 dX10_readAll_224 (by decide) ?_
        refine lv_icmp_ne (pc := 225) (tgt := 238) C0.1 C0.2.1 dX10_readAll_225 (by decide) (fun c207 => ?_) (fun c207 => ?_)
        · have : Int32.toInt 1 = 1 := rfl
          have c207 : ¬ _ := fun q => c207 (Int32.toInt_inj.mp q)
          refine lv_aload_n (pc := 238) C0.1 C0.2.1 dX10_readAll_238 rfl (lv_at hl 2 rfl) ?_
          refine xget (pc := 239) C0 hH 78 30 clX10 ⟨Nat.le_of_ble_eq_true rfl, Nat.le_of_ble_eq_true rfl⟩ ⟨rfl, rfl⟩ (Nat.le_of_ble_eq_true rfl) fl_X10_245 (v := .int (iv 78 30)) rfl dX10_readAll_239 ?_
          refine lv_if_ne (pc := 242) (tgt := 273) C0.1 C0.2.1 dX10_readAll_242 (by decide) (fun c208 => ?_) (fun c208 => ?_)
          · have : Int32.toInt 0 = 0 := rfl
            have c208 : ¬ _ := fun q => c208 (Int32.toInt_inj.mp q)
            refine lv_iconst (pc := 273) (v := 0) C0.1 C0.2.1 dX10_readAll_273 (by decide) ?_
            refine lv_istore (pc := 274) (lv' := [(4, .int 0), (3, .int hw), (0, .ref (b + 78)), (2, .int y)]) C0.1 C0.2.1 dX10_readAll_274 hl (by decide) rfl (fun ls hl => ?_)
            exact L276 1202 0 iv Fv Gv _ _ _ h1 hT hTK hPI hCB (show Int32.toInt (iv 78 18) = _ from by omega) hi_78_17 (fun w => PMm.zk (h8 w)) (by decide) (by decide) (show 1 ≤ Int32.toInt (iv 78 32) from by omega) hH hS (lv_sub hl [0, 2, 3] rfl)
          · have : Int32.toInt 0 = 0 := rfl
            have c208 := congrArg Int32.toInt c208
            refine lv_iload_n (pc := 245) C0.1 C0.2.1 dX10_readAll_245 rfl (lv_at hl 1 rfl) ?_
            refine lv_if_le (pc := 246) (tgt := 273) C0.1 C0.2.1 dX10_readAll_246 (by decide) (fun c209 => ?_) (fun c209 => ?_)
            · have : Int32.toInt 0 = 0 := rfl
              have c209 := Int32.le_iff_toInt_le.mp c209
              refine lv_iconst (pc := 273) (v := 0) C0.1 C0.2.1 dX10_readAll_273 (by decide) ?_
              refine lv_istore (pc := 274) (lv' := [(4, .int 0), (3, .int hw), (0, .ref (b + 78)), (2, .int y)]) C0.1 C0.2.1 dX10_readAll_274 hl (by decide) rfl (fun ls hl => ?_)
              exact L276 1202 0 iv Fv Gv _ _ _ h1 hT hTK hPI hCB (show Int32.toInt (iv 78 18) = _ from by omega) hi_78_17 (fun w => PMm.zk (h8 w)) (by decide) (by decide) (show 1 ≤ Int32.toInt (iv 78 32) from by omega) hH hS (lv_sub hl [0, 2, 3] rfl)
            · have : Int32.toInt 0 = 0 := rfl
              have c209 : ¬ _ := fun q => c209 (Int32.le_iff_toInt_le.mpr q)
              have hP := h8 (by have : Int32.toInt 0 = 0 := rfl; omega)
              have hPl := hP.1
              have hq1 := h11 (by have : Int32.toInt 0 = 0 := rfl; omega)
              refine lv_aload_n (pc := 249) C0.1 C0.2.1 dX10_readAll_249 rfl (lv_at hl 2 rfl) ?_
              refine lv_iload_n (pc := 250) C0.1 C0.2.1 dX10_readAll_250 rfl (lv_at hl 1 rfl) ?_
              refine lv_bipush (pc := 251) (v := (-9)) C0.1 C0.2.1 dX10_readAll_251 (by decide) ?_
              refine lv_aload_n (pc := 253) C0.1 C0.2.1 dX10_readAll_253 rfl (lv_at hl 2 rfl) ?_
              refine xget (pc := 254) C0 hH 78 39 clX10 ⟨Nat.le_of_ble_eq_true rfl, Nat.le_of_ble_eq_true rfl⟩ ⟨rfl, rfl⟩ (Nat.le_of_ble_eq_true rfl) fl_X10_91 (v := .ref (b + 104)) rfl dX10_readAll_254 ?_
              refine lv_aload_n (pc := 257) C0.1 C0.2.1 dX10_readAll_257 rfl (lv_at hl 2 rfl) ?_
              refine xcVI (pc := 258) 78 [] (m_topmost l D tA b iv Fv Gv q.toInt hT hP) C0 hH hS clX10 rfl ⟨⟨Nat.le_of_ble_eq_true rfl, Nat.le_of_ble_eq_true rfl⟩, rfl, rfl⟩ cw_X10_296 rfl ⟨Nat.le_of_ble_eq_true rfl, Nat.le_of_ble_eq_true rfl⟩ hl.1 rfl (Nat.le_of_ble_eq_true rfl) dX10_readAll_258 ⟨Nat.le_of_ble_eq_true rfl, Nat.le_of_ble_eq_true rfl⟩ (fun r210 ir210 Fr210 Gr210 _ locs hp hH hS => ?_)
              obtain ⟨hu, htpr210, htqr210, htzr210⟩ := hp
              cases hu
              have hBtr210 := TMm.bt hT (x := r210) (show 0 ≤ Int32.toInt r210 ∧ Int32.toInt r210 < Int32.toInt (iv 78 32) from htpr210)
              refine xiald (pc := 261) (N := 1202) C0 hH 104 ⟨Nat.le_of_ble_eq_true rfl, Nat.le_of_ble_eq_true rfl⟩ ⟨rfl, rfl⟩ (vI (by omega) (by omega)) dX10_readAll_261 ?_
              have hv9 := htqr210 (Or.inr (by omega))
              refine lv_aload_n (pc := 262) C0.1 C0.2.1 dX10_readAll_262 rfl (lv_at hl 2 rfl) ?_
              refine xget (pc := 263) C0 hH 78 19 clX10 ⟨Nat.le_of_ble_eq_true rfl, Nat.le_of_ble_eq_true rfl⟩ ⟨rfl, rfl⟩ (Nat.le_of_ble_eq_true rfl) fl_X10_258 (v := .int (iv 78 19)) rfl dX10_readAll_263 ?_
              refine lv_iconst (pc := 266) (v := 1) C0.1 C0.2.1 dX10_readAll_266 (by decide) ?_
              have : Int32.toInt 1 = 1 := rfl
              refine lv_isub (pc := 267) C0.1 C0.2.1 dX10_readAll_267 ?_
              refine lv_topi (fun x211 ex211 => ?_)
              have hx211 : Int32.toInt x211 = Int32.toInt (iv 78 19) - Int32.toInt 1 := by rw [ex211]; exact fb_subI (by omega) (by omega)
              refine xcVI (pc := 268) 78 [.int hw, .int (-9), .int (Fv 104 (Int32.toNatClampNeg r210)), .int x211] (m_newBlock l D tA b iv Fv Gv hw (-9) (Fv 104 (Int32.toNatClampNeg r210)) x211 hT (show Int32.toInt (iv 78 32) < 1202 from by omega) (show Int32.toInt (iv 78 47) < 1802 from by omega) (show (Int32.toInt (iv 78 32) = 0 ∧ Int32.toInt (Fv 104 (Int32.toNatClampNeg r210)) = -9) ∨ (1 ≤ Int32.toInt (iv 78 32) ∧ (0 ≤ Int32.toInt (Fv 104 (Int32.toNatClampNeg r210)) ∧ Int32.toInt (Fv 104 (Int32.toNatClampNeg r210)) < Int32.toInt (iv 78 40)) ∧ 0 ≤ Int32.toInt x211 ∧ Int32.toInt x211 < 600) from by omega)) C0 hH hS clX10 rfl ⟨⟨Nat.le_of_ble_eq_true rfl, Nat.le_of_ble_eq_true rfl⟩, rfl, rfl⟩ cw_X10_299 rfl ⟨Nat.le_of_ble_eq_true rfl, Nat.le_of_ble_eq_true rfl⟩ hl.1 rfl (Nat.le_of_ble_eq_true rfl) dX10_readAll_268 ⟨Nat.le_of_ble_eq_true rfl, Nat.le_of_ble_eq_true rfl⟩ (fun r212 ir212 Fr212 Gr212 _ locs hp hH hS => ?_)
              obtain ⟨honr212, hT, h32r212, h47r212, hrbr212, e98r212, e99r212, e102r212⟩ := hp
              have hT : TMm ir212 Fr212 := hT
              have h32r212 : (ir212 78 32).toInt = Int32.toInt (iv 78 32) + 1 := h32r212
              have h47r212 : Int32.toInt (iv 78 47) ≤ (ir212 78 47).toInt ∧ (ir212 78 47).toInt ≤ Int32.toInt (iv 78 47) + 1 := h47r212
              have hrIr212 : Int32.toInt r212 = Int32.toInt (iv 78 32) := congrArg Int32.toInt hrbr212
              have hTL := TMm.lin hT
              have hTK : TKm ir212 Fr212 := TKm.ro (i := iv) (F := Fv) hTK honr212 (by decide)
              have hPI : PLI ir212 := PLI.ro (i := iv) (F := Fv) hPI honr212 (by decide)
              have hP : PMm q.toInt ir212 Fr212 := PMm.nb (i := iv) (F := Fv) hP (by omega) h32r212 e98r212 e99r212 e102r212 (honr212.2 113 (by decide)).1 (honr212.1 78 51 (Or.inr (by decide)))
              have hBR : BR ir212 := BR.ro (i := iv) (F := Fv) hBR honr212 (by decide)
              have hCB : CB Fr212 := CB.ro (F := Fv) hCB honr212 (by decide)
              have hi_78_17 : ir212 78 17 = nI 85 := (honr212.1 78 17 (Or.inr (by decide))).trans hi_78_17
              have ek_40r212 : Int32.toInt (ir212 78 40) = Int32.toInt (iv 78 40) := congrArg Int32.toInt (honr212.1 78 40 (Or.inr (by decide)))
              have ek_51r212 : Int32.toInt (ir212 78 51) = Int32.toInt (iv 78 51) := congrArg Int32.toInt (honr212.1 78 51 (Or.inr (by decide)))
              have ek_19r212 : Int32.toInt (ir212 78 19) = Int32.toInt (iv 78 19) := congrArg Int32.toInt (honr212.1 78 19 (Or.inr (by decide)))
              have ek_18r212 : Int32.toInt (ir212 78 18) = Int32.toInt (iv 78 18) := congrArg Int32.toInt (honr212.1 78 18 (Or.inr (by decide)))
              have ek_30r212 : Int32.toInt (ir212 78 30) = Int32.toInt (iv 78 30) := congrArg Int32.toInt (honr212.1 78 30 (Or.inr (by decide)))
              have hTKl := hTK.1
              refine lv_istore (pc := 271) (lv' := [(4, .int r212), (3, .int hw), (0, .ref (b + 78)), (2, .int y)]) C0.1 C0.2.1 dX10_readAll_271 hl (by decide) rfl (fun ls hl => ?_)
              refine lv_iconst (pc := 273) (v := 0) C0.1 C0.2.1 dX10_readAll_273 (by decide) ?_
              refine lv_istore (pc := 274) (lv' := [(4, .int 0), (3, .int hw), (0, .ref (b + 78)), (2, .int y)]) C0.1 C0.2.1 dX10_readAll_274 hl (by decide) rfl (fun ls hl => ?_)
              exact L276 1202 0 ir212 Fr212 Gr212 _ _ _ (RO.tr h1 honr212 (by decide) (by decide)) hT hTK hPI hCB (show Int32.toInt (ir212 78 18) = _ from by omega) hi_78_17 (fun _ => PMm.zk hP) (by decide) (by decide) (show 1 ≤ Int32.toInt (ir212 78 32) from by omega) hH hS (lv_sub hl [0, 2, 3] rfl)
        · have : Int32.toInt 1 = 1 := rfl
          have c207 := congrArg Int32.toInt c207
          refine lv_aload_n (pc := 228) C0.1 C0.2.1 dX10_readAll_228 rfl (lv_at hl 2 rfl) ?_
          refine lv_iconst (pc := 229) (v := 3) C0.1 C0.2.1 dX10_readAll_229 (by decide) ?_
          refine lv_aload_n (pc := 230) C0.1 C0.2.1 dX10_readAll_230 rfl (lv_at hl 2 rfl) ?_
          refine xget (pc := 231) C0 hH 78 18 clX10 ⟨Nat.le_of_ble_eq_true rfl, Nat.le_of_ble_eq_true rfl⟩ ⟨rfl, rfl⟩ (Nat.le_of_ble_eq_true rfl) fl_X10_251 (v := .int (iv 78 18)) rfl dX10_readAll_231 ?_
          refine xcVI (pc := 234) 78 [.int 3, .int (iv 78 18)] (m_fail l D tA b iv Fv Gv 3 (iv 78 18)) C0 hH hS clX10 rfl ⟨⟨Nat.le_of_ble_eq_true rfl, Nat.le_of_ble_eq_true rfl⟩, rfl, rfl⟩ cw_X10_254 rfl ⟨Nat.le_of_ble_eq_true rfl, Nat.le_of_ble_eq_true rfl⟩ hl.1 rfl (Nat.le_of_ble_eq_true rfl) dX10_readAll_234 ⟨Nat.le_of_ble_eq_true rfl, Nat.le_of_ble_eq_true rfl⟩ (fun r213 ir213 Fr213 Gr213 _ locs hp hH hS => ?_)
          obtain ⟨hu, rfl⟩ := hp
          cases hu
          have hH : Hd D tA b 78 52 zz (up2 (up2 iv 78 30 3) 78 31 (iv 78 18)) Fv Gv _ := hH
          exact xzret (pc := 237) C0 hr hH hS dX10_readAll_237 (by decide) ⟨(RO.i (RO.i h1 (by decide)) (by decide)), hTK, hT, hCB, (by decide), (fun _ => (show 0 ≤ Int32.toInt (iv 78 18) ∧ Int32.toInt (iv 78 18) ≤ 600 from by first | omega | (have := hTK.2.1 0; omega))), hi_78_17, Or.inl (show 1 ≤ Int32.toInt (iv 78 32) from by omega)⟩
    | succ d ih80 =>
      intro q hw iv Fv Gv H locs ls h1 h2 h3 h4 h5 h6 h7 h8 h9 h10 h11 h12 h13 h14 hH hS hl
      have rg_q := fb_rng q
      have rg_hw := fb_rng hw
      have hT := h2
      have hTK := h3
      have hPI := h4
      have hBR : BR iv := BR.ro hBR h1 (by decide)
      have hBr := hBR
      unfold BR at hBr
      have hTL := TMm.lin hT
      have hTKl := hTK.1
      have hCB := h5
      have hi_78_17 := h7
      refine lv_iload (pc := 80) C0.1 C0.2.1 dX10_readAll_80 (lv_at hl 0 rfl) ?_
      refine lv_aload_n (pc := 82) C0.1 C0.2.1 dX10_readAll_82 rfl (lv_at hl 2 rfl) ?_
      refine xget (pc := 83) C0 hH 78 19 clX10 ⟨Nat.le_of_ble_eq_true rfl, Nat.le_of_ble_eq_true rfl⟩ ⟨rfl, rfl⟩ (Nat.le_of_ble_eq_true rfl) fl_X10_258 (v := .int (iv 78 19)) rfl dX10_readAll_83 ?_
      refine lv_icmp_ge (pc := 86) (tgt := 216) C0.1 C0.2.1 dX10_readAll_86 (by decide) (fun c201 => ?_) (fun c201 => ?_)
      · have c201 := Int32.le_iff_toInt_le.mp c201
        refine lv_aload_n (pc := 216) C0.1 C0.2.1 dX10_readAll_216 rfl (lv_at hl 2 rfl) ?_
        refine xget (pc := 217) C0 hH 78 30 clX10 ⟨Nat.le_of_ble_eq_true rfl, Nat.le_of_ble_eq_true rfl⟩ ⟨rfl, rfl⟩ (Nat.le_of_ble_eq_true rfl) fl_X10_245 (v := .int (iv 78 30)) rfl dX10_readAll_217 ?_
        refine lv_if_ne (pc := 220) (tgt := 238) C0.1 C0.2.1 dX10_readAll_220 (by decide) (fun c202 => ?_) (fun c202 => ?_)
        · have : Int32.toInt 0 = 0 := rfl
          have c202 : ¬ _ := fun q => c202 (Int32.toInt_inj.mp q)
          refine lv_aload_n (pc := 238) C0.1 C0.2.1 dX10_readAll_238 rfl (lv_at hl 2 rfl) ?_
          refine xget (pc := 239) C0 hH 78 30 clX10 ⟨Nat.le_of_ble_eq_true rfl, Nat.le_of_ble_eq_true rfl⟩ ⟨rfl, rfl⟩ (Nat.le_of_ble_eq_true rfl) fl_X10_245 (v := .int (iv 78 30)) rfl dX10_readAll_239 ?_
          refine lv_if_ne (pc := 242) (tgt := 273) C0.1 C0.2.1 dX10_readAll_242 (by decide) (fun c203 => ?_) (fun c203 => ?_)
          · have : Int32.toInt 0 = 0 := rfl
            have c203 : ¬ _ := fun q => c203 (Int32.toInt_inj.mp q)
            refine lv_iconst (pc := 273) (v := 0) C0.1 C0.2.1 dX10_readAll_273 (by decide) ?_
            refine lv_istore (pc := 274) (lv' := [(4, .int 0), (3, .int hw), (0, .ref (b + 78)), (2, .int y)]) C0.1 C0.2.1 dX10_readAll_274 hl (by decide) rfl (fun ls hl => ?_)
            exact L276 1202 0 iv Fv Gv _ _ _ h1 hT hTK hPI hCB (show Int32.toInt (iv 78 18) = _ from by omega) hi_78_17 (fun w => PMm.zk (h8 w)) (by decide) (by decide) (show 1 ≤ Int32.toInt (iv 78 32) from by omega) hH hS (lv_sub hl [0, 2, 3] rfl)
          · have : Int32.toInt 0 = 0 := rfl
            have c203 := congrArg Int32.toInt c203
            refine lv_iload_n (pc := 245) C0.1 C0.2.1 dX10_readAll_245 rfl (lv_at hl 1 rfl) ?_
            refine lv_if_le (pc := 246) (tgt := 273) C0.1 C0.2.1 dX10_readAll_246 (by decide) (fun c204 => ?_) (fun c204 => ?_)
            · have : Int32.toInt 0 = 0 := rfl
              have c204 := Int32.le_iff_toInt_le.mp c204
              refine lv_iconst (pc := 273) (v := 0) C0.1 C0.2.1 dX10_readAll_273 (by decide) ?_
              refine lv_istore (pc := 274) (lv' := [(4, .int 0), (3, .int hw), (0, .ref (b + 78)), (2, .int y)]) C0.1 C0.2.1 dX10_readAll_274 hl (by decide) rfl (fun ls hl => ?_)
              exact L276 1202 0 iv Fv Gv _ _ _ h1 hT hTK hPI hCB (show Int32.toInt (iv 78 18) = _ from by omega) hi_78_17 (fun w => PMm.zk (h8 w)) (by decide) (by decide) (show 1 ≤ Int32.toInt (iv 78 32) from by omega) hH hS (lv_sub hl [0, 2, 3] rfl)
            · have : Int32.toInt 0 = 0 := rfl
              have c204 : ¬ _ := fun q => c204 (Int32.le_iff_toInt_le.mpr q)
              have hP := h8 (by have : Int32.toInt 0 = 0 := rfl; omega)
              have hPl := hP.1
              have hq1 := h11 (by have : Int32.toInt 0 = 0 := rfl; omega)
              refine lv_aload_n (pc := 249) C0.1 C0.2.1 dX10_readAll_249 rfl (lv_at hl 2 rfl) ?_
              refine lv_iload_n (pc := 250) C0.1 C0.2.1 dX10_readAll_250 rfl (lv_at hl 1 rfl) ?_
              refine lv_bipush (pc := 251) (v := (-9)) C0.1 C0.2.1 dX10_readAll_251 (by decide) ?_
              refine lv_aload_n (pc := 253) C0.1 C0.2.1 dX10_readAll_253 rfl (lv_at hl 2 rfl) ?_
              refine xget (pc := 254) C0 hH 78 39 clX10 ⟨Nat.le_of_ble_eq_true rfl, Nat.le_of_ble_eq_true rfl⟩ ⟨rfl, rfl⟩ (Nat.le_of_ble_eq_true rfl) fl_X10_91 (v := .ref (b + 104)) rfl dX10_readAll_254 ?_
              refine lv_aload_n (pc := 257) C0.1 C0.2.1 dX10_readAll_257 rfl (lv_at hl 2 rfl) ?_
              refine xcVI (pc := 258) 78 [] (m_topmost l D tA b iv Fv Gv q.toInt hT hP) C0 hH hS clX10 rfl ⟨⟨Nat.le_of_ble_eq_true rfl, Nat.le_of_ble_eq_true rfl⟩, rfl, rfl⟩ cw_X10_296 rfl ⟨Nat.le_of_ble_eq_true rfl, Nat.le_of_ble_eq_true rfl⟩ hl.1 rfl (Nat.le_of_ble_eq_true rfl) dX10_readAll_258 ⟨Nat.le_of_ble_eq_true rfl, Nat.le_of_ble_eq_true rfl⟩ (fun r205 ir205 Fr205 Gr205 _ locs hp hH hS => ?_)
              obtain ⟨hu, htpr205, htqr205, htzr205⟩ := hp
              cases hu
              have hBtr205 := TMm.bt hT (x := r205) (show 0 ≤ Int32.toInt r205 ∧ Int32.toInt r205 < Int32.toInt (iv 78 32) from htpr205)
              refine xiald (pc := 261) (N := 1202) C0 hH 104 ⟨Nat.le_of_ble_eq_true rfl, Nat.le_of_ble_eq_true rfl⟩ ⟨rfl, rfl⟩ (vI (by omega) (by omega)) dX10_readAll_261 ?_
              have hv9 := htqr205 (Or.inr (by omega))
              refine lv_aload_n (pc := 262) C0.1 C0.2.1 dX10_readAll_262 rfl (lv_at hl 2 rfl) ?_
              refine xget (pc := 263) C0 hH 78 19 clX10 ⟨Nat.le_of_ble_eq_true rfl, Nat.le_of_ble_eq_true rfl⟩ ⟨rfl, rfl⟩ (Nat.le_of_ble_eq_true rfl) fl_X10_258 (v := .int (iv 78 19)) rfl dX10_readAll_263 ?_
              refine lv_iconst (pc := 266) (v := 1) C0.1 C0.2.1 dX10_readAll_266 (by decide) ?_
              have : Int32.toInt 1 = 1 := rfl
              refine lv_isub (pc := 267) C0.1 C0.2.1 dX10_readAll_267 ?_
              refine lv_topi (fun x206 ex206 => ?_)
              have hx206 : Int32.toInt x206 = Int32.toInt (iv 78 19) - Int32.toInt 1 := by rw [ex206]; exact fb_subI (by omega) (by omega)
              refine xcVI (pc := 268) 78 [.int hw, .int (-9), .int (Fv 104 (Int32.toNatClampNeg r205)), .int x206] (m_newBlock l D tA b iv Fv Gv hw (-9) (Fv 104 (Int32.toNatClampNeg r205)) x206 hT (show Int32.toInt (iv 78 32) < 1202 from by omega) (show Int32.toInt (iv 78 47) < 1802 from by omega) (show (Int32.toInt (iv 78 32) = 0 ∧ Int32.toInt (Fv 104 (Int32.toNatClampNeg r205)) = -9) ∨ (1 ≤ Int32.toInt (iv 78 32) ∧ (0 ≤ Int32.toInt (Fv 104 (Int32.toNatClampNeg r205)) ∧ Int32.toInt (Fv 104 (Int32.toNatClampNeg r205)) < Int32.toInt (iv 78 40)) ∧ 0 ≤ Int32.toInt x206 ∧ Int32.toInt x206 < 600) from by omega)) C0 hH hS clX10 rfl ⟨⟨Nat.le_of_ble_eq_true rfl, Nat.le_of_ble_eq_true rfl⟩, rfl, rfl⟩ cw_X10_299 rfl ⟨Nat.le_of_ble_eq_true rfl, Nat.le_of_ble_eq_true rfl⟩ hl.1 rfl (Nat.le_of_ble_eq_true rfl) dX10_readAll_268 ⟨Nat.le_of_ble_eq_true rfl, Nat.le_of_ble_eq_true rfl⟩ (fun r207 ir207 Fr207 Gr207 _ locs hp hH hS => ?_)
              obtain ⟨honr207, hT, h32r207, h47r207, hrbr207, e98r207, e99r207, e102r207⟩ := hp
              have hT : TMm ir207 Fr207 := hT
              have h32r207 : (ir207 78 32).toInt = Int32.toInt (iv 78 32) + 1 := h32r207
              have h47r207 : Int32.toInt (iv 78 47) ≤ (ir207 78 47).toInt ∧ (ir207 78 47).toInt ≤ Int32.toInt (iv 78 47) + 1 := h47r207
              have hrIr207 : Int32.toInt r207 = Int32.toInt (iv 78 32) := congrArg Int32.toInt hrbr207
              have hTL := TMm.lin hT
              have hTK : TKm ir207 Fr207 := TKm.ro (i := iv) (F := Fv) hTK honr207 (by decide)
              have hPI : PLI ir207 := PLI.ro (i := iv) (F := Fv) hPI honr207 (by decide)
              have hP : PMm q.toInt ir207 Fr207 := PMm.nb (i := iv) (F := Fv) hP (by omega) h32r207 e98r207 e99r207 e102r207 (honr207.2 113 (by decide)).1 (honr207.1 78 51 (Or.inr (by decide)))
              have hBR : BR ir207 := BR.ro (i := iv) (F := Fv) hBR honr207 (by decide)
              have hCB : CB Fr207 := CB.ro (F := Fv) hCB honr207 (by decide)
              have hi_78_17 : ir207 78 17 = nI 85 := (honr207.1 78 17 (Or.inr (by decide))).trans hi_78_17
              have ek_40r207 : Int32.toInt (ir207 78 40) = Int32.toInt (iv 78 40) := congrArg Int32.toInt (honr207.1 78 40 (Or.inr (by decide)))
              have ek_51r207 : Int32.toInt (ir207 78 51) = Int32.toInt (iv 78 51) := congrArg Int32.toInt (honr207.1 78 51 (Or.inr (by decide)))
              have ek_19r207 : Int32.toInt (ir207 78 19) = Int32.toInt (iv 78 19) := congrArg Int32.toInt (honr207.1 78 19 (Or.inr (by decide)))
              have ek_18r207 : Int32.toInt (ir207 78 18) = Int32.toInt (iv 78 18) := congrArg Int32.toInt (honr207.1 78 18 (Or.inr (by decide)))
              have ek_30r207 : Int32.toInt (ir207 78 30) = Int32.toInt (iv 78 30) := congrArg Int32.toInt (honr207.1 78 30 (Or.inr (by decide)))
              have hTKl := hTK.1
              refine lv_istore (pc := 271) (lv' := [(4, .int r207), (3, .int hw), (0, .ref (b + 78)), (2, .int y)]) C0.1 C0.2.1 dX10_readAll_271 hl (by decide) rfl (fun ls hl => ?_)
              refine lv_iconst (pc := 273) (v := 0) C0.1 C0.2.1 dX10_readAll_273 (by decide) ?_
              refine lv_istore (pc := 274) (lv' := [(4, .int 0), (3, .int hw), (0, .ref (b + 78)), (2, .int y)]) C0.1 C0.2.1 dX10_readAll_274 hl (by decide) rfl (fun ls hl => ?_)
              exact L276 1202 0 ir207 Fr207 Gr207 _ _ _ (RO.tr h1 honr207 (by decide) (by decide)) hT hTK hPI hCB (show Int32.toInt (ir207 78 18) = _ from by omega) hi_78_17 (fun _ => PMm.zk hP) (by decide) (by decide) (show 1 ≤ Int32.toInt (ir207 78 32) from by omega) hH hS (lv_sub hl [0, 2, 3] rfl)
        · have : Int32.toInt 0 = 0 := rfl
          have c202 := congrArg Int32.toInt c202
          refine lv_iload_n (pc := 223) C0.1 C0.2.1 dX10_readAll_223 rfl (lv_at hl 1 rfl) ?_
          refine lv_iconst (pc := 224) (v := 1) C0.1 C0.2.1 dX10_readAll_224 (by decide) ?_
          refine lv_icmp_ne (pc := 225) (tgt := 238) C0.1 C0.2.1 dX10_readAll_225 (by decide) (fun c208 => ?_) (fun c208 => ?_)
          · have : Int32.toInt 1 = 1 := rfl
            have c208 : ¬ _ := fun q => c208 (Int32.toInt_inj.mp q)
            refine lv_aload_n (pc := 238) C0.1 C0.2.1 dX10_readAll_238 rfl (lv_at hl 2 rfl) ?_
            refine xget (pc := 239) C0 hH 78 30 clX10 ⟨Nat.le_of_ble_eq_true rfl, Nat.le_of_ble_eq_true rfl⟩ ⟨rfl, rfl⟩ (Nat.le_of_ble_eq_true rfl) fl_X10_245 (v := .int (iv 78 30)) rfl dX10_readAll_239 ?_
            refine lv_if_ne (pc := 242) (tgt := 273) C0.1 C0.2.1 dX10_readAll_242 (by decide) (fun c209 => ?_) (fun c209 => ?_)
            · have : Int32.toInt 0 = 0 := rfl
              have c209 : ¬ _ := fun q => c209 (Int32.toInt_inj.mp q)
              refine lv_iconst (pc := 273) (v := 0) C0.1 C0.2.1 dX10_readAll_273 (by decide) ?_
              refine lv_istore (pc := 274) (lv' := [(4, .int 0), (3, .int hw), (0, .ref (b + 78)), (2, .int y)]) C0.1 C0.2.1 dX10_readAll_274 hl (by decide) rfl (fun ls hl => ?_)
              exact L276 1202 0 iv Fv Gv _ _ _ h1 hT hTK hPI hCB (show Int32.toInt (iv 78 18) = _ from by omega) hi_78_17 (fun w => PMm.zk (h8 w)) (by decide) (by decide) (show 1 ≤ Int32.toInt (iv 78 32) from by omega) hH hS (lv_sub hl [0, 2, 3] rfl)
            · have : Int32.toInt 0 = 0 := rfl
              have c209 := congrArg Int32.toInt c209
              refine lv_iload_n (pc := 245) C0.1 C0.2.1 dX10_readAll_245 rfl (lv_at hl 1 rfl) ?_
              refine lv_if_le (pc := 246) (tgt := 273) C0.1 C0.2.1 dX10_readAll_246 (by decide) (fun c210 => ?_) (fun c210 => ?_)
              · have : Int32.toInt 0 = 0 := rfl
                have c210 := Int32.le_iff_toInt_le.mp c210
                refine lv_iconst (pc := 273) (v := 0) C0.1 C0.2.1 dX10_readAll_273 (by decide) ?_
                refine lv_istore (pc := 274) (lv' := [(4, .int 0), (3, .int hw), (0, .ref (b + 78)), (2, .int y)]) C0.1 C0.2.1 dX10_readAll_274 hl (by decide) rfl (fun ls hl => ?_)
                exact L276 1202 0 iv Fv Gv _ _ _ h1 hT hTK hPI hCB (show Int32.toInt (iv 78 18) = _ from by omega) hi_78_17 (fun w => PMm.zk (h8 w)) (by decide) (by decide) (show 1 ≤ Int32.toInt (iv 78 32) from by omega) hH hS (lv_sub hl [0, 2, 3] rfl)
              · have : Int32.toInt 0 = 0 := rfl
                have c210 : ¬ _ := fun q => c210 (Int32.le_iff_toInt_le.mpr q)
                have hP := h8 (by have : Int32.toInt 0 = 0 := rfl; omega)
                have hPl := hP.1
                have hq1 := h11 (by have : Int32.toInt 0 = 0 := rfl; omega)
                refine lv_aload_n (pc := 249) C0.1 C0.2.1 dX10_readAll_249 rfl (lv_at hl 2 rfl) ?_
                refine lv_iload_n (pc := 250) C0.1 C0.2.1 dX10_readAll_250 rfl (lv_at hl 1 rfl) ?_
                refine lv_bipush (pc := 251) (v := (-9)) C0.1 C0.2.1 dX10_readAll_251 (by decide) ?_
                refine lv_aload_n (pc := 253) C0.1 C0.2.1 dX10_readAll_253 rfl (lv_at hl 2 rfl) ?_
                refine xget (pc := 254) C0 hH 78 39 clX10 ⟨Nat.le_of_ble_eq_true rfl, Nat.le_of_ble_eq_true rfl⟩ ⟨rfl, rfl⟩ (Nat.le_of_ble_eq_true rfl) fl_X10_91 (v := .ref (b + 104)) rfl dX10_readAll_254 ?_
                refine lv_aload_n (pc := 257) C0.1 C0.2.1 dX10_readAll_257 rfl (lv_at hl 2 rfl) ?_
                refine xcVI (pc := 258) 78 [] (m_topmost l D tA b iv Fv Gv q.toInt hT hP) C0 hH hS clX10 rfl ⟨⟨Nat.le_of_ble_eq_true rfl, Nat.le_of_ble_eq_true rfl⟩, rfl, rfl⟩ cw_X10_296 rfl ⟨Nat.le_of_ble_eq_true rfl, Nat.le_of_ble_eq_true rfl⟩ hl.1 rfl (Nat.le_of_ble_eq_true rfl) dX10_readAll_258 ⟨Nat.le_of_ble_eq_true rfl, Nat.le_of_ble_eq_true rfl⟩ (fun r211 ir211 Fr211 Gr211 _ locs hp hH hS => ?_)
                obtain ⟨hu, htpr211, htqr211, htzr211⟩ := hp
                cases hu
                have hBtr211 := TMm.bt hT (x := r211) (show 0 ≤ Int32.toInt r211 ∧ Int32.toInt r211 < Int32.toInt (iv 78 32) from htpr211)
                refine xiald (pc := 261) (N := 1202) C0 hH 104 ⟨Nat.le_of_ble_eq_true rfl, Nat.le_of_ble_eq_true rfl⟩ ⟨rfl, rfl⟩ (vI (by omega) (by omega)) dX10_readAll_261 ?_
                have hv9 := htqr211 (Or.inr (by omega))
                refine lv_aload_n (pc := 262) C0.1 C0.2.1 dX10_readAll_262 rfl (lv_at hl 2 rfl) ?_
                refine xget (pc := 263) C0 hH 78 19 clX10 ⟨Nat.le_of_ble_eq_true rfl, Nat.le_of_ble_eq_true rfl⟩ ⟨rfl, rfl⟩ (Nat.le_of_ble_eq_true rfl) fl_X10_258 (v := .int (iv 78 19)) rfl dX10_readAll_263 ?_
                refine lv_iconst (pc := 266) (v := 1) C0.1 C0.2.1 dX10_readAll_266 (by decide) ?_
                have : Int32.toInt 1 = 1 := rfl
                refine lv_isub (pc := 267) C0.1 C0.2.1 dX10_readAll_267 ?_
                refine lv_topi (fun x212 ex212 => ?_)
                have hx212 : Int32.toInt x212 = Int32.toInt (iv 78 19) - Int32.toInt 1 := by rw [ex212]; exact fb_subI (by omega) (by omega)
                refine xcVI (pc := 268) 78 [.int hw, .int (-9), .int (Fv 104 (Int32.toNatClampNeg r211)), .int x212] (m_newBlock l D tA b iv Fv Gv hw (-9) (Fv 104 (Int32.toNatClampNeg r211)) x212 hT (show Int32.toInt (iv 78 32) < 1202 from by omega) (show Int32.toInt (iv 78 47) < 1802 from by omega) (show (Int32.toInt (iv 78 32) = 0 ∧ Int32.toInt (Fv 104 (Int32.toNatClampNeg r211)) = -9) ∨ (1 ≤ Int32.toInt (iv 78 32) ∧ (0 ≤ Int32.toInt (Fv 104 (Int32.toNatClampNeg r211)) ∧ Int32.toInt (Fv 104 (Int32.toNatClampNeg r211)) < Int32.toInt (iv 78 40)) ∧ 0 ≤ Int32.toInt x212 ∧ Int32.toInt x212 < 600) from by omega)) C0 hH hS clX10 rfl ⟨⟨Nat.le_of_ble_eq_true rfl, Nat.le_of_ble_eq_true rfl⟩, rfl, rfl⟩ cw_X10_299 rfl ⟨Nat.le_of_ble_eq_true rfl, Nat.le_of_ble_eq_true rfl⟩ hl.1 rfl (Nat.le_of_ble_eq_true rfl) dX10_readAll_268 ⟨Nat.le_of_ble_eq_true rfl, Nat.le_of_ble_eq_true rfl⟩ (fun r213 ir213 Fr213 Gr213 _ locs hp hH hS => ?_)
                obtain ⟨honr213, hT, h32r213, h47r213, hrbr213, e98r213, e99r213, e102r213⟩ := hp
                have hT : TMm ir213 Fr213 := hT
                have h32r213 : (ir213 78 32).toInt = Int32.toInt (iv 78 32) + 1 := h32r213
                have h47r213 : Int32.toInt (iv 78 47) ≤ (ir213 78 47).toInt ∧ (ir213 78 47).toInt ≤ Int32.toInt (iv 78 47) + 1 := h47r213
                have hrIr213 : Int32.toInt r213 = Int32.toInt (iv 78 32) := congrArg Int32.toInt hrbr213
                have hTL := TMm.lin hT
                have hTK : TKm ir213 Fr213 := TKm.ro (i := iv) (F := Fv) hTK honr213 (by decide)
                have hPI : PLI ir213 := PLI.ro (i := iv) (F := Fv) hPI honr213 (by decide)
                have hP : PMm q.toInt ir213 Fr213 := PMm.nb (i := iv) (F := Fv) hP (by omega) h32r213 e98r213 e99r213 e102r213 (honr213.2 113 (by decide)).1 (honr213.1 78 51 (Or.inr (by decide)))
                have hBR : BR ir213 := BR.ro (i := iv) (F := Fv) hBR honr213 (by decide)
                have hCB : CB Fr213 := CB.ro (F := Fv) hCB honr213 (by decide)
                have hi_78_17 : ir213 78 17 = nI 85 := (honr213.1 78 17 (Or.inr (by decide))).trans hi_78_17
                have ek_40r213 : Int32.toInt (ir213 78 40) = Int32.toInt (iv 78 40) := congrArg Int32.toInt (honr213.1 78 40 (Or.inr (by decide)))
                have ek_51r213 : Int32.toInt (ir213 78 51) = Int32.toInt (iv 78 51) := congrArg Int32.toInt (honr213.1 78 51 (Or.inr (by decide)))
                have ek_19r213 : Int32.toInt (ir213 78 19) = Int32.toInt (iv 78 19) := congrArg Int32.toInt (honr213.1 78 19 (Or.inr (by decide)))
                have ek_18r213 : Int32.toInt (ir213 78 18) = Int32.toInt (iv 78 18) := congrArg Int32.toInt (honr213.1 78 18 (Or.inr (by decide)))
                have ek_30r213 : Int32.toInt (ir213 78 30) = Int32.toInt (iv 78 30) := congrArg Int32.toInt (honr213.1 78 30 (Or.inr (by decide)))
                have hTKl := hTK.1
                refine lv_istore (pc := 271) (lv' := [(4, .int r213), (3, .int hw), (0, .ref (b + 78)), (2, .int y)]) C0.1 C0.2.1 dX10_readAll_271 hl (by decide) rfl (fun ls hl => ?_)
                refine lv_iconst (pc := 273) (v := 0) C0.1 C0.2.1 dX10_readAll_273 (by decide) ?_
                refine lv_istore (pc := 274) (lv' := [(4, .int 0), (3, .int hw), (0, .ref (b + 78)), (2, .int y)]) C0.1 C0.2.1 dX10_readAll_274 hl (by decide) rfl (fun ls hl => ?_)
                exact L276 1202 0 ir213 Fr213 Gr213 _ _ _ (RO.tr h1 honr213 (by decide) (by decide)) hT hTK hPI hCB (show Int32.toInt (ir213 78 18) = _ from by omega) hi_78_17 (fun _ => PMm.zk hP) (by decide) (by decide) (show 1 ≤ Int32.toInt (ir213 78 32) from by omega) hH hS (lv_sub hl [0, 2, 3] rfl)
          · have : Int32.toInt 1 = 1 := rfl
            have c208 := congrArg Int32.toInt c208
            refine lv_aload_n (pc := 228) C0.1 C0.2.1 dX10_readAll_228 rfl (lv_at hl 2 rfl) ?_
            refine lv_iconst (pc := 229) (v := 3) C0.1 C0.2.1 dX10_readAll_229 (by decide) ?_
            refine lv_aload_n (pc := 230) C0.1 C0.2.1 dX10_readAll_230 rfl (lv_at hl 2 rfl) ?_
            refine xget (pc := 231) C0 hH 78 18 clX10 ⟨Nat.le_of_ble_eq_true rfl, Nat.le_of_ble_eq_true rfl⟩ ⟨rfl, rfl⟩ (Nat.le_of_ble_eq_true rfl) fl_X10_251 (v := .int (iv 78 18)) rfl dX10_readAll_231 ?_
            refine xcVI (pc := 234) 78 [.int 3, .int (iv 78 18)] (m_fail l D tA b iv Fv Gv 3 (iv 78 18)) C0 hH hS clX10 rfl ⟨⟨Nat.le_of_ble_eq_true rfl, Nat.le_of_ble_eq_true rfl⟩, rfl, rfl⟩ cw_X10_254 rfl ⟨Nat.le_of_ble_eq_true rfl, Nat.le_of_ble_eq_true rfl⟩ hl.1 rfl (Nat.le_of_ble_eq_true rfl) dX10_readAll_234 ⟨Nat.le_of_ble_eq_true rfl, Nat.le_of_ble_eq_true rfl⟩ (fun r214 ir214 Fr214 Gr214 _ locs hp hH hS => ?_)
            obtain ⟨hu, rfl⟩ := hp
            cases hu
            have hH : Hd D tA b 78 52 zz (up2 (up2 iv 78 30 3) 78 31 (iv 78 18)) Fv Gv _ := hH
            exact xzret (pc := 237) C0 hr hH hS dX10_readAll_237 (by decide) ⟨(RO.i (RO.i h1 (by decide)) (by decide)), hTK, hT, hCB, (by decide), (fun _ => (show 0 ≤ Int32.toInt (iv 78 18) ∧ Int32.toInt (iv 78 18) ≤ 600 from by first | omega | (have := hTK.2.1 0; omega))), hi_78_17, Or.inl (show 1 ≤ Int32.toInt (iv 78 32) from by omega)⟩
      · have c201 : ¬ _ := fun q => c201 (Int32.le_iff_toInt_le.mpr q)
        refine lv_aload_n (pc := 89) C0.1 C0.2.1 dX10_readAll_89 rfl (lv_at hl 2 rfl) ?_
        refine xget (pc := 90) C0 hH 78 30 clX10 ⟨Nat.le_of_ble_eq_true rfl, Nat.le_of_ble_eq_true rfl⟩ ⟨rfl, rfl⟩ (Nat.le_of_ble_eq_true rfl) fl_X10_245 (v := .int (iv 78 30)) rfl dX10_readAll_90 ?_
        refine lv_if_ne (pc := 93) (tgt := 216) C0.1 C0.2.1 dX10_readAll_93 (by decide) (fun c215 => ?_) (fun c215 => ?_)
        · have : Int32.toInt 0 = 0 := rfl
          have c215 : ¬ _ := fun q => c215 (Int32.toInt_inj.mp q)
          refine lv_aload_n (pc := 216) C0.1 C0.2.1 dX10_readAll_216 rfl (lv_at hl 2 rfl) ?_
          refine xget (pc := 217) C0 hH 78 30 clX10 ⟨Nat.le_of_ble_eq_true rfl, Nat.le_of_ble_eq_true rfl⟩ ⟨rfl, rfl⟩ (Nat.le_of_ble_eq_true rfl) fl_X10_245 (v := .int (iv 78 30)) rfl dX10_readAll_217 ?_
          refine lv_if_ne (pc := 220) (tgt := 238) C0.1 C0.2.1 dX10_readAll_220 (by decide) (fun c216 => ?_) (fun c216 => ?_)
          · have : Int32.toInt 0 = 0 := rfl
            have c216 : ¬ _ := fun q => c216 (Int32.toInt_inj.mp q)
            refine lv_aload_n (pc := 238) C0.1 C0.2.1 dX10_readAll_238 rfl (lv_at hl 2 rfl) ?_
            refine xget (pc := 239) C0 hH 78 30 clX10 ⟨Nat.le_of_ble_eq_true rfl, Nat.le_of_ble_eq_true rfl⟩ ⟨rfl, rfl⟩ (Nat.le_of_ble_eq_true rfl) fl_X10_245 (v := .int (iv 78 30)) rfl dX10_readAll_239 ?_
            refine lv_if_ne (pc := 242) (tgt := 273) C0.1 C0.2.1 dX10_readAll_242 (by decide) (fun c217 => ?_) (fun c217 => ?_)
            · have : Int32.toInt 0 = 0 := rfl
              have c217 : ¬ _ := fun q => c217 (Int32.toInt_inj.mp q)
              refine lv_iconst (pc := 273) (v := 0) C0.1 C0.2.1 dX10_readAll_273 (by decide) ?_
              refine lv_istore (pc := 274) (lv' := [(4, .int 0), (3, .int hw), (0, .ref (b + 78)), (2, .int y)]) C0.1 C0.2.1 dX10_readAll_274 hl (by decide) rfl (fun ls hl => ?_)
              exact L276 1202 0 iv Fv Gv _ _ _ h1 hT hTK hPI hCB (show Int32.toInt (iv 78 18) = _ from by omega) hi_78_17 (fun w => PMm.zk (h8 w)) (by decide) (by decide) (show 1 ≤ Int32.toInt (iv 78 32) from by omega) hH hS (lv_sub hl [0, 2, 3] rfl)
            · have : Int32.toInt 0 = 0 := rfl
              have c217 := congrArg Int32.toInt c217
              refine lv_iload_n (pc := 245) C0.1 C0.2.1 dX10_readAll_245 rfl (lv_at hl 1 rfl) ?_
              refine lv_if_le (pc := 246) (tgt := 273) C0.1 C0.2.1 dX10_readAll_246 (by decide) (fun c218 => ?_) (fun c218 => ?_)
              · have : Int32.toInt 0 = 0 := rfl
                have c218 := Int32.le_iff_toInt_le.mp c218
                refine lv_iconst (pc := 273) (v := 0) C0.1 C0.2.1 dX10_readAll_273 (by decide) ?_
                refine lv_istore (pc := 274) (lv' := [(4, .int 0), (3, .int hw), (0, .ref (b + 78)), (2, .int y)]) C0.1 C0.2.1 dX10_readAll_274 hl (by decide) rfl (fun ls hl => ?_)
                exact L276 1202 0 iv Fv Gv _ _ _ h1 hT hTK hPI hCB (show Int32.toInt (iv 78 18) = _ from by omega) hi_78_17 (fun w => PMm.zk (h8 w)) (by decide) (by decide) (show 1 ≤ Int32.toInt (iv 78 32) from by omega) hH hS (lv_sub hl [0, 2, 3] rfl)
              · have : Int32.toInt 0 = 0 := rfl
                have c218 : ¬ _ := fun q => c218 (Int32.le_iff_toInt_le.mpr q)
                have hP := h8 (by have : Int32.toInt 0 = 0 := rfl; omega)
                have hPl := hP.1
                have hq1 := h11 (by have : Int32.toInt 0 = 0 := rfl; omega)
                refine lv_aload_n (pc := 249) C0.1 C0.2.1 dX10_readAll_249 rfl (lv_at hl 2 rfl) ?_
                refine lv_iload_n (pc := 250) C0.1 C0.2.1 dX10_readAll_250 rfl (lv_at hl 1 rfl) ?_
                refine lv_bipush (pc := 251) (v := (-9)) C0.1 C0.2.1 dX10_readAll_251 (by decide) ?_
                refine lv_aload_n (pc := 253) C0.1 C0.2.1 dX10_readAll_253 rfl (lv_at hl 2 rfl) ?_
                refine xget (pc := 254) C0 hH 78 39 clX10 ⟨Nat.le_of_ble_eq_true rfl, Nat.le_of_ble_eq_true rfl⟩ ⟨rfl, rfl⟩ (Nat.le_of_ble_eq_true rfl) fl_X10_91 (v := .ref (b + 104)) rfl dX10_readAll_254 ?_
                refine lv_aload_n (pc := 257) C0.1 C0.2.1 dX10_readAll_257 rfl (lv_at hl 2 rfl) ?_
                refine xcVI (pc := 258) 78 [] (m_topmost l D tA b iv Fv Gv q.toInt hT hP) C0 hH hS clX10 rfl ⟨⟨Nat.le_of_ble_eq_true rfl, Nat.le_of_ble_eq_true rfl⟩, rfl, rfl⟩ cw_X10_296 rfl ⟨Nat.le_of_ble_eq_true rfl, Nat.le_of_ble_eq_true rfl⟩ hl.1 rfl (Nat.le_of_ble_eq_true rfl) dX10_readAll_258 ⟨Nat.le_of_ble_eq_true rfl, Nat.le_of_ble_eq_true rfl⟩ (fun r219 ir219 Fr219 Gr219 _ locs hp hH hS => ?_)
                obtain ⟨hu, htpr219, htqr219, htzr219⟩ := hp
                cases hu
                have hBtr219 := TMm.bt hT (x := r219) (show 0 ≤ Int32.toInt r219 ∧ Int32.toInt r219 < Int32.toInt (iv 78 32) from htpr219)
                refine xiald (pc := 261) (N := 1202) C0 hH 104 ⟨Nat.le_of_ble_eq_true rfl, Nat.le_of_ble_eq_true rfl⟩ ⟨rfl, rfl⟩ (vI (by omega) (by omega)) dX10_readAll_261 ?_
                have hv9 := htqr219 (Or.inr (by omega))
                refine lv_aload_n (pc := 262) C0.1 C0.2.1 dX10_readAll_262 rfl (lv_at hl 2 rfl) ?_
                refine xget (pc := 263) C0 hH 78 19 clX10 ⟨Nat.le_of_ble_eq_true rfl, Nat.le_of_ble_eq_true rfl⟩ ⟨rfl, rfl⟩ (Nat.le_of_ble_eq_true rfl) fl_X10_258 (v := .int (iv 78 19)) rfl dX10_readAll_263 ?_
                refine lv_iconst (pc := 266) (v := 1) C0.1 C0.2.1 dX10_readAll_266 (by decide) ?_
                have : Int32.toInt 1 = 1 := rfl
                refine lv_isub (pc := 267) C0.1 C0.2.1 dX10_readAll_267 ?_
                refine lv_topi (fun x220 ex220 => ?_)
                have hx220 : Int32.toInt x220 = Int32.toInt (iv 78 19) - Int32.toInt 1 := by rw [ex220]; exact fb_subI (by omega) (by omega)
                refine xcVI (pc := 268) 78 [.int hw, .int (-9), .int (Fv 104 (Int32.toNatClampNeg r219)), .int x220] (m_newBlock l D tA b iv Fv Gv hw (-9) (Fv 104 (Int32.toNatClampNeg r219)) x220 hT (show Int32.toInt (iv 78 32) < 1202 from by omega) (show Int32.toInt (iv 78 47) < 1802 from by omega) (show (Int32.toInt (iv 78 32) = 0 ∧ Int32.toInt (Fv 104 (Int32.toNatClampNeg r219)) = -9) ∨ (1 ≤ Int32.toInt (iv 78 32) ∧ (0 ≤ Int32.toInt (Fv 104 (Int32.toNatClampNeg r219)) ∧ Int32.toInt (Fv 104 (Int32.toNatClampNeg r219)) < Int32.toInt (iv 78 40)) ∧ 0 ≤ Int32.toInt x220 ∧ Int32.toInt x220 < 600) from by omega)) C0 hH hS clX10 rfl ⟨⟨Nat.le_of_ble_eq_true rfl, Nat.le_of_ble_eq_true rfl⟩, rfl, rfl⟩ cw_X10_299 rfl ⟨Nat.le_of_ble_eq_true rfl, Nat.le_of_ble_eq_true rfl⟩ hl.1 rfl (Nat.le_of_ble_eq_true rfl) dX10_readAll_268 ⟨Nat.le_of_ble_eq_true rfl, Nat.le_of_ble_eq_true rfl⟩ (fun r221 ir221 Fr221 Gr221 _ locs hp hH hS => ?_)
                obtain ⟨honr221, hT, h32r221, h47r221, hrbr221, e98r221, e99r221, e102r221⟩ := hp
                have hT : TMm ir221 Fr221 := hT
                have h32r221 : (ir221 78 32).toInt = Int32.toInt (iv 78 32) + 1 := h32r221
                have h47r221 : Int32.toInt (iv 78 47) ≤ (ir221 78 47).toInt ∧ (ir221 78 47).toInt ≤ Int32.toInt (iv 78 47) + 1 := h47r221
                have hrIr221 : Int32.toInt r221 = Int32.toInt (iv 78 32) := congrArg Int32.toInt hrbr221
                have hTL := TMm.lin hT
                have hTK : TKm ir221 Fr221 := TKm.ro (i := iv) (F := Fv) hTK honr221 (by decide)
                have hPI : PLI ir221 := PLI.ro (i := iv) (F := Fv) hPI honr221 (by decide)
                have hP : PMm q.toInt ir221 Fr221 := PMm.nb (i := iv) (F := Fv) hP (by omega) h32r221 e98r221 e99r221 e102r221 (honr221.2 113 (by decide)).1 (honr221.1 78 51 (Or.inr (by decide)))
                have hBR : BR ir221 := BR.ro (i := iv) (F := Fv) hBR honr221 (by decide)
                have hCB : CB Fr221 := CB.ro (F := Fv) hCB honr221 (by decide)
                have hi_78_17 : ir221 78 17 = nI 85 := (honr221.1 78 17 (Or.inr (by decide))).trans hi_78_17
                have ek_40r221 : Int32.toInt (ir221 78 40) = Int32.toInt (iv 78 40) := congrArg Int32.toInt (honr221.1 78 40 (Or.inr (by decide)))
                have ek_51r221 : Int32.toInt (ir221 78 51) = Int32.toInt (iv 78 51) := congrArg Int32.toInt (honr221.1 78 51 (Or.inr (by decide)))
                have ek_19r221 : Int32.toInt (ir221 78 19) = Int32.toInt (iv 78 19) := congrArg Int32.toInt (honr221.1 78 19 (Or.inr (by decide)))
                have ek_18r221 : Int32.toInt (ir221 78 18) = Int32.toInt (iv 78 18) := congrArg Int32.toInt (honr221.1 78 18 (Or.inr (by decide)))
                have ek_30r221 : Int32.toInt (ir221 78 30) = Int32.toInt (iv 78 30) := congrArg Int32.toInt (honr221.1 78 30 (Or.inr (by decide)))
                have hTKl := hTK.1
                refine lv_istore (pc := 271) (lv' := [(4, .int r221), (3, .int hw), (0, .ref (b + 78)), (2, .int y)]) C0.1 C0.2.1 dX10_readAll_271 hl (by decide) rfl (fun ls hl => ?_)
                refine lv_iconst (pc := 273) (v := 0) C0.1 C0.2.1 dX10_readAll_273 (by decide) ?_
                refine lv_istore (pc := 274) (lv' := [(4, .int 0), (3, .int hw), (0, .ref (b + 78)), (2, .int y)]) C0.1 C0.2.1 dX10_readAll_274 hl (by decide) rfl (fun ls hl => ?_)
                exact L276 1202 0 ir221 Fr221 Gr221 _ _ _ (RO.tr h1 honr221 (by decide) (by decide)) hT hTK hPI hCB (show Int32.toInt (ir221 78 18) = _ from by omega) hi_78_17 (fun _ => PMm.zk hP) (by decide) (by decide) (show 1 ≤ Int32.toInt (ir221 78 32) from by omega) hH hS (lv_sub hl [0, 2, 3] rfl)
          · have : Int32.toInt 0 = 0 := rfl
            have c216 := congrArg Int32.toInt c216
            refine lv_iload_n (pc := 223) C0.1 C0.2.1 dX10_readAll_223 rfl (lv_at hl 1 rfl) ?_
            refine lv_iconst (pc := 224) (v := 1) C0.1 C0.2.1 dX10_readAll_224 (by decide) ?_
            refine lv_icmp_ne (pc := 225) (tgt := 238) C0.1 C0.2.1 dX10_readAll_225 (by decide) (fun c222 => ?_) (fun c222 => ?_)
            · have : Int32.toInt 1 = 1 := rfl
              have c222 : ¬ _ := fun q => c222 (Int32.toInt_inj.mp q)
              refine lv_aload_n (pc := 238) C0.1 C0.2.1 dX10_readAll_238 rfl (lv_at hl 2 rfl) ?_
              refine xget (pc := 239) C0 hH 78 30 clX10 ⟨Nat.le_of_ble_eq_true rfl, Nat.le_of_ble_eq_true rfl⟩ ⟨rfl, rfl⟩ (Nat.le_of_ble_eq_true rfl) fl_X10_245 (v := .int (iv 78 30)) rfl dX10_readAll_239 ?_
              refine lv_if_ne (pc := 242) (tgt := 273) C0.1 C0.2.1 dX10_readAll_242 (by decide) (fun c223 => ?_) (fun c223 => ?_)
              · have : Int32.toInt 0 = 0 := rfl
                have c223 : ¬ _ := fun q => c223 (Int32.toInt_inj.mp q)
                refine lv_iconst (pc := 273) (v := 0) C0.1 C0.2.1 dX10_readAll_273 (by decide) ?_
                refine lv_istore (pc := 274) (lv' := [(4, .int 0), (3, .int hw), (0, .ref (b + 78)), (2, .int y)]) C0.1 C0.2.1 dX10_readAll_274 hl (by decide) rfl (fun ls hl => ?_)
                exact L276 1202 0 iv Fv Gv _ _ _ h1 hT hTK hPI hCB (show Int32.toInt (iv 78 18) = _ from by omega) hi_78_17 (fun w => PMm.zk (h8 w)) (by decide) (by decide) (show 1 ≤ Int32.toInt (iv 78 32) from by omega) hH hS (lv_sub hl [0, 2, 3] rfl)
              · have : Int32.toInt 0 = 0 := rfl
                have c223 := congrArg Int32.toInt c223
                refine lv_iload_n (pc := 245) C0.1 C0.2.1 dX10_readAll_245 rfl (lv_at hl 1 rfl) ?_
                refine lv_if_le (pc := 246) (tgt := 273) C0.1 C0.2.1 dX10_readAll_246 (by decide) (fun c224 => ?_) (fun c224 => ?_)
                · have : Int32.toInt 0 = 0 := rfl
                  have c224 := Int32.le_iff_toInt_le.mp c224
                  refine lv_iconst (pc := 273) (v := 0) C0.1 C0.2.1 dX10_readAll_273 (by decide) ?_
                  refine lv_istore (pc := 274) (lv' := [(4, .int 0), (3, .int hw), (0, .ref (b + 78)), (2, .int y)]) C0.1 C0.2.1 dX10_readAll_274 hl (by decide) rfl (fun ls hl => ?_)
                  exact L276 1202 0 iv Fv Gv _ _ _ h1 hT hTK hPI hCB (show Int32.toInt (iv 78 18) = _ from by omega) hi_78_17 (fun w => PMm.zk (h8 w)) (by decide) (by decide) (show 1 ≤ Int32.toInt (iv 78 32) from by omega) hH hS (lv_sub hl [0, 2, 3] rfl)
                · have : Int32.toInt 0 = 0 := rfl
                  have c224 : ¬ _ := fun q => c224 (Int32.le_iff_toInt_le.mpr q)
                  have hP := h8 (by have : Int32.toInt 0 = 0 := rfl; omega)
                  have hPl := hP.1
                  have hq1 := h11 (by have : Int32.toInt 0 = 0 := rfl; omega)
                  refine lv_aload_n (pc := 249) C0.1 C0.2.1 dX10_readAll_249 rfl (lv_at hl 2 rfl) ?_
                  refine lv_iload_n (pc := 250) C0.1 C0.2.1 dX10_readAll_250 rfl (lv_at hl 1 rfl) ?_
                  refine lv_bipush (pc := 251) (v := (-9)) C0.1 C0.2.1 dX10_readAll_251 (by decide) ?_
                  refine lv_aload_n (pc := 253) C0.1 C0.2.1 dX10_readAll_253 rfl (lv_at hl 2 rfl) ?_
                  refine xget (pc := 254) C0 hH 78 39 clX10 ⟨Nat.le_of_ble_eq_true rfl, Nat.le_of_ble_eq_true rfl⟩ ⟨rfl, rfl⟩ (Nat.le_of_ble_eq_true rfl) fl_X10_91 (v := .ref (b + 104)) rfl dX10_readAll_254 ?_
                  refine lv_aload_n (pc := 257) C0.1 C0.2.1 dX10_readAll_257 rfl (lv_at hl 2 rfl) ?_
                  refine xcVI (pc := 258) 78 [] (m_topmost l D tA b iv Fv Gv q.toInt hT hP) C0 hH hS clX10 rfl ⟨⟨Nat.le_of_ble_eq_true rfl, Nat.le_of_ble_eq_true rfl⟩, rfl, rfl⟩ cw_X10_296 rfl ⟨Nat.le_of_ble_eq_true rfl, Nat.le_of_ble_eq_true rfl⟩ hl.1 rfl (Nat.le_of_ble_eq_true rfl) dX10_readAll_258 ⟨Nat.le_of_ble_eq_true rfl, Nat.le_of_ble_eq_true rfl⟩ (fun r225 ir225 Fr225 Gr225 _ locs hp hH hS => ?_)
                  obtain ⟨hu, htpr225, htqr225, htzr225⟩ := hp
                  cases hu
                  have hBtr225 := TMm.bt hT (x := r225) (show 0 ≤ Int32.toInt r225 ∧ Int32.toInt r225 < Int32.toInt (iv 78 32) from htpr225)
                  refine xiald (pc := 261) (N := 1202) C0 hH 104 ⟨Nat.le_of_ble_eq_true rfl, Nat.le_of_ble_eq_true rfl⟩ ⟨rfl, rfl⟩ (vI (by omega) (by omega)) dX10_readAll_261 ?_
                  have hv9 := htqr225 (Or.inr (by omega))
                  refine lv_aload_n (pc := 262) C0.1 C0.2.1 dX10_readAll_262 rfl (lv_at hl 2 rfl) ?_
                  refine xget (pc := 263) C0 hH 78 19 clX10 ⟨Nat.le_of_ble_eq_true rfl, Nat.le_of_ble_eq_true rfl⟩ ⟨rfl, rfl⟩ (Nat.le_of_ble_eq_true rfl) fl_X10_258 (v := .int (iv 78 19)) rfl dX10_readAll_263 ?_
                  refine lv_iconst (pc := 266) (v := 1) C0.1 C0.2.1 dX10_readAll_266 (by decide) ?_
                  have : Int32.toInt 1 = 1 := rfl
                  refine lv_isub (pc := 267) C0.1 C0.2.1 dX10_readAll_267 ?_
                  refine lv_topi (fun x226 ex226 => ?_)
                  have hx226 : Int32.toInt x226 = Int32.toInt (iv 78 19) - Int32.toInt 1 := by rw [ex226]; exact fb_subI (by omega) (by omega)
                  refine xcVI (pc := 268) 78 [.int hw, .int (-9), .int (Fv 104 (Int32.toNatClampNeg r225)), .int x226] (m_newBlock l D tA b iv Fv Gv hw (-9) (Fv 104 (Int32.toNatClampNeg r225)) x226 hT (show Int32.toInt (iv 78 32) < 1202 from by omega) (show Int32.toInt (iv 78 47) < 1802 from by omega) (show (Int32.toInt (iv 78 32) = 0 ∧ Int32.toInt (Fv 104 (Int32.toNatClampNeg r225)) = -9) ∨ (1 ≤ Int32.toInt (iv 78 32) ∧ (0 ≤ Int32.toInt (Fv 104 (Int32.toNatClampNeg r225)) ∧ Int32.toInt (Fv 104 (Int32.toNatClampNeg r225)) < Int32.toInt (iv 78 40)) ∧ 0 ≤ Int32.toInt x226 ∧ Int32.toInt x226 < 600) from by omega)) C0 hH hS clX10 rfl ⟨⟨Nat.le_of_ble_eq_true rfl, Nat.le_of_ble_eq_true rfl⟩, rfl, rfl⟩ cw_X10_299 rfl ⟨Nat.le_of_ble_eq_true rfl, Nat.le_of_ble_eq_true rfl⟩ hl.1 rfl (Nat.le_of_ble_eq_true rfl) dX10_readAll_268 ⟨Nat.le_of_ble_eq_true rfl, Nat.le_of_ble_eq_true rfl⟩ (fun r227 ir227 Fr227 Gr227 _ locs hp hH hS => ?_)
                  obtain ⟨honr227, hT, h32r227, h47r227, hrbr227, e98r227, e99r227, e102r227⟩ := hp
                  have hT : TMm ir227 Fr227 := hT
                  have h32r227 : (ir227 78 32).toInt = Int32.toInt (iv 78 32) + 1 := h32r227
                  have h47r227 : Int32.toInt (iv 78 47) ≤ (ir227 78 47).toInt ∧ (ir227 78 47).toInt ≤ Int32.toInt (iv 78 47) + 1 := h47r227
                  have hrIr227 : Int32.toInt r227 = Int32.toInt (iv 78 32) := congrArg Int32.toInt hrbr227
                  have hTL := TMm.lin hT
                  have hTK : TKm ir227 Fr227 := TKm.ro (i := iv) (F := Fv) hTK honr227 (by decide)
                  have hPI : PLI ir227 := PLI.ro (i := iv) (F := Fv) hPI honr227 (by decide)
                  have hP : PMm q.toInt ir227 Fr227 := PMm.nb (i := iv) (F := Fv) hP (by omega) h32r227 e98r227 e99r227 e102r227 (honr227.2 113 (by decide)).1 (honr227.1 78 51 (Or.inr (by decide)))
                  have hBR : BR ir227 := BR.ro (i := iv) (F := Fv) hBR honr227 (by decide)
                  have hCB : CB Fr227 := CB.ro (F := Fv) hCB honr227 (by decide)
                  have hi_78_17 : ir227 78 17 = nI 85 := (honr227.1 78 17 (Or.inr (by decide))).trans hi_78_17
                  have ek_40r227 : Int32.toInt (ir227 78 40) = Int32.toInt (iv 78 40) := congrArg Int32.toInt (honr227.1 78 40 (Or.inr (by decide)))
                  have ek_51r227 : Int32.toInt (ir227 78 51) = Int32.toInt (iv 78 51) := congrArg Int32.toInt (honr227.1 78 51 (Or.inr (by decide)))
                  have ek_19r227 : Int32.toInt (ir227 78 19) = Int32.toInt (iv 78 19) := congrArg Int32.toInt (honr227.1 78 19 (Or.inr (by decide)))
                  have ek_18r227 : Int32.toInt (ir227 78 18) = Int32.toInt (iv 78 18) := congrArg Int32.toInt (honr227.1 78 18 (Or.inr (by decide)))
                  have ek_30r227 : Int32.toInt (ir227 78 30) = Int32.toInt (iv 78 30) := congrArg Int32.toInt (honr227.1 78 30 (Or.inr (by decide)))
                  have hTKl := hTK.1
                  refine lv_istore (pc := 271) (lv' := [(4, .int r227), (3, .int hw), (0, .ref (b + 78)), (2, .int y)]) C0.1 C0.2.1 dX10_readAll_271 hl (by decide) rfl (fun ls hl => ?_)
                  refine lv_iconst (pc := 273) (v := 0) C0.1 C0.2.1 dX10_readAll_273 (by decide) ?_
                  refine lv_istore (pc := 274) (lv' := [(4, .int 0), (3, .int hw), (0, .ref (b + 78)), (2, .int y)]) C0.1 C0.2.1 dX10_readAll_274 hl (by decide) rfl (fun ls hl => ?_)
                  exact L276 1202 0 ir227 Fr227 Gr227 _ _ _ (RO.tr h1 honr227 (by decide) (by decide)) hT hTK hPI hCB (show Int32.toInt (ir227 78 18) = _ from by omega) hi_78_17 (fun _ => PMm.zk hP) (by decide) (by decide) (show 1 ≤ Int32.toInt (ir227 78 32) from by omega) hH hS (lv_sub hl [0, 2, 3] rfl)
            · have : Int32.toInt 1 = 1 := rfl
              have c222 := congrArg Int32.toInt c222
              refine lv_aload_n (pc := 228) C0.1 C0.2.1 dX10_readAll_228 rfl (lv_at hl 2 rfl) ?_
              refine lv_iconst (pc := 229) (v := 3) C0.1 C0.2.1 dX10_readAll_229 (by decide) ?_
              refine lv_aload_n (pc := 230) C0.1 C0.2.1 dX10_readAll_230 rfl (lv_at hl 2 rfl) ?_
              refine xget (pc := 231) C0 hH 78 18 clX10 ⟨Nat.le_of_ble_eq_true rfl, Nat.le_of_ble_eq_true rfl⟩ ⟨rfl, rfl⟩ (Nat.le_of_ble_eq_true rfl) fl_X10_251 (v := .int (iv 78 18)) rfl dX10_readAll_231 ?_
              refine xcVI (pc := 234) 78 [.int 3, .int (iv 78 18)] (m_fail l D tA b iv Fv Gv 3 (iv 78 18)) C0 hH hS clX10 rfl ⟨⟨Nat.le_of_ble_eq_true rfl, Nat.le_of_ble_eq_true rfl⟩, rfl, rfl⟩ cw_X10_254 rfl ⟨Nat.le_of_ble_eq_true rfl, Nat.le_of_ble_eq_true rfl⟩ hl.1 rfl (Nat.le_of_ble_eq_true rfl) dX10_readAll_234 ⟨Nat.le_of_ble_eq_true rfl, Nat.le_of_ble_eq_true rfl⟩ (fun r228 ir228 Fr228 Gr228 _ locs hp hH hS => ?_)
              obtain ⟨hu, rfl⟩ := hp
              cases hu
              have hH : Hd D tA b 78 52 zz (up2 (up2 iv 78 30 3) 78 31 (iv 78 18)) Fv Gv _ := hH
              exact xzret (pc := 237) C0 hr hH hS dX10_readAll_237 (by decide) ⟨(RO.i (RO.i h1 (by decide)) (by decide)), hTK, hT, hCB, (by decide), (fun _ => (show 0 ≤ Int32.toInt (iv 78 18) ∧ Int32.toInt (iv 78 18) ≤ 600 from by first | omega | (have := hTK.2.1 0; omega))), hi_78_17, Or.inl (show 1 ≤ Int32.toInt (iv 78 32) from by omega)⟩
        · have : Int32.toInt 0 = 0 := rfl
          have c215 := congrArg Int32.toInt c215
          have hP := h8 (by have : Int32.toInt 0 = 0 := rfl; omega)
          have hPl := hP.1
          refine lv_aload_n (pc := 96) C0.1 C0.2.1 dX10_readAll_96 rfl (lv_at hl 2 rfl) ?_
          refine xget (pc := 97) C0 hH 78 33 clX10 ⟨Nat.le_of_ble_eq_true rfl, Nat.le_of_ble_eq_true rfl⟩ ⟨rfl, rfl⟩ (Nat.le_of_ble_eq_true rfl) fl_X10_73 (v := .ref (b + 98)) rfl dX10_readAll_97 ?_
          refine lv_aload_n (pc := 100) C0.1 C0.2.1 dX10_readAll_100 rfl (lv_at hl 2 rfl) ?_
          refine xcVI (pc := 101) 78 [] (m_topmost l D tA b iv Fv Gv q.toInt hT hP) C0 hH hS clX10 rfl ⟨⟨Nat.le_of_ble_eq_true rfl, Nat.le_of_ble_eq_true rfl⟩, rfl, rfl⟩ cw_X10_296 rfl ⟨Nat.le_of_ble_eq_true rfl, Nat.le_of_ble_eq_true rfl⟩ hl.1 rfl (Nat.le_of_ble_eq_true rfl) dX10_readAll_101 ⟨Nat.le_of_ble_eq_true rfl, Nat.le_of_ble_eq_true rfl⟩ (fun r229 ir229 Fr229 Gr229 _ locs hp hH hS => ?_)
          obtain ⟨hu, htpr229, htqr229, htzr229⟩ := hp
          cases hu
          have hBtr229 := TMm.bt hT (x := r229) (show 0 ≤ Int32.toInt r229 ∧ Int32.toInt r229 < Int32.toInt (iv 78 32) from htpr229)
          refine xiald (pc := 104) (N := 1202) C0 hH 98 ⟨Nat.le_of_ble_eq_true rfl, Nat.le_of_ble_eq_true rfl⟩ ⟨rfl, rfl⟩ (vI (by omega) (by omega)) dX10_readAll_104 ?_
          refine lv_iconst (pc := 105) (v := 4) C0.1 C0.2.1 dX10_readAll_105 (by decide) ?_
          refine lv_icmp_ne (pc := 106) (tgt := 113) C0.1 C0.2.1 dX10_readAll_106 (by decide) (fun c230 => ?_) (fun c230 => ?_)
          · have : Int32.toInt 4 = 4 := rfl
            have c230 : ¬ _ := fun q => c230 (Int32.toInt_inj.mp q)
            refine lv_iconst (pc := 113) (v := 0) C0.1 C0.2.1 dX10_readAll_113 (by decide) ?_
            refine lv_istore (pc := 114) (lv' := [(5, .int 0), (4, .int q), (3, .int hw), (0, .ref (b + 78)), (2, .int y)]) C0.1 C0.2.1 dX10_readAll_114 hl (by decide) rfl (fun ls hl => ?_)
            refine lv_aload_n (pc := 116) C0.1 C0.2.1 dX10_readAll_116 rfl (lv_at hl 3 rfl) ?_
            refine xget (pc := 117) C0 hH 78 25 clX10 ⟨Nat.le_of_ble_eq_true rfl, Nat.le_of_ble_eq_true rfl⟩ ⟨rfl, rfl⟩ (Nat.le_of_ble_eq_true rfl) fl_X10_57 (v := .ref (b + 93)) rfl dX10_readAll_117 ?_
            refine lv_iload (pc := 120) C0.1 C0.2.1 dX10_readAll_120 (lv_at hl 1 rfl) ?_
            refine lv_aload_n (pc := 122) C0.1 C0.2.1 dX10_readAll_122 rfl (lv_at hl 3 rfl) ?_
            refine xget (pc := 123) C0 hH 78 25 clX10 ⟨Nat.le_of_ble_eq_true rfl, Nat.le_of_ble_eq_true rfl⟩ ⟨rfl, rfl⟩ (Nat.le_of_ble_eq_true rfl) fl_X10_57 (v := .ref (b + 93)) rfl dX10_readAll_123 ?_
            refine lv_iload (pc := 126) C0.1 C0.2.1 dX10_readAll_126 (lv_at hl 1 rfl) ?_
            refine xzald (pc := 128) (N := 600) C0 hH 93 ⟨Nat.le_of_ble_eq_true rfl, Nat.le_of_ble_eq_true rfl⟩ ⟨rfl, rfl⟩ (vI (by omega) (by omega)) dX10_readAll_128 ?_
            refine lv_if_eq (pc := 129) (tgt := 157) C0.1 C0.2.1 dX10_readAll_129 (by decide) (fun c231 => ?_) (fun c231 => ?_)
            · have : Int32.toInt 0 = 0 := rfl
              have c231 := congrArg Int32.toInt c231
              refine lv_iconst (pc := 157) (v := 0) C0.1 C0.2.1 dX10_readAll_157 (by decide) ?_
              refine xzast (pc := 158) (N := 600) C0 (Nat.le_of_ble_eq_true rfl) hH hS 93 ⟨Nat.le_of_ble_eq_true rfl, Nat.le_of_ble_eq_true rfl⟩ ⟨rfl, rfl⟩ (by decide) (vI (by omega) (by omega)) dX10_readAll_158 (fun _ locs hH hS => ?_)
              have hH : Hd D tA b 78 52 zz iv (va_up Fv 93 (upd (Fv 93) (Int32.toNatClampNeg q) 0)) Gv _ := hH
              have hq0 : 0 < q.toInt := by
                rcases Int.lt_or_le 0 q.toInt with w | w
                · exact w
                · exfalso
                  have q0 : q.toInt = 0 := (by omega)
                  have qc := clI (x := q) (by omega)
                  have qn : Int32.toNatClampNeg q = 0 := (by omega)
                  first
                  | (have w1 : Int32.toInt (Fv 93 (Int32.toNatClampNeg q)) = Int32.toInt 0 := (by assumption); rw [qn, h13 q0 (by omega)] at w1; exact absurd w1 (by decide))
                  | (have w1 : Int32.toInt (Fv 98 (Int32.toNatClampNeg r229)) = Int32.toInt 4 := (by assumption); have w2 := htzr229 (by omega); rw [w2, show Int32.toNatClampNeg 0 = 0 from rfl, hP.2.2.2.1] at w1; exact absurd w1 (by decide))
                  | (have : Int32.toInt 0 = 0 := rfl; omega)
              have hd : 0 < q.toInt ∨ (va_up Fv 93 (upd (Fv 93) (Int32.toNatClampNeg q) 0)) 93 (Int32.toNatClampNeg q) = 1 := Or.inl hq0
              have hhw := h11
              have hTK : TKm iv (va_up Fv 93 (upd (Fv 93) (Int32.toNatClampNeg q) 0)) := hTK
              refine lv_aload_n (pc := 159) C0.1 C0.2.1 dX10_readAll_159 rfl (lv_at hl 3 rfl) ?_
              refine lv_iload (pc := 160) C0.1 C0.2.1 dX10_readAll_160 (lv_at hl 1 rfl) ?_
              refine lv_iload_n (pc := 162) C0.1 C0.2.1 dX10_readAll_162 rfl (lv_at hl 2 rfl) ?_
              refine xcVV (pc := 163) 78 [.int q, .int hw] (m_take l D tA b iv (va_up Fv 93 (upd (Fv 93) (Int32.toNatClampNeg q) 0)) Gv q hw hT hP hTK hPI hBR (show 0 < Int32.toInt q ∨ Int32.toInt (iv 78 51) = 1 from by omega) (show 0 ≤ Int32.toInt q ∧ Int32.toInt q < Int32.toInt (iv 78 19) from by omega) hd hhw (show Int32.toInt (iv 78 32) + 2 ≤ 1202 from by omega) (show Int32.toInt (iv 78 40) + 2 ≤ 1202 from by omega) (show Int32.toInt (iv 78 47) + 3 ≤ 1802 from by omega) (show Int32.toInt (iv 78 30) = 0 from by omega)) C0 hH hS clX10 rfl ⟨⟨Nat.le_of_ble_eq_true rfl, Nat.le_of_ble_eq_true rfl⟩, rfl, rfl⟩ cw_X10_340 rfl ⟨Nat.le_of_ble_eq_true rfl, Nat.le_of_ble_eq_true rfl⟩ hl.1 rfl (Nat.le_of_ble_eq_true rfl) dX10_readAll_163 ⟨Nat.le_of_ble_eq_true rfl, Nat.le_of_ble_eq_true rfl⟩ (fun ir232 Fr232 Gr232 _ locs hp hH hS => ?_)
              obtain ⟨honr232, hT, hPI, hP1, hcr232, hblr232⟩ := hp
              have hT : TMm ir232 Fr232 := hT
              have hPI : PLI ir232 := hPI
              have hP1 : (ir232 78 30).toInt = 0 → PMm 1 ir232 Fr232 := hP1
              have hcr232 : (ir232 78 32).toInt ≤ Int32.toInt (iv 78 32) + 2 ∧ (ir232 78 40).toInt ≤ Int32.toInt (iv 78 40) + 2 ∧ (ir232 78 47).toInt ≤ Int32.toInt (iv 78 47) + 3 := hcr232
              have hblr232 : Int32.toInt (iv 78 32) ≤ (ir232 78 32).toInt := hblr232
              have hTL := TMm.lin hT
              have hTK : TKm ir232 Fr232 := TKm.ro (i := iv) (F := (va_up Fv 93 (upd (Fv 93) (Int32.toNatClampNeg q) 0))) hTK honr232 (by decide)
              have hBR : BR ir232 := BR.ro (i := iv) (F := (va_up Fv 93 (upd (Fv 93) (Int32.toNatClampNeg q) 0))) hBR honr232 (by decide)
              have hCB : CB Fr232 := CB.ro (F := (va_up Fv 93 (upd (Fv 93) (Int32.toNatClampNeg q) 0))) hCB honr232 (by decide)
              have hi_78_17 : ir232 78 17 = nI 85 := (honr232.1 78 17 (Or.inr (by decide))).trans hi_78_17
              have ek_19r232 : Int32.toInt (ir232 78 19) = Int32.toInt (iv 78 19) := congrArg Int32.toInt (honr232.1 78 19 (Or.inr (by decide)))
              have ek_18r232 : Int32.toInt (ir232 78 18) = Int32.toInt (iv 78 18) := congrArg Int32.toInt (honr232.1 78 18 (Or.inr (by decide)))
              have hTKl := hTK.1
              refine lv_aload_n (pc := 166) C0.1 C0.2.1 dX10_readAll_166 rfl (lv_at hl 3 rfl) ?_
              refine lv_aload_n (pc := 167) C0.1 C0.2.1 dX10_readAll_167 rfl (lv_at hl 3 rfl) ?_
              refine xget (pc := 168) C0 hH 78 25 clX10 ⟨Nat.le_of_ble_eq_true rfl, Nat.le_of_ble_eq_true rfl⟩ ⟨rfl, rfl⟩ (Nat.le_of_ble_eq_true rfl) fl_X10_57 (v := .ref (b + 93)) rfl dX10_readAll_168 ?_
              refine lv_iload (pc := 171) C0.1 C0.2.1 dX10_readAll_171 (lv_at hl 1 rfl) ?_
              refine xzald (pc := 173) (N := 600) C0 hH 93 ⟨Nat.le_of_ble_eq_true rfl, Nat.le_of_ble_eq_true rfl⟩ ⟨rfl, rfl⟩ (vI (by omega) (by omega)) dX10_readAll_173 ?_
              refine lv_if_eq (pc := 174) (tgt := 187) C0.1 C0.2.1 dX10_readAll_174 (by decide) (fun c233 => ?_) (fun c233 => ?_)
              · have : Int32.toInt 0 = 0 := rfl
                have c233 := congrArg Int32.toInt c233
                refine lv_aload_n (pc := 187) C0.1 C0.2.1 dX10_readAll_187 rfl (lv_at hl 3 rfl) ?_
                refine xget (pc := 188) C0 hH 78 52 clX10 ⟨Nat.le_of_ble_eq_true rfl, Nat.le_of_ble_eq_true rfl⟩ ⟨rfl, rfl⟩ (Nat.le_of_ble_eq_true rfl) fl_X10_313 (v := .int (ir232 78 52)) rfl dX10_readAll_188 ?_
                refine lv_topi (fun x234 ex234 => ?_)
                refine xputI (pc := 191) C0 (Nat.le_of_ble_eq_true rfl) hH hS 78 52 clX10 ⟨Nat.le_of_ble_eq_true rfl, Nat.le_of_ble_eq_true rfl⟩ ⟨rfl, rfl⟩ ⟨Nat.le_of_ble_eq_true rfl, rfl, rfl⟩ fl_X10_313 (x := x234) ⟨rfl, rfl⟩ dX10_readAll_191 (fun _ locs hH hS _ => ?_)
                have hH : Hd D tA b 78 52 zz (up2 ir232 78 52 x234) Fr232 Gr232 _ := hH
                refine lv_iload (pc := 194) C0.1 C0.2.1 dX10_readAll_194 (lv_at hl 0 rfl) ?_
                refine lv_if_eq (pc := 196) (tgt := 203) C0.1 C0.2.1 dX10_readAll_196 (by decide) (fun _ => ?_) (fun c => absurd (by decide) c)
                refine lv_aload_n (pc := 203) C0.1 C0.2.1 dX10_readAll_203 rfl (lv_at hl 3 rfl) ?_
                refine lv_iload (pc := 204) C0.1 C0.2.1 dX10_readAll_204 (lv_at hl 1 rfl) ?_
                refine xcVI (pc := 206) 78 [.int q] (m_openerOf l D tA b (up2 ir232 78 52 x234) Fr232 Gr232 q hBR (by omega)) C0 hH hS clX10 rfl ⟨⟨Nat.le_of_ble_eq_true rfl, Nat.le_of_ble_eq_true rfl⟩, rfl, rfl⟩ cw_X10_343 rfl ⟨Nat.le_of_ble_eq_true rfl, Nat.le_of_ble_eq_true rfl⟩ hl.1 rfl (Nat.le_of_ble_eq_true rfl) dX10_readAll_206 ⟨Nat.le_of_ble_eq_true rfl, Nat.le_of_ble_eq_true rfl⟩ (fun r235 ir235 Fr235 Gr235 _ locs hp hH hS => ?_)
                obtain ⟨hu, hpr235⟩ := hp
                cases hu
                refine lv_istore_n (pc := 209) (lv' := [(3, .int r235), (5, .int 0), (4, .int q), (0, .ref (b + 78)), (2, .int y)]) C0.1 C0.2.1 dX10_readAll_209 rfl hl (by decide) rfl (fun ls hl => ?_)
                obtain ⟨x236, ex236⟩ : ∃ y_ : Int32, y_ = q + 1 := ⟨_, rfl⟩
                have : Int32.toInt 1 = 1 := rfl
                have hx236 : Int32.toInt x236 = Int32.toInt q + Int32.toInt 1 := by rw [ex236]; exact fb_addI (by omega) (by omega)
                refine lv_iinc (pc := 210) (v := x236) (lv' := [(4, .int x236), (3, .int r235), (5, .int 0), (0, .ref (b + 78)), (2, .int y)]) C0.1 C0.2.1 dX10_readAll_210 hl (k := 2) rfl (by rw [ex236]; rfl) (by decide) rfl (fun ls hl => ?_)
                refine lv_goto (pc := 213) (tgt := 80) C0.1 C0.2.1 dX10_readAll_213 (by decide) ?_
                exact ih80 x236 r235 (up2 ir232 78 52 x234) Fr232 Gr232 _ _ _ (RO.i (RO.tr (RO.f h1 (by decide)) honr232 (by decide) (by decide)) (by decide)) hT hTK hPI hCB (show Int32.toInt (ir232 78 18) = _ from by omega) hi_78_17 (fun w => PMm.one (hP1 w) (by decide)) (show 0 ≤ Int32.toInt x236 ∧ Int32.toInt x236 ≤ Int32.toInt (ir232 78 19) from by omega) (show Int32.toInt (ir232 78 19) - Int32.toInt x236 ≤ _ from by omega) (fun _ => by omega) (show (1 ≤ Int32.toInt (ir232 78 32) ∧ Int32.toInt (ir232 78 32) ≤ 1 + 2 * Int32.toInt x236) ∧ Int32.toInt (ir232 78 40) ≤ 2 * Int32.toInt x236 ∧ Int32.toInt (ir232 78 47) ≤ 3 * Int32.toInt x236 + 1 from by omega) (fun w => absurd w (by omega)) (Or.inl (by omega)) hH hS (lv_sub hl [0, 1, 3, 4] rfl)
              · have : Int32.toInt 0 = 0 := rfl
                have c233 : ¬ _ := fun q => c233 (Int32.toInt_inj.mp q)
                refine lv_aload_n (pc := 177) C0.1 C0.2.1 dX10_readAll_177 rfl (lv_at hl 3 rfl) ?_
                refine xget (pc := 178) C0 hH 78 24 clX10 ⟨Nat.le_of_ble_eq_true rfl, Nat.le_of_ble_eq_true rfl⟩ ⟨rfl, rfl⟩ (Nat.le_of_ble_eq_true rfl) fl_X10_54 (v := .ref (b + 92)) rfl dX10_readAll_178 ?_
                refine lv_iload (pc := 181) C0.1 C0.2.1 dX10_readAll_181 (lv_at hl 1 rfl) ?_
                refine xiald (pc := 183) (N := 600) C0 hH 92 ⟨Nat.le_of_ble_eq_true rfl, Nat.le_of_ble_eq_true rfl⟩ ⟨rfl, rfl⟩ (vI (by omega) (by omega)) dX10_readAll_183 ?_
                refine lv_goto (pc := 184) (tgt := 191) C0.1 C0.2.1 dX10_readAll_184 (by decide) ?_
                refine lv_topi (fun x237 ex237 => ?_)
                refine xputI (pc := 191) C0 (Nat.le_of_ble_eq_true rfl) hH hS 78 52 clX10 ⟨Nat.le_of_ble_eq_true rfl, Nat.le_of_ble_eq_true rfl⟩ ⟨rfl, rfl⟩ ⟨Nat.le_of_ble_eq_true rfl, rfl, rfl⟩ fl_X10_313 (x := x237) ⟨rfl, rfl⟩ dX10_readAll_191 (fun _ locs hH hS _ => ?_)
                have hH : Hd D tA b 78 52 zz (up2 ir232 78 52 x237) Fr232 Gr232 _ := hH
                refine lv_iload (pc := 194) C0.1 C0.2.1 dX10_readAll_194 (lv_at hl 0 rfl) ?_
                refine lv_if_eq (pc := 196) (tgt := 203) C0.1 C0.2.1 dX10_readAll_196 (by decide) (fun _ => ?_) (fun c => absurd (by decide) c)
                refine lv_aload_n (pc := 203) C0.1 C0.2.1 dX10_readAll_203 rfl (lv_at hl 3 rfl) ?_
                refine lv_iload (pc := 204) C0.1 C0.2.1 dX10_readAll_204 (lv_at hl 1 rfl) ?_
                refine xcVI (pc := 206) 78 [.int q] (m_openerOf l D tA b (up2 ir232 78 52 x237) Fr232 Gr232 q hBR (by omega)) C0 hH hS clX10 rfl ⟨⟨Nat.le_of_ble_eq_true rfl, Nat.le_of_ble_eq_true rfl⟩, rfl, rfl⟩ cw_X10_343 rfl ⟨Nat.le_of_ble_eq_true rfl, Nat.le_of_ble_eq_true rfl⟩ hl.1 rfl (Nat.le_of_ble_eq_true rfl) dX10_readAll_206 ⟨Nat.le_of_ble_eq_true rfl, Nat.le_of_ble_eq_true rfl⟩ (fun r238 ir238 Fr238 Gr238 _ locs hp hH hS => ?_)
                obtain ⟨hu, hpr238⟩ := hp
                cases hu
                refine lv_istore_n (pc := 209) (lv' := [(3, .int r238), (5, .int 0), (4, .int q), (0, .ref (b + 78)), (2, .int y)]) C0.1 C0.2.1 dX10_readAll_209 rfl hl (by decide) rfl (fun ls hl => ?_)
                obtain ⟨x239, ex239⟩ : ∃ y_ : Int32, y_ = q + 1 := ⟨_, rfl⟩
                have : Int32.toInt 1 = 1 := rfl
                have hx239 : Int32.toInt x239 = Int32.toInt q + Int32.toInt 1 := by rw [ex239]; exact fb_addI (by omega) (by omega)
                refine lv_iinc (pc := 210) (v := x239) (lv' := [(4, .int x239), (3, .int r238), (5, .int 0), (0, .ref (b + 78)), (2, .int y)]) C0.1 C0.2.1 dX10_readAll_210 hl (k := 2) rfl (by rw [ex239]; rfl) (by decide) rfl (fun ls hl => ?_)
                refine lv_goto (pc := 213) (tgt := 80) C0.1 C0.2.1 dX10_readAll_213 (by decide) ?_
                exact ih80 x239 r238 (up2 ir232 78 52 x237) Fr232 Gr232 _ _ _ (RO.i (RO.tr (RO.f h1 (by decide)) honr232 (by decide) (by decide)) (by decide)) hT hTK hPI hCB (show Int32.toInt (ir232 78 18) = _ from by omega) hi_78_17 (fun w => PMm.one (hP1 w) (by decide)) (show 0 ≤ Int32.toInt x239 ∧ Int32.toInt x239 ≤ Int32.toInt (ir232 78 19) from by omega) (show Int32.toInt (ir232 78 19) - Int32.toInt x239 ≤ _ from by omega) (fun _ => by omega) (show (1 ≤ Int32.toInt (ir232 78 32) ∧ Int32.toInt (ir232 78 32) ≤ 1 + 2 * Int32.toInt x239) ∧ Int32.toInt (ir232 78 40) ≤ 2 * Int32.toInt x239 ∧ Int32.toInt (ir232 78 47) ≤ 3 * Int32.toInt x239 + 1 from by omega) (fun w => absurd w (by omega)) (Or.inl (by omega)) hH hS (lv_sub hl [0, 1, 3, 4] rfl)
            · have : Int32.toInt 0 = 0 := rfl
              have c231 : ¬ _ := fun q => c231 (Int32.toInt_inj.mp q)
              refine lv_iload (pc := 132) C0.1 C0.2.1 dX10_readAll_132 (lv_at hl 0 rfl) ?_
              refine lv_if_ne (pc := 134) (tgt := 157) C0.1 C0.2.1 dX10_readAll_134 (by decide) (fun c => absurd (by decide) c) (fun _ => ?_)
              refine lv_iload (pc := 137) C0.1 C0.2.1 dX10_readAll_137 (lv_at hl 1 rfl) ?_
              refine lv_if_eq (pc := 139) (tgt := 153) C0.1 C0.2.1 dX10_readAll_139 (by decide) (fun c240 => ?_) (fun c240 => ?_)
              · have : Int32.toInt 0 = 0 := rfl
                have c240 := congrArg Int32.toInt c240
                refine lv_iconst (pc := 153) (v := 1) C0.1 C0.2.1 dX10_readAll_153 (by decide) ?_
                refine lv_goto (pc := 154) (tgt := 158) C0.1 C0.2.1 dX10_readAll_154 (by decide) ?_
                refine xzast (pc := 158) (N := 600) C0 (Nat.le_of_ble_eq_true rfl) hH hS 93 ⟨Nat.le_of_ble_eq_true rfl, Nat.le_of_ble_eq_true rfl⟩ ⟨rfl, rfl⟩ (by decide) (vI (by omega) (by omega)) dX10_readAll_158 (fun _ locs hH hS => ?_)
                have hH : Hd D tA b 78 52 zz iv (va_up Fv 93 (upd (Fv 93) (Int32.toNatClampNeg q) 1)) Gv _ := hH
                have hd : 0 < q.toInt ∨ (va_up Fv 93 (upd (Fv 93) (Int32.toNatClampNeg q) 1)) 93 (Int32.toNatClampNeg q) = 1 := Or.inr (show upd (Fv 93) (Int32.toNatClampNeg q) 1 (Int32.toNatClampNeg q) = 1 from upd_s)
                have hhw := h11
                have hTK : TKm iv (va_up Fv 93 (upd (Fv 93) (Int32.toNatClampNeg q) 1)) := hTK
                refine lv_aload_n (pc := 159) C0.1 C0.2.1 dX10_readAll_159 rfl (lv_at hl 3 rfl) ?_
                refine lv_iload (pc := 160) C0.1 C0.2.1 dX10_readAll_160 (lv_at hl 1 rfl) ?_
                refine lv_iload_n (pc := 162) C0.1 C0.2.1 dX10_readAll_162 rfl (lv_at hl 2 rfl) ?_
                refine xcVV (pc := 163) 78 [.int q, .int hw] (m_take l D tA b iv (va_up Fv 93 (upd (Fv 93) (Int32.toNatClampNeg q) 1)) Gv q hw hT hP hTK hPI hBR (show 0 < Int32.toInt q ∨ Int32.toInt (iv 78 51) = 1 from by omega) (show 0 ≤ Int32.toInt q ∧ Int32.toInt q < Int32.toInt (iv 78 19) from by omega) hd hhw (show Int32.toInt (iv 78 32) + 2 ≤ 1202 from by omega) (show Int32.toInt (iv 78 40) + 2 ≤ 1202 from by omega) (show Int32.toInt (iv 78 47) + 3 ≤ 1802 from by omega) (show Int32.toInt (iv 78 30) = 0 from by omega)) C0 hH hS clX10 rfl ⟨⟨Nat.le_of_ble_eq_true rfl, Nat.le_of_ble_eq_true rfl⟩, rfl, rfl⟩ cw_X10_340 rfl ⟨Nat.le_of_ble_eq_true rfl, Nat.le_of_ble_eq_true rfl⟩ hl.1 rfl (Nat.le_of_ble_eq_true rfl) dX10_readAll_163 ⟨Nat.le_of_ble_eq_true rfl, Nat.le_of_ble_eq_true rfl⟩ (fun ir241 Fr241 Gr241 _ locs hp hH hS => ?_)
                obtain ⟨honr241, hT, hPI, hP1, hcr241, hblr241⟩ := hp
                have hT : TMm ir241 Fr241 := hT
                have hPI : PLI ir241 := hPI
                have hP1 : (ir241 78 30).toInt = 0 → PMm 1 ir241 Fr241 := hP1
                have hcr241 : (ir241 78 32).toInt ≤ Int32.toInt (iv 78 32) + 2 ∧ (ir241 78 40).toInt ≤ Int32.toInt (iv 78 40) + 2 ∧ (ir241 78 47).toInt ≤ Int32.toInt (iv 78 47) + 3 := hcr241
                have hblr241 : Int32.toInt (iv 78 32) ≤ (ir241 78 32).toInt := hblr241
                have hTL := TMm.lin hT
                have hTK : TKm ir241 Fr241 := TKm.ro (i := iv) (F := (va_up Fv 93 (upd (Fv 93) (Int32.toNatClampNeg q) 1))) hTK honr241 (by decide)
                have hBR : BR ir241 := BR.ro (i := iv) (F := (va_up Fv 93 (upd (Fv 93) (Int32.toNatClampNeg q) 1))) hBR honr241 (by decide)
                have hCB : CB Fr241 := CB.ro (F := (va_up Fv 93 (upd (Fv 93) (Int32.toNatClampNeg q) 1))) hCB honr241 (by decide)
                have hi_78_17 : ir241 78 17 = nI 85 := (honr241.1 78 17 (Or.inr (by decide))).trans hi_78_17
                have ek_19r241 : Int32.toInt (ir241 78 19) = Int32.toInt (iv 78 19) := congrArg Int32.toInt (honr241.1 78 19 (Or.inr (by decide)))
                have ek_18r241 : Int32.toInt (ir241 78 18) = Int32.toInt (iv 78 18) := congrArg Int32.toInt (honr241.1 78 18 (Or.inr (by decide)))
                have hTKl := hTK.1
                refine lv_aload_n (pc := 166) C0.1 C0.2.1 dX10_readAll_166 rfl (lv_at hl 3 rfl) ?_
                refine lv_aload_n (pc := 167) C0.1 C0.2.1 dX10_readAll_167 rfl (lv_at hl 3 rfl) ?_
                refine xget (pc := 168) C0 hH 78 25 clX10 ⟨Nat.le_of_ble_eq_true rfl, Nat.le_of_ble_eq_true rfl⟩ ⟨rfl, rfl⟩ (Nat.le_of_ble_eq_true rfl) fl_X10_57 (v := .ref (b + 93)) rfl dX10_readAll_168 ?_
                refine lv_iload (pc := 171) C0.1 C0.2.1 dX10_readAll_171 (lv_at hl 1 rfl) ?_
                refine xzald (pc := 173) (N := 600) C0 hH 93 ⟨Nat.le_of_ble_eq_true rfl, Nat.le_of_ble_eq_true rfl⟩ ⟨rfl, rfl⟩ (vI (by omega) (by omega)) dX10_readAll_173 ?_
                refine lv_if_eq (pc := 174) (tgt := 187) C0.1 C0.2.1 dX10_readAll_174 (by decide) (fun c242 => ?_) (fun c242 => ?_)
                · have : Int32.toInt 0 = 0 := rfl
                  have c242 := congrArg Int32.toInt c242
                  refine lv_aload_n (pc := 187) C0.1 C0.2.1 dX10_readAll_187 rfl (lv_at hl 3 rfl) ?_
                  refine xget (pc := 188) C0 hH 78 52 clX10 ⟨Nat.le_of_ble_eq_true rfl, Nat.le_of_ble_eq_true rfl⟩ ⟨rfl, rfl⟩ (Nat.le_of_ble_eq_true rfl) fl_X10_313 (v := .int (ir241 78 52)) rfl dX10_readAll_188 ?_
                  refine lv_topi (fun x243 ex243 => ?_)
                  refine xputI (pc := 191) C0 (Nat.le_of_ble_eq_true rfl) hH hS 78 52 clX10 ⟨Nat.le_of_ble_eq_true rfl, Nat.le_of_ble_eq_true rfl⟩ ⟨rfl, rfl⟩ ⟨Nat.le_of_ble_eq_true rfl, rfl, rfl⟩ fl_X10_313 (x := x243) ⟨rfl, rfl⟩ dX10_readAll_191 (fun _ locs hH hS _ => ?_)
                  have hH : Hd D tA b 78 52 zz (up2 ir241 78 52 x243) Fr241 Gr241 _ := hH
                  refine lv_iload (pc := 194) C0.1 C0.2.1 dX10_readAll_194 (lv_at hl 0 rfl) ?_
                  refine lv_if_eq (pc := 196) (tgt := 203) C0.1 C0.2.1 dX10_readAll_196 (by decide) (fun _ => ?_) (fun c => absurd (by decide) c)
                  refine lv_aload_n (pc := 203) C0.1 C0.2.1 dX10_readAll_203 rfl (lv_at hl 3 rfl) ?_
                  refine lv_iload (pc := 204) C0.1 C0.2.1 dX10_readAll_204 (lv_at hl 1 rfl) ?_
                  refine xcVI (pc := 206) 78 [.int q] (m_openerOf l D tA b (up2 ir241 78 52 x243) Fr241 Gr241 q hBR (by omega)) C0 hH hS clX10 rfl ⟨⟨Nat.le_of_ble_eq_true rfl, Nat.le_of_ble_eq_true rfl⟩, rfl, rfl⟩ cw_X10_343 rfl ⟨Nat.le_of_ble_eq_true rfl, Nat.le_of_ble_eq_true rfl⟩ hl.1 rfl (Nat.le_of_ble_eq_true rfl) dX10_readAll_206 ⟨Nat.le_of_ble_eq_true rfl, Nat.le_of_ble_eq_true rfl⟩ (fun r244 ir244 Fr244 Gr244 _ locs hp hH hS => ?_)
                  obtain ⟨hu, hpr244⟩ := hp
                  cases hu
                  refine lv_istore_n (pc := 209) (lv' := [(3, .int r244), (5, .int 0), (4, .int q), (0, .ref (b + 78)), (2, .int y)]) C0.1 C0.2.1 dX10_readAll_209 rfl hl (by decide) rfl (fun ls hl => ?_)
                  obtain ⟨x245, ex245⟩ : ∃ y_ : Int32, y_ = q + 1 := ⟨_, rfl⟩
                  have : Int32.toInt 1 = 1 := rfl
                  have hx245 : Int32.toInt x245 = Int32.toInt q + Int32.toInt 1 := by rw [ex245]; exact fb_addI (by omega) (by omega)
                  refine lv_iinc (pc := 210) (v := x245) (lv' := [(4, .int x245), (3, .int r244), (5, .int 0), (0, .ref (b + 78)), (2, .int y)]) C0.1 C0.2.1 dX10_readAll_210 hl (k := 2) rfl (by rw [ex245]; rfl) (by decide) rfl (fun ls hl => ?_)
                  refine lv_goto (pc := 213) (tgt := 80) C0.1 C0.2.1 dX10_readAll_213 (by decide) ?_
                  exact ih80 x245 r244 (up2 ir241 78 52 x243) Fr241 Gr241 _ _ _ (RO.i (RO.tr (RO.f h1 (by decide)) honr241 (by decide) (by decide)) (by decide)) hT hTK hPI hCB (show Int32.toInt (ir241 78 18) = _ from by omega) hi_78_17 (fun w => PMm.one (hP1 w) (by decide)) (show 0 ≤ Int32.toInt x245 ∧ Int32.toInt x245 ≤ Int32.toInt (ir241 78 19) from by omega) (show Int32.toInt (ir241 78 19) - Int32.toInt x245 ≤ _ from by omega) (fun _ => by omega) (show (1 ≤ Int32.toInt (ir241 78 32) ∧ Int32.toInt (ir241 78 32) ≤ 1 + 2 * Int32.toInt x245) ∧ Int32.toInt (ir241 78 40) ≤ 2 * Int32.toInt x245 ∧ Int32.toInt (ir241 78 47) ≤ 3 * Int32.toInt x245 + 1 from by omega) (fun w => absurd w (by omega)) (Or.inl (by omega)) hH hS (lv_sub hl [0, 1, 3, 4] rfl)
                · have : Int32.toInt 0 = 0 := rfl
                  have c242 : ¬ _ := fun q => c242 (Int32.toInt_inj.mp q)
                  refine lv_aload_n (pc := 177) C0.1 C0.2.1 dX10_readAll_177 rfl (lv_at hl 3 rfl) ?_
                  refine xget (pc := 178) C0 hH 78 24 clX10 ⟨Nat.le_of_ble_eq_true rfl, Nat.le_of_ble_eq_true rfl⟩ ⟨rfl, rfl⟩ (Nat.le_of_ble_eq_true rfl) fl_X10_54 (v := .ref (b + 92)) rfl dX10_readAll_178 ?_
                  refine lv_iload (pc := 181) C0.1 C0.2.1 dX10_readAll_181 (lv_at hl 1 rfl) ?_
                  refine xiald (pc := 183) (N := 600) C0 hH 92 ⟨Nat.le_of_ble_eq_true rfl, Nat.le_of_ble_eq_true rfl⟩ ⟨rfl, rfl⟩ (vI (by omega) (by omega)) dX10_readAll_183 ?_
                  refine lv_goto (pc := 184) (tgt := 191) C0.1 C0.2.1 dX10_readAll_184 (by decide) ?_
                  refine lv_topi (fun x246 ex246 => ?_)
                  refine xputI (pc := 191) C0 (Nat.le_of_ble_eq_true rfl) hH hS 78 52 clX10 ⟨Nat.le_of_ble_eq_true rfl, Nat.le_of_ble_eq_true rfl⟩ ⟨rfl, rfl⟩ ⟨Nat.le_of_ble_eq_true rfl, rfl, rfl⟩ fl_X10_313 (x := x246) ⟨rfl, rfl⟩ dX10_readAll_191 (fun _ locs hH hS _ => ?_)
                  have hH : Hd D tA b 78 52 zz (up2 ir241 78 52 x246) Fr241 Gr241 _ := hH
                  refine lv_iload (pc := 194) C0.1 C0.2.1 dX10_readAll_194 (lv_at hl 0 rfl) ?_
                  refine lv_if_eq (pc := 196) (tgt := 203) C0.1 C0.2.1 dX10_readAll_196 (by decide) (fun _ => ?_) (fun c => absurd (by decide) c)
                  refine lv_aload_n (pc := 203) C0.1 C0.2.1 dX10_readAll_203 rfl (lv_at hl 3 rfl) ?_
                  refine lv_iload (pc := 204) C0.1 C0.2.1 dX10_readAll_204 (lv_at hl 1 rfl) ?_
                  refine xcVI (pc := 206) 78 [.int q] (m_openerOf l D tA b (up2 ir241 78 52 x246) Fr241 Gr241 q hBR (by omega)) C0 hH hS clX10 rfl ⟨⟨Nat.le_of_ble_eq_true rfl, Nat.le_of_ble_eq_true rfl⟩, rfl, rfl⟩ cw_X10_343 rfl ⟨Nat.le_of_ble_eq_true rfl, Nat.le_of_ble_eq_true rfl⟩ hl.1 rfl (Nat.le_of_ble_eq_true rfl) dX10_readAll_206 ⟨Nat.le_of_ble_eq_true rfl, Nat.le_of_ble_eq_true rfl⟩ (fun r247 ir247 Fr247 Gr247 _ locs hp hH hS => ?_)
                  obtain ⟨hu, hpr247⟩ := hp
                  cases hu
                  refine lv_istore_n (pc := 209) (lv' := [(3, .int r247), (5, .int 0), (4, .int q), (0, .ref (b + 78)), (2, .int y)]) C0.1 C0.2.1 dX10_readAll_209 rfl hl (by decide) rfl (fun ls hl => ?_)
                  obtain ⟨x248, ex248⟩ : ∃ y_ : Int32, y_ = q + 1 := ⟨_, rfl⟩
                  have : Int32.toInt 1 = 1 := rfl
                  have hx248 : Int32.toInt x248 = Int32.toInt q + Int32.toInt 1 := by rw [ex248]; exact fb_addI (by omega) (by omega)
                  refine lv_iinc (pc := 210) (v := x248) (lv' := [(4, .int x248), (3, .int r247), (5, .int 0), (0, .ref (b + 78)), (2, .int y)]) C0.1 C0.2.1 dX10_readAll_210 hl (k := 2) rfl (by rw [ex248]; rfl) (by decide) rfl (fun ls hl => ?_)
                  refine lv_goto (pc := 213) (tgt := 80) C0.1 C0.2.1 dX10_readAll_213 (by decide) ?_
                  exact ih80 x248 r247 (up2 ir241 78 52 x246) Fr241 Gr241 _ _ _ (RO.i (RO.tr (RO.f h1 (by decide)) honr241 (by decide) (by decide)) (by decide)) hT hTK hPI hCB (show Int32.toInt (ir241 78 18) = _ from by omega) hi_78_17 (fun w => PMm.one (hP1 w) (by decide)) (show 0 ≤ Int32.toInt x248 ∧ Int32.toInt x248 ≤ Int32.toInt (ir241 78 19) from by omega) (show Int32.toInt (ir241 78 19) - Int32.toInt x248 ≤ _ from by omega) (fun _ => by omega) (show (1 ≤ Int32.toInt (ir241 78 32) ∧ Int32.toInt (ir241 78 32) ≤ 1 + 2 * Int32.toInt x248) ∧ Int32.toInt (ir241 78 40) ≤ 2 * Int32.toInt x248 ∧ Int32.toInt (ir241 78 47) ≤ 3 * Int32.toInt x248 + 1 from by omega) (fun w => absurd w (by omega)) (Or.inl (by omega)) hH hS (lv_sub hl [0, 1, 3, 4] rfl)
              · have : Int32.toInt 0 = 0 := rfl
                have c240 : ¬ _ := fun q => c240 (Int32.toInt_inj.mp q)
                refine lv_aload_n (pc := 142) C0.1 C0.2.1 dX10_readAll_142 rfl (lv_at hl 3 rfl) ?_
                refine lv_iload (pc := 143) C0.1 C0.2.1 dX10_readAll_143 (lv_at hl 1 rfl) ?_
                refine lv_iconst (pc := 145) (v := 1) C0.1 C0.2.1 dX10_readAll_145 (by decide) ?_
                have : Int32.toInt 1 = 1 := rfl
                refine lv_isub (pc := 146) C0.1 C0.2.1 dX10_readAll_146 ?_
                refine lv_topi (fun x249 ex249 => ?_)
                have hx249 : Int32.toInt x249 = Int32.toInt q - Int32.toInt 1 := by rw [ex249]; exact fb_subI (by omega) (by omega)
                refine xcVI (pc := 147) 78 [.int x249] (m_isGoer l D tA b iv Fv Gv x249 hBR (by omega)) C0 hH hS clX10 rfl ⟨⟨Nat.le_of_ble_eq_true rfl, Nat.le_of_ble_eq_true rfl⟩, rfl, rfl⟩ cw_X10_337 rfl ⟨Nat.le_of_ble_eq_true rfl, Nat.le_of_ble_eq_true rfl⟩ hl.1 rfl (Nat.le_of_ble_eq_true rfl) dX10_readAll_147 ⟨Nat.le_of_ble_eq_true rfl, Nat.le_of_ble_eq_true rfl⟩ (fun r250 ir250 Fr250 Gr250 _ locs hp hH hS => ?_)
                obtain ⟨hu, hpr250⟩ := hp
                cases hu
                refine lv_if_ne (pc := 150) (tgt := 157) C0.1 C0.2.1 dX10_readAll_150 (by decide) (fun c251 => ?_) (fun c251 => ?_)
                · have : Int32.toInt 0 = 0 := rfl
                  have c251 : ¬ _ := fun q => c251 (Int32.toInt_inj.mp q)
                  refine lv_iconst (pc := 157) (v := 0) C0.1 C0.2.1 dX10_readAll_157 (by decide) ?_
                  refine xzast (pc := 158) (N := 600) C0 (Nat.le_of_ble_eq_true rfl) hH hS 93 ⟨Nat.le_of_ble_eq_true rfl, Nat.le_of_ble_eq_true rfl⟩ ⟨rfl, rfl⟩ (by decide) (vI (by omega) (by omega)) dX10_readAll_158 (fun _ locs hH hS => ?_)
                  have hH : Hd D tA b 78 52 zz iv (va_up Fv 93 (upd (Fv 93) (Int32.toNatClampNeg q) 0)) Gv _ := hH
                  have hq0 : 0 < q.toInt := by
                    rcases Int.lt_or_le 0 q.toInt with w | w
                    · exact w
                    · exfalso
                      have q0 : q.toInt = 0 := (by omega)
                      have qc := clI (x := q) (by omega)
                      have qn : Int32.toNatClampNeg q = 0 := (by omega)
                      first
                      | (have w1 : Int32.toInt (Fv 93 (Int32.toNatClampNeg q)) = Int32.toInt 0 := (by assumption); rw [qn, h13 q0 (by omega)] at w1; exact absurd w1 (by decide))
                      | (have w1 : Int32.toInt (Fv 98 (Int32.toNatClampNeg r229)) = Int32.toInt 4 := (by assumption); have w2 := htzr229 (by omega); rw [w2, show Int32.toNatClampNeg 0 = 0 from rfl, hP.2.2.2.1] at w1; exact absurd w1 (by decide))
                      | (have : Int32.toInt 0 = 0 := rfl; omega)
                  have hd : 0 < q.toInt ∨ (va_up Fv 93 (upd (Fv 93) (Int32.toNatClampNeg q) 0)) 93 (Int32.toNatClampNeg q) = 1 := Or.inl hq0
                  have hhw := h11
                  have hTK : TKm iv (va_up Fv 93 (upd (Fv 93) (Int32.toNatClampNeg q) 0)) := hTK
                  refine lv_aload_n (pc := 159) C0.1 C0.2.1 dX10_readAll_159 rfl (lv_at hl 3 rfl) ?_
                  refine lv_iload (pc := 160) C0.1 C0.2.1 dX10_readAll_160 (lv_at hl 1 rfl) ?_
                  refine lv_iload_n (pc := 162) C0.1 C0.2.1 dX10_readAll_162 rfl (lv_at hl 2 rfl) ?_
                  refine xcVV (pc := 163) 78 [.int q, .int hw] (m_take l D tA b iv (va_up Fv 93 (upd (Fv 93) (Int32.toNatClampNeg q) 0)) Gv q hw hT hP hTK hPI hBR (show 0 < Int32.toInt q ∨ Int32.toInt (iv 78 51) = 1 from by omega) (show 0 ≤ Int32.toInt q ∧ Int32.toInt q < Int32.toInt (iv 78 19) from by omega) hd hhw (show Int32.toInt (iv 78 32) + 2 ≤ 1202 from by omega) (show Int32.toInt (iv 78 40) + 2 ≤ 1202 from by omega) (show Int32.toInt (iv 78 47) + 3 ≤ 1802 from by omega) (show Int32.toInt (iv 78 30) = 0 from by omega)) C0 hH hS clX10 rfl ⟨⟨Nat.le_of_ble_eq_true rfl, Nat.le_of_ble_eq_true rfl⟩, rfl, rfl⟩ cw_X10_340 rfl ⟨Nat.le_of_ble_eq_true rfl, Nat.le_of_ble_eq_true rfl⟩ hl.1 rfl (Nat.le_of_ble_eq_true rfl) dX10_readAll_163 ⟨Nat.le_of_ble_eq_true rfl, Nat.le_of_ble_eq_true rfl⟩ (fun ir252 Fr252 Gr252 _ locs hp hH hS => ?_)
                  obtain ⟨honr252, hT, hPI, hP1, hcr252, hblr252⟩ := hp
                  have hT : TMm ir252 Fr252 := hT
                  have hPI : PLI ir252 := hPI
                  have hP1 : (ir252 78 30).toInt = 0 → PMm 1 ir252 Fr252 := hP1
                  have hcr252 : (ir252 78 32).toInt ≤ Int32.toInt (iv 78 32) + 2 ∧ (ir252 78 40).toInt ≤ Int32.toInt (iv 78 40) + 2 ∧ (ir252 78 47).toInt ≤ Int32.toInt (iv 78 47) + 3 := hcr252
                  have hblr252 : Int32.toInt (iv 78 32) ≤ (ir252 78 32).toInt := hblr252
                  have hTL := TMm.lin hT
                  have hTK : TKm ir252 Fr252 := TKm.ro (i := iv) (F := (va_up Fv 93 (upd (Fv 93) (Int32.toNatClampNeg q) 0))) hTK honr252 (by decide)
                  have hBR : BR ir252 := BR.ro (i := iv) (F := (va_up Fv 93 (upd (Fv 93) (Int32.toNatClampNeg q) 0))) hBR honr252 (by decide)
                  have hCB : CB Fr252 := CB.ro (F := (va_up Fv 93 (upd (Fv 93) (Int32.toNatClampNeg q) 0))) hCB honr252 (by decide)
                  have hi_78_17 : ir252 78 17 = nI 85 := (honr252.1 78 17 (Or.inr (by decide))).trans hi_78_17
                  have ek_19r252 : Int32.toInt (ir252 78 19) = Int32.toInt (iv 78 19) := congrArg Int32.toInt (honr252.1 78 19 (Or.inr (by decide)))
                  have ek_18r252 : Int32.toInt (ir252 78 18) = Int32.toInt (iv 78 18) := congrArg Int32.toInt (honr252.1 78 18 (Or.inr (by decide)))
                  have hTKl := hTK.1
                  refine lv_aload_n (pc := 166) C0.1 C0.2.1 dX10_readAll_166 rfl (lv_at hl 3 rfl) ?_
                  refine lv_aload_n (pc := 167) C0.1 C0.2.1 dX10_readAll_167 rfl (lv_at hl 3 rfl) ?_
                  refine xget (pc := 168) C0 hH 78 25 clX10 ⟨Nat.le_of_ble_eq_true rfl, Nat.le_of_ble_eq_true rfl⟩ ⟨rfl, rfl⟩ (Nat.le_of_ble_eq_true rfl) fl_X10_57 (v := .ref (b + 93)) rfl dX10_readAll_168 ?_
                  refine lv_iload (pc := 171) C0.1 C0.2.1 dX10_readAll_171 (lv_at hl 1 rfl) ?_
                  refine xzald (pc := 173) (N := 600) C0 hH 93 ⟨Nat.le_of_ble_eq_true rfl, Nat.le_of_ble_eq_true rfl⟩ ⟨rfl, rfl⟩ (vI (by omega) (by omega)) dX10_readAll_173 ?_
                  refine lv_if_eq (pc := 174) (tgt := 187) C0.1 C0.2.1 dX10_readAll_174 (by decide) (fun c253 => ?_) (fun c253 => ?_)
                  · have : Int32.toInt 0 = 0 := rfl
                    have c253 := congrArg Int32.toInt c253
                    refine lv_aload_n (pc := 187) C0.1 C0.2.1 dX10_readAll_187 rfl (lv_at hl 3 rfl) ?_
                    refine xget (pc := 188) C0 hH 78 52 clX10 ⟨Nat.le_of_ble_eq_true rfl, Nat.le_of_ble_eq_true rfl⟩ ⟨rfl, rfl⟩ (Nat.le_of_ble_eq_true rfl) fl_X10_313 (v := .int (ir252 78 52)) rfl dX10_readAll_188 ?_
                    refine lv_topi (fun x254 ex254 => ?_)
                    refine xputI (pc := 191) C0 (Nat.le_of_ble_eq_true rfl) hH hS 78 52 clX10 ⟨Nat.le_of_ble_eq_true rfl, Nat.le_of_ble_eq_true rfl⟩ ⟨rfl, rfl⟩ ⟨Nat.le_of_ble_eq_true rfl, rfl, rfl⟩ fl_X10_313 (x := x254) ⟨rfl, rfl⟩ dX10_readAll_191 (fun _ locs hH hS _ => ?_)
                    have hH : Hd D tA b 78 52 zz (up2 ir252 78 52 x254) Fr252 Gr252 _ := hH
                    refine lv_iload (pc := 194) C0.1 C0.2.1 dX10_readAll_194 (lv_at hl 0 rfl) ?_
                    refine lv_if_eq (pc := 196) (tgt := 203) C0.1 C0.2.1 dX10_readAll_196 (by decide) (fun _ => ?_) (fun c => absurd (by decide) c)
                    refine lv_aload_n (pc := 203) C0.1 C0.2.1 dX10_readAll_203 rfl (lv_at hl 3 rfl) ?_
                    refine lv_iload (pc := 204) C0.1 C0.2.1 dX10_readAll_204 (lv_at hl 1 rfl) ?_
                    refine xcVI (pc := 206) 78 [.int q] (m_openerOf l D tA b (up2 ir252 78 52 x254) Fr252 Gr252 q hBR (by omega)) C0 hH hS clX10 rfl ⟨⟨Nat.le_of_ble_eq_true rfl, Nat.le_of_ble_eq_true rfl⟩, rfl, rfl⟩ cw_X10_343 rfl ⟨Nat.le_of_ble_eq_true rfl, Nat.le_of_ble_eq_true rfl⟩ hl.1 rfl (Nat.le_of_ble_eq_true rfl) dX10_readAll_206 ⟨Nat.le_of_ble_eq_true rfl, Nat.le_of_ble_eq_true rfl⟩ (fun r255 ir255 Fr255 Gr255 _ locs hp hH hS => ?_)
                    obtain ⟨hu, hpr255⟩ := hp
                    cases hu
                    refine lv_istore_n (pc := 209) (lv' := [(3, .int r255), (5, .int 0), (4, .int q), (0, .ref (b + 78)), (2, .int y)]) C0.1 C0.2.1 dX10_readAll_209 rfl hl (by decide) rfl (fun ls hl => ?_)
                    obtain ⟨x256, ex256⟩ : ∃ y_ : Int32, y_ = q + 1 := ⟨_, rfl⟩
                    have : Int32.toInt 1 = 1 := rfl
                    have hx256 : Int32.toInt x256 = Int32.toInt q + Int32.toInt 1 := by rw [ex256]; exact fb_addI (by omega) (by omega)
                    refine lv_iinc (pc := 210) (v := x256) (lv' := [(4, .int x256), (3, .int r255), (5, .int 0), (0, .ref (b + 78)), (2, .int y)]) C0.1 C0.2.1 dX10_readAll_210 hl (k := 2) rfl (by rw [ex256]; rfl) (by decide) rfl (fun ls hl => ?_)
                    refine lv_goto (pc := 213) (tgt := 80) C0.1 C0.2.1 dX10_readAll_213 (by decide) ?_
                    exact ih80 x256 r255 (up2 ir252 78 52 x254) Fr252 Gr252 _ _ _ (RO.i (RO.tr (RO.f h1 (by decide)) honr252 (by decide) (by decide)) (by decide)) hT hTK hPI hCB (show Int32.toInt (ir252 78 18) = _ from by omega) hi_78_17 (fun w => PMm.one (hP1 w) (by decide)) (show 0 ≤ Int32.toInt x256 ∧ Int32.toInt x256 ≤ Int32.toInt (ir252 78 19) from by omega) (show Int32.toInt (ir252 78 19) - Int32.toInt x256 ≤ _ from by omega) (fun _ => by omega) (show (1 ≤ Int32.toInt (ir252 78 32) ∧ Int32.toInt (ir252 78 32) ≤ 1 + 2 * Int32.toInt x256) ∧ Int32.toInt (ir252 78 40) ≤ 2 * Int32.toInt x256 ∧ Int32.toInt (ir252 78 47) ≤ 3 * Int32.toInt x256 + 1 from by omega) (fun w => absurd w (by omega)) (Or.inl (by omega)) hH hS (lv_sub hl [0, 1, 3, 4] rfl)
                  · have : Int32.toInt 0 = 0 := rfl
                    have c253 : ¬ _ := fun q => c253 (Int32.toInt_inj.mp q)
                    refine lv_aload_n (pc := 177) C0.1 C0.2.1 dX10_readAll_177 rfl (lv_at hl 3 rfl) ?_
                    refine xget (pc := 178) C0 hH 78 24 clX10 ⟨Nat.le_of_ble_eq_true rfl, Nat.le_of_ble_eq_true rfl⟩ ⟨rfl, rfl⟩ (Nat.le_of_ble_eq_true rfl) fl_X10_54 (v := .ref (b + 92)) rfl dX10_readAll_178 ?_
                    refine lv_iload (pc := 181) C0.1 C0.2.1 dX10_readAll_181 (lv_at hl 1 rfl) ?_
                    refine xiald (pc := 183) (N := 600) C0 hH 92 ⟨Nat.le_of_ble_eq_true rfl, Nat.le_of_ble_eq_true rfl⟩ ⟨rfl, rfl⟩ (vI (by omega) (by omega)) dX10_readAll_183 ?_
                    refine lv_goto (pc := 184) (tgt := 191) C0.1 C0.2.1 dX10_readAll_184 (by decide) ?_
                    refine lv_topi (fun x257 ex257 => ?_)
                    refine xputI (pc := 191) C0 (Nat.le_of_ble_eq_true rfl) hH hS 78 52 clX10 ⟨Nat.le_of_ble_eq_true rfl, Nat.le_of_ble_eq_true rfl⟩ ⟨rfl, rfl⟩ ⟨Nat.le_of_ble_eq_true rfl, rfl, rfl⟩ fl_X10_313 (x := x257) ⟨rfl, rfl⟩ dX10_readAll_191 (fun _ locs hH hS _ => ?_)
                    have hH : Hd D tA b 78 52 zz (up2 ir252 78 52 x257) Fr252 Gr252 _ := hH
                    refine lv_iload (pc := 194) C0.1 C0.2.1 dX10_readAll_194 (lv_at hl 0 rfl) ?_
                    refine lv_if_eq (pc := 196) (tgt := 203) C0.1 C0.2.1 dX10_readAll_196 (by decide) (fun _ => ?_) (fun c => absurd (by decide) c)
                    refine lv_aload_n (pc := 203) C0.1 C0.2.1 dX10_readAll_203 rfl (lv_at hl 3 rfl) ?_
                    refine lv_iload (pc := 204) C0.1 C0.2.1 dX10_readAll_204 (lv_at hl 1 rfl) ?_
                    refine xcVI (pc := 206) 78 [.int q] (m_openerOf l D tA b (up2 ir252 78 52 x257) Fr252 Gr252 q hBR (by omega)) C0 hH hS clX10 rfl ⟨⟨Nat.le_of_ble_eq_true rfl, Nat.le_of_ble_eq_true rfl⟩, rfl, rfl⟩ cw_X10_343 rfl ⟨Nat.le_of_ble_eq_true rfl, Nat.le_of_ble_eq_true rfl⟩ hl.1 rfl (Nat.le_of_ble_eq_true rfl) dX10_readAll_206 ⟨Nat.le_of_ble_eq_true rfl, Nat.le_of_ble_eq_true rfl⟩ (fun r258 ir258 Fr258 Gr258 _ locs hp hH hS => ?_)
                    obtain ⟨hu, hpr258⟩ := hp
                    cases hu
                    refine lv_istore_n (pc := 209) (lv' := [(3, .int r258), (5, .int 0), (4, .int q), (0, .ref (b + 78)), (2, .int y)]) C0.1 C0.2.1 dX10_readAll_209 rfl hl (by decide) rfl (fun ls hl => ?_)
                    obtain ⟨x259, ex259⟩ : ∃ y_ : Int32, y_ = q + 1 := ⟨_, rfl⟩
                    have : Int32.toInt 1 = 1 := rfl
                    have hx259 : Int32.toInt x259 = Int32.toInt q + Int32.toInt 1 := by rw [ex259]; exact fb_addI (by omega) (by omega)
                    refine lv_iinc (pc := 210) (v := x259) (lv' := [(4, .int x259), (3, .int r258), (5, .int 0), (0, .ref (b + 78)), (2, .int y)]) C0.1 C0.2.1 dX10_readAll_210 hl (k := 2) rfl (by rw [ex259]; rfl) (by decide) rfl (fun ls hl => ?_)
                    refine lv_goto (pc := 213) (tgt := 80) C0.1 C0.2.1 dX10_readAll_213 (by decide) ?_
                    exact ih80 x259 r258 (up2 ir252 78 52 x257) Fr252 Gr252 _ _ _ (RO.i (RO.tr (RO.f h1 (by decide)) honr252 (by decide) (by decide)) (by decide)) hT hTK hPI hCB (show Int32.toInt (ir252 78 18) = _ from by omega) hi_78_17 (fun w => PMm.one (hP1 w) (by decide)) (show 0 ≤ Int32.toInt x259 ∧ Int32.toInt x259 ≤ Int32.toInt (ir252 78 19) from by omega) (show Int32.toInt (ir252 78 19) - Int32.toInt x259 ≤ _ from by omega) (fun _ => by omega) (show (1 ≤ Int32.toInt (ir252 78 32) ∧ Int32.toInt (ir252 78 32) ≤ 1 + 2 * Int32.toInt x259) ∧ Int32.toInt (ir252 78 40) ≤ 2 * Int32.toInt x259 ∧ Int32.toInt (ir252 78 47) ≤ 3 * Int32.toInt x259 + 1 from by omega) (fun w => absurd w (by omega)) (Or.inl (by omega)) hH hS (lv_sub hl [0, 1, 3, 4] rfl)
                · have : Int32.toInt 0 = 0 := rfl
                  have c251 := congrArg Int32.toInt c251
                  refine lv_iconst (pc := 153) (v := 1) C0.1 C0.2.1 dX10_readAll_153 (by decide) ?_
                  refine lv_goto (pc := 154) (tgt := 158) C0.1 C0.2.1 dX10_readAll_154 (by decide) ?_
                  refine xzast (pc := 158) (N := 600) C0 (Nat.le_of_ble_eq_true rfl) hH hS 93 ⟨Nat.le_of_ble_eq_true rfl, Nat.le_of_ble_eq_true rfl⟩ ⟨rfl, rfl⟩ (by decide) (vI (by omega) (by omega)) dX10_readAll_158 (fun _ locs hH hS => ?_)
                  have hH : Hd D tA b 78 52 zz iv (va_up Fv 93 (upd (Fv 93) (Int32.toNatClampNeg q) 1)) Gv _ := hH
                  have hd : 0 < q.toInt ∨ (va_up Fv 93 (upd (Fv 93) (Int32.toNatClampNeg q) 1)) 93 (Int32.toNatClampNeg q) = 1 := Or.inr (show upd (Fv 93) (Int32.toNatClampNeg q) 1 (Int32.toNatClampNeg q) = 1 from upd_s)
                  have hhw := h11
                  have hTK : TKm iv (va_up Fv 93 (upd (Fv 93) (Int32.toNatClampNeg q) 1)) := hTK
                  refine lv_aload_n (pc := 159) C0.1 C0.2.1 dX10_readAll_159 rfl (lv_at hl 3 rfl) ?_
                  refine lv_iload (pc := 160) C0.1 C0.2.1 dX10_readAll_160 (lv_at hl 1 rfl) ?_
                  refine lv_iload_n (pc := 162) C0.1 C0.2.1 dX10_readAll_162 rfl (lv_at hl 2 rfl) ?_
                  refine xcVV (pc := 163) 78 [.int q, .int hw] (m_take l D tA b iv (va_up Fv 93 (upd (Fv 93) (Int32.toNatClampNeg q) 1)) Gv q hw hT hP hTK hPI hBR (show 0 < Int32.toInt q ∨ Int32.toInt (iv 78 51) = 1 from by omega) (show 0 ≤ Int32.toInt q ∧ Int32.toInt q < Int32.toInt (iv 78 19) from by omega) hd hhw (show Int32.toInt (iv 78 32) + 2 ≤ 1202 from by omega) (show Int32.toInt (iv 78 40) + 2 ≤ 1202 from by omega) (show Int32.toInt (iv 78 47) + 3 ≤ 1802 from by omega) (show Int32.toInt (iv 78 30) = 0 from by omega)) C0 hH hS clX10 rfl ⟨⟨Nat.le_of_ble_eq_true rfl, Nat.le_of_ble_eq_true rfl⟩, rfl, rfl⟩ cw_X10_340 rfl ⟨Nat.le_of_ble_eq_true rfl, Nat.le_of_ble_eq_true rfl⟩ hl.1 rfl (Nat.le_of_ble_eq_true rfl) dX10_readAll_163 ⟨Nat.le_of_ble_eq_true rfl, Nat.le_of_ble_eq_true rfl⟩ (fun ir260 Fr260 Gr260 _ locs hp hH hS => ?_)
                  obtain ⟨honr260, hT, hPI, hP1, hcr260, hblr260⟩ := hp
                  have hT : TMm ir260 Fr260 := hT
                  have hPI : PLI ir260 := hPI
                  have hP1 : (ir260 78 30).toInt = 0 → PMm 1 ir260 Fr260 := hP1
                  have hcr260 : (ir260 78 32).toInt ≤ Int32.toInt (iv 78 32) + 2 ∧ (ir260 78 40).toInt ≤ Int32.toInt (iv 78 40) + 2 ∧ (ir260 78 47).toInt ≤ Int32.toInt (iv 78 47) + 3 := hcr260
                  have hblr260 : Int32.toInt (iv 78 32) ≤ (ir260 78 32).toInt := hblr260
                  have hTL := TMm.lin hT
                  have hTK : TKm ir260 Fr260 := TKm.ro (i := iv) (F := (va_up Fv 93 (upd (Fv 93) (Int32.toNatClampNeg q) 1))) hTK honr260 (by decide)
                  have hBR : BR ir260 := BR.ro (i := iv) (F := (va_up Fv 93 (upd (Fv 93) (Int32.toNatClampNeg q) 1))) hBR honr260 (by decide)
                  have hCB : CB Fr260 := CB.ro (F := (va_up Fv 93 (upd (Fv 93) (Int32.toNatClampNeg q) 1))) hCB honr260 (by decide)
                  have hi_78_17 : ir260 78 17 = nI 85 := (honr260.1 78 17 (Or.inr (by decide))).trans hi_78_17
                  have ek_19r260 : Int32.toInt (ir260 78 19) = Int32.toInt (iv 78 19) := congrArg Int32.toInt (honr260.1 78 19 (Or.inr (by decide)))
                  have ek_18r260 : Int32.toInt (ir260 78 18) = Int32.toInt (iv 78 18) := congrArg Int32.toInt (honr260.1 78 18 (Or.inr (by decide)))
                  have hTKl := hTK.1
                  refine lv_aload_n (pc := 166) C0.1 C0.2.1 dX10_readAll_166 rfl (lv_at hl 3 rfl) ?_
                  refine lv_aload_n (pc := 167) C0.1 C0.2.1 dX10_readAll_167 rfl (lv_at hl 3 rfl) ?_
                  refine xget (pc := 168) C0 hH 78 25 clX10 ⟨Nat.le_of_ble_eq_true rfl, Nat.le_of_ble_eq_true rfl⟩ ⟨rfl, rfl⟩ (Nat.le_of_ble_eq_true rfl) fl_X10_57 (v := .ref (b + 93)) rfl dX10_readAll_168 ?_
                  refine lv_iload (pc := 171) C0.1 C0.2.1 dX10_readAll_171 (lv_at hl 1 rfl) ?_
                  refine xzald (pc := 173) (N := 600) C0 hH 93 ⟨Nat.le_of_ble_eq_true rfl, Nat.le_of_ble_eq_true rfl⟩ ⟨rfl, rfl⟩ (vI (by omega) (by omega)) dX10_readAll_173 ?_
                  refine lv_if_eq (pc := 174) (tgt := 187) C0.1 C0.2.1 dX10_readAll_174 (by decide) (fun c261 => ?_) (fun c261 => ?_)
                  · have : Int32.toInt 0 = 0 := rfl
                    have c261 := congrArg Int32.toInt c261
                    refine lv_aload_n (pc := 187) C0.1 C0.2.1 dX10_readAll_187 rfl (lv_at hl 3 rfl) ?_
                    refine xget (pc := 188) C0 hH 78 52 clX10 ⟨Nat.le_of_ble_eq_true rfl, Nat.le_of_ble_eq_true rfl⟩ ⟨rfl, rfl⟩ (Nat.le_of_ble_eq_true rfl) fl_X10_313 (v := .int (ir260 78 52)) rfl dX10_readAll_188 ?_
                    refine lv_topi (fun x262 ex262 => ?_)
                    refine xputI (pc := 191) C0 (Nat.le_of_ble_eq_true rfl) hH hS 78 52 clX10 ⟨Nat.le_of_ble_eq_true rfl, Nat.le_of_ble_eq_true rfl⟩ ⟨rfl, rfl⟩ ⟨Nat.le_of_ble_eq_true rfl, rfl, rfl⟩ fl_X10_313 (x := x262) ⟨rfl, rfl⟩ dX10_readAll_191 (fun _ locs hH hS _ => ?_)
                    have hH : Hd D tA b 78 52 zz (up2 ir260 78 52 x262) Fr260 Gr260 _ := hH
                    refine lv_iload (pc := 194) C0.1 C0.2.1 dX10_readAll_194 (lv_at hl 0 rfl) ?_
                    refine lv_if_eq (pc := 196) (tgt := 203) C0.1 C0.2.1 dX10_readAll_196 (by decide) (fun _ => ?_) (fun c => absurd (by decide) c)
                    refine lv_aload_n (pc := 203) C0.1 C0.2.1 dX10_readAll_203 rfl (lv_at hl 3 rfl) ?_
                    refine lv_iload (pc := 204) C0.1 C0.2.1 dX10_readAll_204 (lv_at hl 1 rfl) ?_
                    refine xcVI (pc := 206) 78 [.int q] (m_openerOf l D tA b (up2 ir260 78 52 x262) Fr260 Gr260 q hBR (by omega)) C0 hH hS clX10 rfl ⟨⟨Nat.le_of_ble_eq_true rfl, Nat.le_of_ble_eq_true rfl⟩, rfl, rfl⟩ cw_X10_343 rfl ⟨Nat.le_of_ble_eq_true rfl, Nat.le_of_ble_eq_true rfl⟩ hl.1 rfl (Nat.le_of_ble_eq_true rfl) dX10_readAll_206 ⟨Nat.le_of_ble_eq_true rfl, Nat.le_of_ble_eq_true rfl⟩ (fun r263 ir263 Fr263 Gr263 _ locs hp hH hS => ?_)
                    obtain ⟨hu, hpr263⟩ := hp
                    cases hu
                    refine lv_istore_n (pc := 209) (lv' := [(3, .int r263), (5, .int 0), (4, .int q), (0, .ref (b + 78)), (2, .int y)]) C0.1 C0.2.1 dX10_readAll_209 rfl hl (by decide) rfl (fun ls hl => ?_)
                    obtain ⟨x264, ex264⟩ : ∃ y_ : Int32, y_ = q + 1 := ⟨_, rfl⟩
                    have : Int32.toInt 1 = 1 := rfl
                    have hx264 : Int32.toInt x264 = Int32.toInt q + Int32.toInt 1 := by rw [ex264]; exact fb_addI (by omega) (by omega)
                    refine lv_iinc (pc := 210) (v := x264) (lv' := [(4, .int x264), (3, .int r263), (5, .int 0), (0, .ref (b + 78)), (2, .int y)]) C0.1 C0.2.1 dX10_readAll_210 hl (k := 2) rfl (by rw [ex264]; rfl) (by decide) rfl (fun ls hl => ?_)
                    refine lv_goto (pc := 213) (tgt := 80) C0.1 C0.2.1 dX10_readAll_213 (by decide) ?_
                    exact ih80 x264 r263 (up2 ir260 78 52 x262) Fr260 Gr260 _ _ _ (RO.i (RO.tr (RO.f h1 (by decide)) honr260 (by decide) (by decide)) (by decide)) hT hTK hPI hCB (show Int32.toInt (ir260 78 18) = _ from by omega) hi_78_17 (fun w => PMm.one (hP1 w) (by decide)) (show 0 ≤ Int32.toInt x264 ∧ Int32.toInt x264 ≤ Int32.toInt (ir260 78 19) from by omega) (show Int32.toInt (ir260 78 19) - Int32.toInt x264 ≤ _ from by omega) (fun _ => by omega) (show (1 ≤ Int32.toInt (ir260 78 32) ∧ Int32.toInt (ir260 78 32) ≤ 1 + 2 * Int32.toInt x264) ∧ Int32.toInt (ir260 78 40) ≤ 2 * Int32.toInt x264 ∧ Int32.toInt (ir260 78 47) ≤ 3 * Int32.toInt x264 + 1 from by omega) (fun w => absurd w (by omega)) (Or.inl (by omega)) hH hS (lv_sub hl [0, 1, 3, 4] rfl)
                  · have : Int32.toInt 0 = 0 := rfl
                    have c261 : ¬ _ := fun q => c261 (Int32.toInt_inj.mp q)
                    refine lv_aload_n (pc := 177) C0.1 C0.2.1 dX10_readAll_177 rfl (lv_at hl 3 rfl) ?_
                    refine xget (pc := 178) C0 hH 78 24 clX10 ⟨Nat.le_of_ble_eq_true rfl, Nat.le_of_ble_eq_true rfl⟩ ⟨rfl, rfl⟩ (Nat.le_of_ble_eq_true rfl) fl_X10_54 (v := .ref (b + 92)) rfl dX10_readAll_178 ?_
                    refine lv_iload (pc := 181) C0.1 C0.2.1 dX10_readAll_181 (lv_at hl 1 rfl) ?_
                    refine xiald (pc := 183) (N := 600) C0 hH 92 ⟨Nat.le_of_ble_eq_true rfl, Nat.le_of_ble_eq_true rfl⟩ ⟨rfl, rfl⟩ (vI (by omega) (by omega)) dX10_readAll_183 ?_
                    refine lv_goto (pc := 184) (tgt := 191) C0.1 C0.2.1 dX10_readAll_184 (by decide) ?_
                    refine lv_topi (fun x265 ex265 => ?_)
                    refine xputI (pc := 191) C0 (Nat.le_of_ble_eq_true rfl) hH hS 78 52 clX10 ⟨Nat.le_of_ble_eq_true rfl, Nat.le_of_ble_eq_true rfl⟩ ⟨rfl, rfl⟩ ⟨Nat.le_of_ble_eq_true rfl, rfl, rfl⟩ fl_X10_313 (x := x265) ⟨rfl, rfl⟩ dX10_readAll_191 (fun _ locs hH hS _ => ?_)
                    have hH : Hd D tA b 78 52 zz (up2 ir260 78 52 x265) Fr260 Gr260 _ := hH
                    refine lv_iload (pc := 194) C0.1 C0.2.1 dX10_readAll_194 (lv_at hl 0 rfl) ?_
                    refine lv_if_eq (pc := 196) (tgt := 203) C0.1 C0.2.1 dX10_readAll_196 (by decide) (fun _ => ?_) (fun c => absurd (by decide) c)
                    refine lv_aload_n (pc := 203) C0.1 C0.2.1 dX10_readAll_203 rfl (lv_at hl 3 rfl) ?_
                    refine lv_iload (pc := 204) C0.1 C0.2.1 dX10_readAll_204 (lv_at hl 1 rfl) ?_
                    refine xcVI (pc := 206) 78 [.int q] (m_openerOf l D tA b (up2 ir260 78 52 x265) Fr260 Gr260 q hBR (by omega)) C0 hH hS clX10 rfl ⟨⟨Nat.le_of_ble_eq_true rfl, Nat.le_of_ble_eq_true rfl⟩, rfl, rfl⟩ cw_X10_343 rfl ⟨Nat.le_of_ble_eq_true rfl, Nat.le_of_ble_eq_true rfl⟩ hl.1 rfl (Nat.le_of_ble_eq_true rfl) dX10_readAll_206 ⟨Nat.le_of_ble_eq_true rfl, Nat.le_of_ble_eq_true rfl⟩ (fun r266 ir266 Fr266 Gr266 _ locs hp hH hS => ?_)
                    obtain ⟨hu, hpr266⟩ := hp
                    cases hu
                    refine lv_istore_n (pc := 209) (lv' := [(3, .int r266), (5, .int 0), (4, .int q), (0, .ref (b + 78)), (2, .int y)]) C0.1 C0.2.1 dX10_readAll_209 rfl hl (by decide) rfl (fun ls hl => ?_)
                    obtain ⟨x267, ex267⟩ : ∃ y_ : Int32, y_ = q + 1 := ⟨_, rfl⟩
                    have : Int32.toInt 1 = 1 := rfl
                    have hx267 : Int32.toInt x267 = Int32.toInt q + Int32.toInt 1 := by rw [ex267]; exact fb_addI (by omega) (by omega)
                    refine lv_iinc (pc := 210) (v := x267) (lv' := [(4, .int x267), (3, .int r266), (5, .int 0), (0, .ref (b + 78)), (2, .int y)]) C0.1 C0.2.1 dX10_readAll_210 hl (k := 2) rfl (by rw [ex267]; rfl) (by decide) rfl (fun ls hl => ?_)
                    refine lv_goto (pc := 213) (tgt := 80) C0.1 C0.2.1 dX10_readAll_213 (by decide) ?_
                    exact ih80 x267 r266 (up2 ir260 78 52 x265) Fr260 Gr260 _ _ _ (RO.i (RO.tr (RO.f h1 (by decide)) honr260 (by decide) (by decide)) (by decide)) hT hTK hPI hCB (show Int32.toInt (ir260 78 18) = _ from by omega) hi_78_17 (fun w => PMm.one (hP1 w) (by decide)) (show 0 ≤ Int32.toInt x267 ∧ Int32.toInt x267 ≤ Int32.toInt (ir260 78 19) from by omega) (show Int32.toInt (ir260 78 19) - Int32.toInt x267 ≤ _ from by omega) (fun _ => by omega) (show (1 ≤ Int32.toInt (ir260 78 32) ∧ Int32.toInt (ir260 78 32) ≤ 1 + 2 * Int32.toInt x267) ∧ Int32.toInt (ir260 78 40) ≤ 2 * Int32.toInt x267 ∧ Int32.toInt (ir260 78 47) ≤ 3 * Int32.toInt x267 + 1 from by omega) (fun w => absurd w (by omega)) (Or.inl (by omega)) hH hS (lv_sub hl [0, 1, 3, 4] rfl)
          · have : Int32.toInt 4 = 4 := rfl
            have c230 := congrArg Int32.toInt c230
            refine lv_iconst (pc := 109) (v := 1) C0.1 C0.2.1 dX10_readAll_109 (by decide) ?_
            refine lv_goto (pc := 110) (tgt := 114) C0.1 C0.2.1 dX10_readAll_110 (by decide) ?_
            refine lv_istore (pc := 114) (lv' := [(5, .int 1), (4, .int q), (3, .int hw), (0, .ref (b + 78)), (2, .int y)]) C0.1 C0.2.1 dX10_readAll_114 hl (by decide) rfl (fun ls hl => ?_)
            refine lv_aload_n (pc := 116) C0.1 C0.2.1 dX10_readAll_116 rfl (lv_at hl 3 rfl) ?_
            refine xget (pc := 117) C0 hH 78 25 clX10 ⟨Nat.le_of_ble_eq_true rfl, Nat.le_of_ble_eq_true rfl⟩ ⟨rfl, rfl⟩ (Nat.le_of_ble_eq_true rfl) fl_X10_57 (v := .ref (b + 93)) rfl dX10_readAll_117 ?_
            refine lv_iload (pc := 120) C0.1 C0.2.1 dX10_readAll_120 (lv_at hl 1 rfl) ?_
            refine lv_aload_n (pc := 122) C0.1 C0.2.1 dX10_readAll_122 rfl (lv_at hl 3 rfl) ?_
            refine xget (pc := 123) C0 hH 78 25 clX10 ⟨Nat.le_of_ble_eq_true rfl, Nat.le_of_ble_eq_true rfl⟩ ⟨rfl, rfl⟩ (Nat.le_of_ble_eq_true rfl) fl_X10_57 (v := .ref (b + 93)) rfl dX10_readAll_123 ?_
            refine lv_iload (pc := 126) C0.1 C0.2.1 dX10_readAll_126 (lv_at hl 1 rfl) ?_
            refine xzald (pc := 128) (N := 600) C0 hH 93 ⟨Nat.le_of_ble_eq_true rfl, Nat.le_of_ble_eq_true rfl⟩ ⟨rfl, rfl⟩ (vI (by omega) (by omega)) dX10_readAll_128 ?_
            refine lv_if_eq (pc := 129) (tgt := 157) C0.1 C0.2.1 dX10_readAll_129 (by decide) (fun c268 => ?_) (fun c268 => ?_)
            · have : Int32.toInt 0 = 0 := rfl
              have c268 := congrArg Int32.toInt c268
              refine lv_iconst (pc := 157) (v := 0) C0.1 C0.2.1 dX10_readAll_157 (by decide) ?_
              refine xzast (pc := 158) (N := 600) C0 (Nat.le_of_ble_eq_true rfl) hH hS 93 ⟨Nat.le_of_ble_eq_true rfl, Nat.le_of_ble_eq_true rfl⟩ ⟨rfl, rfl⟩ (by decide) (vI (by omega) (by omega)) dX10_readAll_158 (fun _ locs hH hS => ?_)
              have hH : Hd D tA b 78 52 zz iv (va_up Fv 93 (upd (Fv 93) (Int32.toNatClampNeg q) 0)) Gv _ := hH
              have hq0 : 0 < q.toInt := by
                rcases Int.lt_or_le 0 q.toInt with w | w
                · exact w
                · exfalso
                  have q0 : q.toInt = 0 := (by omega)
                  have qc := clI (x := q) (by omega)
                  have qn : Int32.toNatClampNeg q = 0 := (by omega)
                  first
                  | (have w1 : Int32.toInt (Fv 93 (Int32.toNatClampNeg q)) = Int32.toInt 0 := (by assumption); rw [qn, h13 q0 (by omega)] at w1; exact absurd w1 (by decide))
                  | (have w1 : Int32.toInt (Fv 98 (Int32.toNatClampNeg r229)) = Int32.toInt 4 := (by assumption); have w2 := htzr229 (by omega); rw [w2, show Int32.toNatClampNeg 0 = 0 from rfl, hP.2.2.2.1] at w1; exact absurd w1 (by decide))
                  | (have : Int32.toInt 0 = 0 := rfl; omega)
              have hd : 0 < q.toInt ∨ (va_up Fv 93 (upd (Fv 93) (Int32.toNatClampNeg q) 0)) 93 (Int32.toNatClampNeg q) = 1 := Or.inl hq0
              have hhw := h11
              have hTK : TKm iv (va_up Fv 93 (upd (Fv 93) (Int32.toNatClampNeg q) 0)) := hTK
              refine lv_aload_n (pc := 159) C0.1 C0.2.1 dX10_readAll_159 rfl (lv_at hl 3 rfl) ?_
              refine lv_iload (pc := 160) C0.1 C0.2.1 dX10_readAll_160 (lv_at hl 1 rfl) ?_
              refine lv_iload_n (pc := 162) C0.1 C0.2.1 dX10_readAll_162 rfl (lv_at hl 2 rfl) ?_
              refine xcVV (pc := 163) 78 [.int q, .int hw] (m_take l D tA b iv (va_up Fv 93 (upd (Fv 93) (Int32.toNatClampNeg q) 0)) Gv q hw hT hP hTK hPI hBR (show 0 < Int32.toInt q ∨ Int32.toInt (iv 78 51) = 1 from by omega) (show 0 ≤ Int32.toInt q ∧ Int32.toInt q < Int32.toInt (iv 78 19) from by omega) hd hhw (show Int32.toInt (iv 78 32) + 2 ≤ 1202 from by omega) (show Int32.toInt (iv 78 40) + 2 ≤ 1202 from by omega) (show Int32.toInt (iv 78 47) + 3 ≤ 1802 from by omega) (show Int32.toInt (iv 78 30) = 0 from by omega)) C0 hH hS clX10 rfl ⟨⟨Nat.le_of_ble_eq_true rfl, Nat.le_of_ble_eq_true rfl⟩, rfl, rfl⟩ cw_X10_340 rfl ⟨Nat.le_of_ble_eq_true rfl, Nat.le_of_ble_eq_true rfl⟩ hl.1 rfl (Nat.le_of_ble_eq_true rfl) dX10_readAll_163 ⟨Nat.le_of_ble_eq_true rfl, Nat.le_of_ble_eq_true rfl⟩ (fun ir269 Fr269 Gr269 _ locs hp hH hS => ?_)
              obtain ⟨honr269, hT, hPI, hP1, hcr269, hblr269⟩ := hp
              have hT : TMm ir269 Fr269 := hT
              have hPI : PLI ir269 := hPI
              have hP1 : (ir269 78 30).toInt = 0 → PMm 1 ir269 Fr269 := hP1
              have hcr269 : (ir269 78 32).toInt ≤ Int32.toInt (iv 78 32) + 2 ∧ (ir269 78 40).toInt ≤ Int32.toInt (iv 78 40) + 2 ∧ (ir269 78 47).toInt ≤ Int32.toInt (iv 78 47) + 3 := hcr269
              have hblr269 : Int32.toInt (iv 78 32) ≤ (ir269 78 32).toInt := hblr269
              have hTL := TMm.lin hT
              have hTK : TKm ir269 Fr269 := TKm.ro (i := iv) (F := (va_up Fv 93 (upd (Fv 93) (Int32.toNatClampNeg q) 0))) hTK honr269 (by decide)
              have hBR : BR ir269 := BR.ro (i := iv) (F := (va_up Fv 93 (upd (Fv 93) (Int32.toNatClampNeg q) 0))) hBR honr269 (by decide)
              have hCB : CB Fr269 := CB.ro (F := (va_up Fv 93 (upd (Fv 93) (Int32.toNatClampNeg q) 0))) hCB honr269 (by decide)
              have hi_78_17 : ir269 78 17 = nI 85 := (honr269.1 78 17 (Or.inr (by decide))).trans hi_78_17
              have ek_19r269 : Int32.toInt (ir269 78 19) = Int32.toInt (iv 78 19) := congrArg Int32.toInt (honr269.1 78 19 (Or.inr (by decide)))
              have ek_18r269 : Int32.toInt (ir269 78 18) = Int32.toInt (iv 78 18) := congrArg Int32.toInt (honr269.1 78 18 (Or.inr (by decide)))
              have hTKl := hTK.1
              refine lv_aload_n (pc := 166) C0.1 C0.2.1 dX10_readAll_166 rfl (lv_at hl 3 rfl) ?_
              refine lv_aload_n (pc := 167) C0.1 C0.2.1 dX10_readAll_167 rfl (lv_at hl 3 rfl) ?_
              refine xget (pc := 168) C0 hH 78 25 clX10 ⟨Nat.le_of_ble_eq_true rfl, Nat.le_of_ble_eq_true rfl⟩ ⟨rfl, rfl⟩ (Nat.le_of_ble_eq_true rfl) fl_X10_57 (v := .ref (b + 93)) rfl dX10_readAll_168 ?_
              refine lv_iload (pc := 171) C0.1 C0.2.1 dX10_readAll_171 (lv_at hl 1 rfl) ?_
              refine xzald (pc := 173) (N := 600) C0 hH 93 ⟨Nat.le_of_ble_eq_true rfl, Nat.le_of_ble_eq_true rfl⟩ ⟨rfl, rfl⟩ (vI (by omega) (by omega)) dX10_readAll_173 ?_
              refine lv_if_eq (pc := 174) (tgt := 187) C0.1 C0.2.1 dX10_readAll_174 (by decide) (fun c270 => ?_) (fun c270 => ?_)
              · have : Int32.toInt 0 = 0 := rfl
                have c270 := congrArg Int32.toInt c270
                refine lv_aload_n (pc := 187) C0.1 C0.2.1 dX10_readAll_187 rfl (lv_at hl 3 rfl) ?_
                refine xget (pc := 188) C0 hH 78 52 clX10 ⟨Nat.le_of_ble_eq_true rfl, Nat.le_of_ble_eq_true rfl⟩ ⟨rfl, rfl⟩ (Nat.le_of_ble_eq_true rfl) fl_X10_313 (v := .int (ir269 78 52)) rfl dX10_readAll_188 ?_
                refine lv_topi (fun x271 ex271 => ?_)
                refine xputI (pc := 191) C0 (Nat.le_of_ble_eq_true rfl) hH hS 78 52 clX10 ⟨Nat.le_of_ble_eq_true rfl, Nat.le_of_ble_eq_true rfl⟩ ⟨rfl, rfl⟩ ⟨Nat.le_of_ble_eq_true rfl, rfl, rfl⟩ fl_X10_313 (x := x271) ⟨rfl, rfl⟩ dX10_readAll_191 (fun _ locs hH hS _ => ?_)
                have hH : Hd D tA b 78 52 zz (up2 ir269 78 52 x271) Fr269 Gr269 _ := hH
                refine lv_iload (pc := 194) C0.1 C0.2.1 dX10_readAll_194 (lv_at hl 0 rfl) ?_
                refine lv_if_eq (pc := 196) (tgt := 203) C0.1 C0.2.1 dX10_readAll_196 (by decide) (fun c => absurd c (by decide)) (fun _ => ?_)
                refine lv_iconst (pc := 199) (v := 0) C0.1 C0.2.1 dX10_readAll_199 (by decide) ?_
                refine lv_goto (pc := 200) (tgt := 209) C0.1 C0.2.1 dX10_readAll_200 (by decide) ?_
                refine lv_istore_n (pc := 209) (lv' := [(3, .int 0), (5, .int 1), (4, .int q), (0, .ref (b + 78)), (2, .int y)]) C0.1 C0.2.1 dX10_readAll_209 rfl hl (by decide) rfl (fun ls hl => ?_)
                obtain ⟨x272, ex272⟩ : ∃ y_ : Int32, y_ = q + 1 := ⟨_, rfl⟩
                have : Int32.toInt 1 = 1 := rfl
                have hx272 : Int32.toInt x272 = Int32.toInt q + Int32.toInt 1 := by rw [ex272]; exact fb_addI (by omega) (by omega)
                refine lv_iinc (pc := 210) (v := x272) (lv' := [(4, .int x272), (3, .int 0), (5, .int 1), (0, .ref (b + 78)), (2, .int y)]) C0.1 C0.2.1 dX10_readAll_210 hl (k := 2) rfl (by rw [ex272]; rfl) (by decide) rfl (fun ls hl => ?_)
                refine lv_goto (pc := 213) (tgt := 80) C0.1 C0.2.1 dX10_readAll_213 (by decide) ?_
                exact ih80 x272 0 (up2 ir269 78 52 x271) Fr269 Gr269 _ _ _ (RO.i (RO.tr (RO.f h1 (by decide)) honr269 (by decide) (by decide)) (by decide)) hT hTK hPI hCB (show Int32.toInt (ir269 78 18) = _ from by omega) hi_78_17 (fun w => PMm.one (hP1 w) (by decide)) (show 0 ≤ Int32.toInt x272 ∧ Int32.toInt x272 ≤ Int32.toInt (ir269 78 19) from by omega) (show Int32.toInt (ir269 78 19) - Int32.toInt x272 ≤ _ from by omega) (fun _ => by omega) (show (1 ≤ Int32.toInt (ir269 78 32) ∧ Int32.toInt (ir269 78 32) ≤ 1 + 2 * Int32.toInt x272) ∧ Int32.toInt (ir269 78 40) ≤ 2 * Int32.toInt x272 ∧ Int32.toInt (ir269 78 47) ≤ 3 * Int32.toInt x272 + 1 from by omega) (fun w => absurd w (by omega)) (Or.inl (by omega)) hH hS (lv_sub hl [0, 1, 3, 4] rfl)
              · have : Int32.toInt 0 = 0 := rfl
                have c270 : ¬ _ := fun q => c270 (Int32.toInt_inj.mp q)
                refine lv_aload_n (pc := 177) C0.1 C0.2.1 dX10_readAll_177 rfl (lv_at hl 3 rfl) ?_
                refine xget (pc := 178) C0 hH 78 24 clX10 ⟨Nat.le_of_ble_eq_true rfl, Nat.le_of_ble_eq_true rfl⟩ ⟨rfl, rfl⟩ (Nat.le_of_ble_eq_true rfl) fl_X10_54 (v := .ref (b + 92)) rfl dX10_readAll_178 ?_
                refine lv_iload (pc := 181) C0.1 C0.2.1 dX10_readAll_181 (lv_at hl 1 rfl) ?_
                refine xiald (pc := 183) (N := 600) C0 hH 92 ⟨Nat.le_of_ble_eq_true rfl, Nat.le_of_ble_eq_true rfl⟩ ⟨rfl, rfl⟩ (vI (by omega) (by omega)) dX10_readAll_183 ?_
                refine lv_goto (pc := 184) (tgt := 191) C0.1 C0.2.1 dX10_readAll_184 (by decide) ?_
                refine lv_topi (fun x273 ex273 => ?_)
                refine xputI (pc := 191) C0 (Nat.le_of_ble_eq_true rfl) hH hS 78 52 clX10 ⟨Nat.le_of_ble_eq_true rfl, Nat.le_of_ble_eq_true rfl⟩ ⟨rfl, rfl⟩ ⟨Nat.le_of_ble_eq_true rfl, rfl, rfl⟩ fl_X10_313 (x := x273) ⟨rfl, rfl⟩ dX10_readAll_191 (fun _ locs hH hS _ => ?_)
                have hH : Hd D tA b 78 52 zz (up2 ir269 78 52 x273) Fr269 Gr269 _ := hH
                refine lv_iload (pc := 194) C0.1 C0.2.1 dX10_readAll_194 (lv_at hl 0 rfl) ?_
                refine lv_if_eq (pc := 196) (tgt := 203) C0.1 C0.2.1 dX10_readAll_196 (by decide) (fun c => absurd c (by decide)) (fun _ => ?_)
                refine lv_iconst (pc := 199) (v := 0) C0.1 C0.2.1 dX10_readAll_199 (by decide) ?_
                refine lv_goto (pc := 200) (tgt := 209) C0.1 C0.2.1 dX10_readAll_200 (by decide) ?_
                refine lv_istore_n (pc := 209) (lv' := [(3, .int 0), (5, .int 1), (4, .int q), (0, .ref (b + 78)), (2, .int y)]) C0.1 C0.2.1 dX10_readAll_209 rfl hl (by decide) rfl (fun ls hl => ?_)
                obtain ⟨x274, ex274⟩ : ∃ y_ : Int32, y_ = q + 1 := ⟨_, rfl⟩
                have : Int32.toInt 1 = 1 := rfl
                have hx274 : Int32.toInt x274 = Int32.toInt q + Int32.toInt 1 := by rw [ex274]; exact fb_addI (by omega) (by omega)
                refine lv_iinc (pc := 210) (v := x274) (lv' := [(4, .int x274), (3, .int 0), (5, .int 1), (0, .ref (b + 78)), (2, .int y)]) C0.1 C0.2.1 dX10_readAll_210 hl (k := 2) rfl (by rw [ex274]; rfl) (by decide) rfl (fun ls hl => ?_)
                refine lv_goto (pc := 213) (tgt := 80) C0.1 C0.2.1 dX10_readAll_213 (by decide) ?_
                exact ih80 x274 0 (up2 ir269 78 52 x273) Fr269 Gr269 _ _ _ (RO.i (RO.tr (RO.f h1 (by decide)) honr269 (by decide) (by decide)) (by decide)) hT hTK hPI hCB (show Int32.toInt (ir269 78 18) = _ from by omega) hi_78_17 (fun w => PMm.one (hP1 w) (by decide)) (show 0 ≤ Int32.toInt x274 ∧ Int32.toInt x274 ≤ Int32.toInt (ir269 78 19) from by omega) (show Int32.toInt (ir269 78 19) - Int32.toInt x274 ≤ _ from by omega) (fun _ => by omega) (show (1 ≤ Int32.toInt (ir269 78 32) ∧ Int32.toInt (ir269 78 32) ≤ 1 + 2 * Int32.toInt x274) ∧ Int32.toInt (ir269 78 40) ≤ 2 * Int32.toInt x274 ∧ Int32.toInt (ir269 78 47) ≤ 3 * Int32.toInt x274 + 1 from by omega) (fun w => absurd w (by omega)) (Or.inl (by omega)) hH hS (lv_sub hl [0, 1, 3, 4] rfl)
            · have : Int32.toInt 0 = 0 := rfl
              have c268 : ¬ _ := fun q => c268 (Int32.toInt_inj.mp q)
              refine lv_iload (pc := 132) C0.1 C0.2.1 dX10_readAll_132 (lv_at hl 0 rfl) ?_
              refine lv_if_ne (pc := 134) (tgt := 157) C0.1 C0.2.1 dX10_readAll_134 (by decide) (fun _ => ?_) (fun c => absurd c (by decide))
              refine lv_iconst (pc := 157) (v := 0) C0.1 C0.2.1 dX10_readAll_157 (by decide) ?_
              refine xzast (pc := 158) (N := 600) C0 (Nat.le_of_ble_eq_true rfl) hH hS 93 ⟨Nat.le_of_ble_eq_true rfl, Nat.le_of_ble_eq_true rfl⟩ ⟨rfl, rfl⟩ (by decide) (vI (by omega) (by omega)) dX10_readAll_158 (fun _ locs hH hS => ?_)
              have hH : Hd D tA b 78 52 zz iv (va_up Fv 93 (upd (Fv 93) (Int32.toNatClampNeg q) 0)) Gv _ := hH
              have hq0 : 0 < q.toInt := by
                rcases Int.lt_or_le 0 q.toInt with w | w
                · exact w
                · exfalso
                  have q0 : q.toInt = 0 := (by omega)
                  have qc := clI (x := q) (by omega)
                  have qn : Int32.toNatClampNeg q = 0 := (by omega)
                  first
                  | (have w1 : Int32.toInt (Fv 93 (Int32.toNatClampNeg q)) = Int32.toInt 0 := (by assumption); rw [qn, h13 q0 (by omega)] at w1; exact absurd w1 (by decide))
                  | (have w1 : Int32.toInt (Fv 98 (Int32.toNatClampNeg r229)) = Int32.toInt 4 := (by assumption); have w2 := htzr229 (by omega); rw [w2, show Int32.toNatClampNeg 0 = 0 from rfl, hP.2.2.2.1] at w1; exact absurd w1 (by decide))
                  | (have : Int32.toInt 0 = 0 := rfl; omega)
              have hd : 0 < q.toInt ∨ (va_up Fv 93 (upd (Fv 93) (Int32.toNatClampNeg q) 0)) 93 (Int32.toNatClampNeg q) = 1 := Or.inl hq0
              have hhw := h11
              have hTK : TKm iv (va_up Fv 93 (upd (Fv 93) (Int32.toNatClampNeg q) 0)) := hTK
              refine lv_aload_n (pc := 159) C0.1 C0.2.1 dX10_readAll_159 rfl (lv_at hl 3 rfl) ?_
              refine lv_iload (pc := 160) C0.1 C0.2.1 dX10_readAll_160 (lv_at hl 1 rfl) ?_
              refine lv_iload_n (pc := 162) C0.1 C0.2.1 dX10_readAll_162 rfl (lv_at hl 2 rfl) ?_
              refine xcVV (pc := 163) 78 [.int q, .int hw] (m_take l D tA b iv (va_up Fv 93 (upd (Fv 93) (Int32.toNatClampNeg q) 0)) Gv q hw hT hP hTK hPI hBR (show 0 < Int32.toInt q ∨ Int32.toInt (iv 78 51) = 1 from by omega) (show 0 ≤ Int32.toInt q ∧ Int32.toInt q < Int32.toInt (iv 78 19) from by omega) hd hhw (show Int32.toInt (iv 78 32) + 2 ≤ 1202 from by omega) (show Int32.toInt (iv 78 40) + 2 ≤ 1202 from by omega) (show Int32.toInt (iv 78 47) + 3 ≤ 1802 from by omega) (show Int32.toInt (iv 78 30) = 0 from by omega)) C0 hH hS clX10 rfl ⟨⟨Nat.le_of_ble_eq_true rfl, Nat.le_of_ble_eq_true rfl⟩, rfl, rfl⟩ cw_X10_340 rfl ⟨Nat.le_of_ble_eq_true rfl, Nat.le_of_ble_eq_true rfl⟩ hl.1 rfl (Nat.le_of_ble_eq_true rfl) dX10_readAll_163 ⟨Nat.le_of_ble_eq_true rfl, Nat.le_of_ble_eq_true rfl⟩ (fun ir275 Fr275 Gr275 _ locs hp hH hS => ?_)
              obtain ⟨honr275, hT, hPI, hP1, hcr275, hblr275⟩ := hp
              have hT : TMm ir275 Fr275 := hT
              have hPI : PLI ir275 := hPI
              have hP1 : (ir275 78 30).toInt = 0 → PMm 1 ir275 Fr275 := hP1
              have hcr275 : (ir275 78 32).toInt ≤ Int32.toInt (iv 78 32) + 2 ∧ (ir275 78 40).toInt ≤ Int32.toInt (iv 78 40) + 2 ∧ (ir275 78 47).toInt ≤ Int32.toInt (iv 78 47) + 3 := hcr275
              have hblr275 : Int32.toInt (iv 78 32) ≤ (ir275 78 32).toInt := hblr275
              have hTL := TMm.lin hT
              have hTK : TKm ir275 Fr275 := TKm.ro (i := iv) (F := (va_up Fv 93 (upd (Fv 93) (Int32.toNatClampNeg q) 0))) hTK honr275 (by decide)
              have hBR : BR ir275 := BR.ro (i := iv) (F := (va_up Fv 93 (upd (Fv 93) (Int32.toNatClampNeg q) 0))) hBR honr275 (by decide)
              have hCB : CB Fr275 := CB.ro (F := (va_up Fv 93 (upd (Fv 93) (Int32.toNatClampNeg q) 0))) hCB honr275 (by decide)
              have hi_78_17 : ir275 78 17 = nI 85 := (honr275.1 78 17 (Or.inr (by decide))).trans hi_78_17
              have ek_19r275 : Int32.toInt (ir275 78 19) = Int32.toInt (iv 78 19) := congrArg Int32.toInt (honr275.1 78 19 (Or.inr (by decide)))
              have ek_18r275 : Int32.toInt (ir275 78 18) = Int32.toInt (iv 78 18) := congrArg Int32.toInt (honr275.1 78 18 (Or.inr (by decide)))
              have hTKl := hTK.1
              refine lv_aload_n (pc := 166) C0.1 C0.2.1 dX10_readAll_166 rfl (lv_at hl 3 rfl) ?_
              refine lv_aload_n (pc := 167) C0.1 C0.2.1 dX10_readAll_167 rfl (lv_at hl 3 rfl) ?_
              refine xget (pc := 168) C0 hH 78 25 clX10 ⟨Nat.le_of_ble_eq_true rfl, Nat.le_of_ble_eq_true rfl⟩ ⟨rfl, rfl⟩ (Nat.le_of_ble_eq_true rfl) fl_X10_57 (v := .ref (b + 93)) rfl dX10_readAll_168 ?_
              refine lv_iload (pc := 171) C0.1 C0.2.1 dX10_readAll_171 (lv_at hl 1 rfl) ?_
              refine xzald (pc := 173) (N := 600) C0 hH 93 ⟨Nat.le_of_ble_eq_true rfl, Nat.le_of_ble_eq_true rfl⟩ ⟨rfl, rfl⟩ (vI (by omega) (by omega)) dX10_readAll_173 ?_
              refine lv_if_eq (pc := 174) (tgt := 187) C0.1 C0.2.1 dX10_readAll_174 (by decide) (fun c276 => ?_) (fun c276 => ?_)
              · have : Int32.toInt 0 = 0 := rfl
                have c276 := congrArg Int32.toInt c276
                refine lv_aload_n (pc := 187) C0.1 C0.2.1 dX10_readAll_187 rfl (lv_at hl 3 rfl) ?_
                refine xget (pc := 188) C0 hH 78 52 clX10 ⟨Nat.le_of_ble_eq_true rfl, Nat.le_of_ble_eq_true rfl⟩ ⟨rfl, rfl⟩ (Nat.le_of_ble_eq_true rfl) fl_X10_313 (v := .int (ir275 78 52)) rfl dX10_readAll_188 ?_
                refine lv_topi (fun x277 ex277 => ?_)
                refine xputI (pc := 191) C0 (Nat.le_of_ble_eq_true rfl) hH hS 78 52 clX10 ⟨Nat.le_of_ble_eq_true rfl, Nat.le_of_ble_eq_true rfl⟩ ⟨rfl, rfl⟩ ⟨Nat.le_of_ble_eq_true rfl, rfl, rfl⟩ fl_X10_313 (x := x277) ⟨rfl, rfl⟩ dX10_readAll_191 (fun _ locs hH hS _ => ?_)
                have hH : Hd D tA b 78 52 zz (up2 ir275 78 52 x277) Fr275 Gr275 _ := hH
                refine lv_iload (pc := 194) C0.1 C0.2.1 dX10_readAll_194 (lv_at hl 0 rfl) ?_
                refine lv_if_eq (pc := 196) (tgt := 203) C0.1 C0.2.1 dX10_readAll_196 (by decide) (fun c => absurd c (by decide)) (fun _ => ?_)
                refine lv_iconst (pc := 199) (v := 0) C0.1 C0.2.1 dX10_readAll_199 (by decide) ?_
                refine lv_goto (pc := 200) (tgt := 209) C0.1 C0.2.1 dX10_readAll_200 (by decide) ?_
                refine lv_istore_n (pc := 209) (lv' := [(3, .int 0), (5, .int 1), (4, .int q), (0, .ref (b + 78)), (2, .int y)]) C0.1 C0.2.1 dX10_readAll_209 rfl hl (by decide) rfl (fun ls hl => ?_)
                obtain ⟨x278, ex278⟩ : ∃ y_ : Int32, y_ = q + 1 := ⟨_, rfl⟩
                have : Int32.toInt 1 = 1 := rfl
                have hx278 : Int32.toInt x278 = Int32.toInt q + Int32.toInt 1 := by rw [ex278]; exact fb_addI (by omega) (by omega)
                refine lv_iinc (pc := 210) (v := x278) (lv' := [(4, .int x278), (3, .int 0), (5, .int 1), (0, .ref (b + 78)), (2, .int y)]) C0.1 C0.2.1 dX10_readAll_210 hl (k := 2) rfl (by rw [ex278]; rfl) (by decide) rfl (fun ls hl => ?_)
                refine lv_goto (pc := 213) (tgt := 80) C0.1 C0.2.1 dX10_readAll_213 (by decide) ?_
                exact ih80 x278 0 (up2 ir275 78 52 x277) Fr275 Gr275 _ _ _ (RO.i (RO.tr (RO.f h1 (by decide)) honr275 (by decide) (by decide)) (by decide)) hT hTK hPI hCB (show Int32.toInt (ir275 78 18) = _ from by omega) hi_78_17 (fun w => PMm.one (hP1 w) (by decide)) (show 0 ≤ Int32.toInt x278 ∧ Int32.toInt x278 ≤ Int32.toInt (ir275 78 19) from by omega) (show Int32.toInt (ir275 78 19) - Int32.toInt x278 ≤ _ from by omega) (fun _ => by omega) (show (1 ≤ Int32.toInt (ir275 78 32) ∧ Int32.toInt (ir275 78 32) ≤ 1 + 2 * Int32.toInt x278) ∧ Int32.toInt (ir275 78 40) ≤ 2 * Int32.toInt x278 ∧ Int32.toInt (ir275 78 47) ≤ 3 * Int32.toInt x278 + 1 from by omega) (fun w => absurd w (by omega)) (Or.inl (by omega)) hH hS (lv_sub hl [0, 1, 3, 4] rfl)
              · have : Int32.toInt 0 = 0 := rfl
                have c276 : ¬ _ := fun q => c276 (Int32.toInt_inj.mp q)
                refine lv_aload_n (pc := 177) C0.1 C0.2.1 dX10_readAll_177 rfl (lv_at hl 3 rfl) ?_
                refine xget (pc := 178) C0 hH 78 24 clX10 ⟨Nat.le_of_ble_eq_true rfl, Nat.le_of_ble_eq_true rfl⟩ ⟨rfl, rfl⟩ (Nat.le_of_ble_eq_true rfl) fl_X10_54 (v := .ref (b + 92)) rfl dX10_readAll_178 ?_
                refine lv_iload (pc := 181) C0.1 C0.2.1 dX10_readAll_181 (lv_at hl 1 rfl) ?_
                refine xiald (pc := 183) (N := 600) C0 hH 92 ⟨Nat.le_of_ble_eq_true rfl, Nat.le_of_ble_eq_true rfl⟩ ⟨rfl, rfl⟩ (vI (by omega) (by omega)) dX10_readAll_183 ?_
                refine lv_goto (pc := 184) (tgt := 191) C0.1 C0.2.1 dX10_readAll_184 (by decide) ?_
                refine lv_topi (fun x279 ex279 => ?_)
                refine xputI (pc := 191) C0 (Nat.le_of_ble_eq_true rfl) hH hS 78 52 clX10 ⟨Nat.le_of_ble_eq_true rfl, Nat.le_of_ble_eq_true rfl⟩ ⟨rfl, rfl⟩ ⟨Nat.le_of_ble_eq_true rfl, rfl, rfl⟩ fl_X10_313 (x := x279) ⟨rfl, rfl⟩ dX10_readAll_191 (fun _ locs hH hS _ => ?_)
                have hH : Hd D tA b 78 52 zz (up2 ir275 78 52 x279) Fr275 Gr275 _ := hH
                refine lv_iload (pc := 194) C0.1 C0.2.1 dX10_readAll_194 (lv_at hl 0 rfl) ?_
                refine lv_if_eq (pc := 196) (tgt := 203) C0.1 C0.2.1 dX10_readAll_196 (by decide) (fun c => absurd c (by decide)) (fun _ => ?_)
                refine lv_iconst (pc := 199) (v := 0) C0.1 C0.2.1 dX10_readAll_199 (by decide) ?_
                refine lv_goto (pc := 200) (tgt := 209) C0.1 C0.2.1 dX10_readAll_200 (by decide) ?_
                refine lv_istore_n (pc := 209) (lv' := [(3, .int 0), (5, .int 1), (4, .int q), (0, .ref (b + 78)), (2, .int y)]) C0.1 C0.2.1 dX10_readAll_209 rfl hl (by decide) rfl (fun ls hl => ?_)
                obtain ⟨x280, ex280⟩ : ∃ y_ : Int32, y_ = q + 1 := ⟨_, rfl⟩
                have : Int32.toInt 1 = 1 := rfl
                have hx280 : Int32.toInt x280 = Int32.toInt q + Int32.toInt 1 := by rw [ex280]; exact fb_addI (by omega) (by omega)
                refine lv_iinc (pc := 210) (v := x280) (lv' := [(4, .int x280), (3, .int 0), (5, .int 1), (0, .ref (b + 78)), (2, .int y)]) C0.1 C0.2.1 dX10_readAll_210 hl (k := 2) rfl (by rw [ex280]; rfl) (by decide) rfl (fun ls hl => ?_)
                refine lv_goto (pc := 213) (tgt := 80) C0.1 C0.2.1 dX10_readAll_213 (by decide) ?_
                exact ih80 x280 0 (up2 ir275 78 52 x279) Fr275 Gr275 _ _ _ (RO.i (RO.tr (RO.f h1 (by decide)) honr275 (by decide) (by decide)) (by decide)) hT hTK hPI hCB (show Int32.toInt (ir275 78 18) = _ from by omega) hi_78_17 (fun w => PMm.one (hP1 w) (by decide)) (show 0 ≤ Int32.toInt x280 ∧ Int32.toInt x280 ≤ Int32.toInt (ir275 78 19) from by omega) (show Int32.toInt (ir275 78 19) - Int32.toInt x280 ≤ _ from by omega) (fun _ => by omega) (show (1 ≤ Int32.toInt (ir275 78 32) ∧ Int32.toInt (ir275 78 32) ≤ 1 + 2 * Int32.toInt x280) ∧ Int32.toInt (ir275 78 40) ≤ 2 * Int32.toInt x280 ∧ Int32.toInt (ir275 78 47) ≤ 3 * Int32.toInt x280 + 1 from by omega) (fun w => absurd w (by omega)) (Or.inl (by omega)) hH hS (lv_sub hl [0, 1, 3, 4] rfl)
  refine lv_aload_n (pc := 0) C0.1 C0.2.1 dX10_readAll_0 rfl (lv_at hl 0 rfl) ?_
  refine lv_aload_n (pc := 1) C0.1 C0.2.1 dX10_readAll_1 rfl (lv_at hl 1 rfl) ?_
  refine xputR (pc := 2) C0 (Nat.le_of_ble_eq_true rfl) hH hS 78 17 85 clX10 ⟨Nat.le_of_ble_eq_true rfl, Nat.le_of_ble_eq_true rfl⟩ ⟨rfl, rfl⟩ ⟨Nat.le_of_ble_eq_true rfl, rfl, rfl⟩ (by decide) fl_X10_39 (fun q => ⟨rfl, rfl⟩) dX10_readAll_2 (fun _ locs hH hS _ => ?_)
  rw [upz_zz] at hH
  have hH : Hd D tA b 78 52 zz (up2 i 78 17 (nI 85)) F G _ := hH
  refine lv_aload_n (pc := 5) C0.1 C0.2.1 dX10_readAll_5 rfl (lv_at hl 0 rfl) ?_
  refine lv_iload_n (pc := 6) C0.1 C0.2.1 dX10_readAll_6 rfl (lv_at hl 2 rfl) ?_
  refine xputI (pc := 7) C0 (Nat.le_of_ble_eq_true rfl) hH hS 78 18 clX10 ⟨Nat.le_of_ble_eq_true rfl, Nat.le_of_ble_eq_true rfl⟩ ⟨rfl, rfl⟩ ⟨Nat.le_of_ble_eq_true rfl, rfl, rfl⟩ fl_X10_251 (x := y) ⟨rfl, rfl⟩ dX10_readAll_7 (fun _ locs hH hS _ => ?_)
  have hH : Hd D tA b 78 52 zz (up2 (up2 i 78 17 (nI 85)) 78 18 y) F G _ := hH
  refine lv_aload_n (pc := 10) C0.1 C0.2.1 dX10_readAll_10 rfl (lv_at hl 0 rfl) ?_
  refine lv_iconst (pc := 11) (v := 0) C0.1 C0.2.1 dX10_readAll_11 (by decide) ?_
  refine xputI (pc := 12) C0 (Nat.le_of_ble_eq_true rfl) hH hS 78 30 clX10 ⟨Nat.le_of_ble_eq_true rfl, Nat.le_of_ble_eq_true rfl⟩ ⟨rfl, rfl⟩ ⟨Nat.le_of_ble_eq_true rfl, rfl, rfl⟩ fl_X10_245 (x := 0) ⟨rfl, rfl⟩ dX10_readAll_12 (fun _ locs hH hS _ => ?_)
  have hH : Hd D tA b 78 52 zz (up2 (up2 (up2 i 78 17 (nI 85)) 78 18 y) 78 30 0) F G _ := hH
  refine lv_aload_n (pc := 15) C0.1 C0.2.1 dX10_readAll_15 rfl (lv_at hl 0 rfl) ?_
  refine lv_bipush (pc := 16) (v := (-9)) C0.1 C0.2.1 dX10_readAll_16 (by decide) ?_
  refine xputI (pc := 18) C0 (Nat.le_of_ble_eq_true rfl) hH hS 78 31 clX10 ⟨Nat.le_of_ble_eq_true rfl, Nat.le_of_ble_eq_true rfl⟩ ⟨rfl, rfl⟩ ⟨Nat.le_of_ble_eq_true rfl, rfl, rfl⟩ fl_X10_248 (x := (-9)) ⟨rfl, rfl⟩ dX10_readAll_18 (fun _ locs hH hS _ => ?_)
  have hH : Hd D tA b 78 52 zz (up2 (up2 (up2 (up2 i 78 17 (nI 85)) 78 18 y) 78 30 0) 78 31 (-9)) F G _ := hH
  refine lv_aload_n (pc := 21) C0.1 C0.2.1 dX10_readAll_21 rfl (lv_at hl 0 rfl) ?_
  refine lv_iconst (pc := 22) (v := 0) C0.1 C0.2.1 dX10_readAll_22 (by decide) ?_
  refine xputI (pc := 23) C0 (Nat.le_of_ble_eq_true rfl) hH hS 78 32 clX10 ⟨Nat.le_of_ble_eq_true rfl, Nat.le_of_ble_eq_true rfl⟩ ⟨rfl, rfl⟩ ⟨Nat.le_of_ble_eq_true rfl, rfl, rfl⟩ fl_X10_281 (x := 0) ⟨rfl, rfl⟩ dX10_readAll_23 (fun _ locs hH hS _ => ?_)
  have hH : Hd D tA b 78 52 zz (up2 (up2 (up2 (up2 (up2 i 78 17 (nI 85)) 78 18 y) 78 30 0) 78 31 (-9)) 78 32 0) F G _ := hH
  refine lv_aload_n (pc := 26) C0.1 C0.2.1 dX10_readAll_26 rfl (lv_at hl 0 rfl) ?_
  refine lv_iconst (pc := 27) (v := 0) C0.1 C0.2.1 dX10_readAll_27 (by decide) ?_
  refine xputI (pc := 28) C0 (Nat.le_of_ble_eq_true rfl) hH hS 78 40 clX10 ⟨Nat.le_of_ble_eq_true rfl, Nat.le_of_ble_eq_true rfl⟩ ⟨rfl, rfl⟩ ⟨Nat.le_of_ble_eq_true rfl, rfl, rfl⟩ fl_X10_287 (x := 0) ⟨rfl, rfl⟩ dX10_readAll_28 (fun _ locs hH hS _ => ?_)
  have hH : Hd D tA b 78 52 zz (up2 (up2 (up2 (up2 (up2 (up2 i 78 17 (nI 85)) 78 18 y) 78 30 0) 78 31 (-9)) 78 32 0) 78 40 0) F G _ := hH
  refine lv_aload_n (pc := 31) C0.1 C0.2.1 dX10_readAll_31 rfl (lv_at hl 0 rfl) ?_
  refine lv_iconst (pc := 32) (v := 0) C0.1 C0.2.1 dX10_readAll_32 (by decide) ?_
  refine xputI (pc := 33) C0 (Nat.le_of_ble_eq_true rfl) hH hS 78 47 clX10 ⟨Nat.le_of_ble_eq_true rfl, Nat.le_of_ble_eq_true rfl⟩ ⟨rfl, rfl⟩ ⟨Nat.le_of_ble_eq_true rfl, rfl, rfl⟩ fl_X10_290 (x := 0) ⟨rfl, rfl⟩ dX10_readAll_33 (fun _ locs hH hS _ => ?_)
  have hH : Hd D tA b 78 52 zz (up2 (up2 (up2 (up2 (up2 (up2 (up2 i 78 17 (nI 85)) 78 18 y) 78 30 0) 78 31 (-9)) 78 32 0) 78 40 0) 78 47 0) F G _ := hH
  have hi_78_17 : (up2 (up2 (up2 (up2 (up2 (up2 (up2 i 78 17 (nI 85)) 78 18 y) 78 30 0) 78 31 (-9)) 78 32 0) 78 40 0) 78 47 0) 78 17 = nI 85 := rfl
  have hPI : PLI (up2 (up2 (up2 (up2 (up2 (up2 (up2 i 78 17 (nI 85)) 78 18 y) 78 30 0) 78 31 (-9)) 78 32 0) 78 40 0) 78 47 0) := Or.inl rfl
  refine lv_aload_n (pc := 36) C0.1 C0.2.1 dX10_readAll_36 rfl (lv_at hl 0 rfl) ?_
  refine xcVV (pc := 37) 78 [] (m_measure_85 l D tA b (up2 (up2 (up2 (up2 (up2 (up2 (up2 i 78 17 (nI 85)) 78 18 y) 78 30 0) 78 31 (-9)) 78 32 0) 78 40 0) 78 47 0) F G hi_78_17 (show 0 ≤ Int32.toInt y ∧ Int32.toInt y ≤ 600 from by omega) (show 0 ≤ Int32.toInt (i 78 10) ∧ Int32.toInt (i 78 10) ≤ 8 from by omega) hCB) C0 hH hS clX10 rfl ⟨⟨Nat.le_of_ble_eq_true rfl, Nat.le_of_ble_eq_true rfl⟩, rfl, rfl⟩ cw_X10_330 rfl ⟨Nat.le_of_ble_eq_true rfl, Nat.le_of_ble_eq_true rfl⟩ hl.1 rfl (Nat.le_of_ble_eq_true rfl) dX10_readAll_37 ⟨Nat.le_of_ble_eq_true rfl, Nat.le_of_ble_eq_true rfl⟩ (fun ir1 Fr1 Gr1 _ locs hp hH hS => ?_)
  obtain ⟨honr1, hCB⟩ := hp
  have hCB : CB Fr1 := hCB
  have hWA : WA Fr1 := WA.ro (i := (up2 (up2 (up2 (up2 (up2 (up2 (up2 i 78 17 (nI 85)) 78 18 y) 78 30 0) 78 31 (-9)) 78 32 0) 78 40 0) 78 47 0)) (F := F) hWA honr1 (by decide)
  have hPI : PLI ir1 := PLI.ro (i := (up2 (up2 (up2 (up2 (up2 (up2 (up2 i 78 17 (nI 85)) 78 18 y) 78 30 0) 78 31 (-9)) 78 32 0) 78 40 0) 78 47 0)) (F := F) hPI honr1 (by decide)
  have hTA : TA (Fr1 89) (Fr1 90) := by rw [show Fr1 89 = F 89 from (honr1.2 89 (by decide)).1, show Fr1 90 = F 90 from (honr1.2 90 (by decide)).1]; exact hTA
  have hBR : BR ir1 := BR.ro (i := (up2 (up2 (up2 (up2 (up2 (up2 (up2 i 78 17 (nI 85)) 78 18 y) 78 30 0) 78 31 (-9)) 78 32 0) 78 40 0) 78 47 0)) (F := F) hBR honr1 (by decide)
  have hi_78_17 : ir1 78 17 = nI 85 := (honr1.1 78 17 (Or.inr (by decide))).trans hi_78_17
  have ek_32r1 : Int32.toInt (ir1 78 32) = Int32.toInt 0 := congrArg Int32.toInt (honr1.1 78 32 (Or.inr (by decide)))
  have ek_40r1 : Int32.toInt (ir1 78 40) = Int32.toInt 0 := congrArg Int32.toInt (honr1.1 78 40 (Or.inr (by decide)))
  have ek_47r1 : Int32.toInt (ir1 78 47) = Int32.toInt 0 := congrArg Int32.toInt (honr1.1 78 47 (Or.inr (by decide)))
  have ek_51r1 : Int32.toInt (ir1 78 51) = Int32.toInt (i 78 51) := congrArg Int32.toInt (honr1.1 78 51 (Or.inr (by decide)))
  have ek_19r1 : Int32.toInt (ir1 78 19) = Int32.toInt (i 78 19) := congrArg Int32.toInt (honr1.1 78 19 (Or.inr (by decide)))
  have ek_18r1 : Int32.toInt (ir1 78 18) = Int32.toInt y := congrArg Int32.toInt (honr1.1 78 18 (Or.inr (by decide)))
  have ek_30r1 : Int32.toInt (ir1 78 30) = Int32.toInt 0 := congrArg Int32.toInt (honr1.1 78 30 (Or.inr (by decide)))
  refine lv_aload_n (pc := 40) C0.1 C0.2.1 dX10_readAll_40 rfl (lv_at hl 0 rfl) ?_
  refine xcVI (pc := 41) 78 [] (m_cutUp_85 l D tA b ir1 Fr1 Gr1 hi_78_17 (show 0 ≤ Int32.toInt (ir1 78 18) ∧ Int32.toInt (ir1 78 18) ≤ 600 from by omega) hTA hCB hPI) C0 hH hS clX10 rfl ⟨⟨Nat.le_of_ble_eq_true rfl, Nat.le_of_ble_eq_true rfl⟩, rfl, rfl⟩ cw_X10_333 rfl ⟨Nat.le_of_ble_eq_true rfl, Nat.le_of_ble_eq_true rfl⟩ hl.1 rfl (Nat.le_of_ble_eq_true rfl) dX10_readAll_41 ⟨Nat.le_of_ble_eq_true rfl, Nat.le_of_ble_eq_true rfl⟩ (fun r2 ir2 Fr2 Gr2 _ locs hp hH hS => ?_)
  obtain ⟨honr2, hTK, hHD, hPI, h01r2, hplr2⟩ := hp
  have hTK : TKm ir2 Fr2 := hTK
  have hHD : HD ir2 Fr2 := hHD
  have hPI : PLI ir2 := hPI
  have hTKl := hTK.1
  have hCB : CB Fr2 := CB.ro (F := Fr1) hCB honr2 (by decide)
  have hWA : WA Fr2 := WA.ro (i := ir1) (F := Fr1) hWA honr2 (by decide)
  have z32 : ir2 78 32 = 0 := (honr2.1 78 32 (Or.inr (by decide))).trans (honr1.1 78 32 (Or.inr (by decide)))
  have z40 : ir2 78 40 = 0 := (honr2.1 78 40 (Or.inr (by decide))).trans (honr1.1 78 40 (Or.inr (by decide)))
  have z47 : ir2 78 47 = 0 := (honr2.1 78 47 (Or.inr (by decide))).trans (honr1.1 78 47 (Or.inr (by decide)))
  have hT : TMm ir2 Fr2 := TMm.zero hWA z32 z40 z47
  have hTL := TMm.lin hT
  have hBR : BR ir2 := BR.ro (i := ir1) (F := Fr1) hBR honr2 (by decide)
  have hi_78_17 : ir2 78 17 = nI 85 := (honr2.1 78 17 (Or.inr (by decide))).trans hi_78_17
  have ek_32r2 : Int32.toInt (ir2 78 32) = Int32.toInt (ir1 78 32) := congrArg Int32.toInt (honr2.1 78 32 (Or.inr (by decide)))
  have ek_40r2 : Int32.toInt (ir2 78 40) = Int32.toInt (ir1 78 40) := congrArg Int32.toInt (honr2.1 78 40 (Or.inr (by decide)))
  have ek_47r2 : Int32.toInt (ir2 78 47) = Int32.toInt (ir1 78 47) := congrArg Int32.toInt (honr2.1 78 47 (Or.inr (by decide)))
  have ek_51r2 : Int32.toInt (ir2 78 51) = Int32.toInt (ir1 78 51) := congrArg Int32.toInt (honr2.1 78 51 (Or.inr (by decide)))
  have ek_18r2 : Int32.toInt (ir2 78 18) = Int32.toInt (ir1 78 18) := congrArg Int32.toInt (honr2.1 78 18 (Or.inr (by decide)))
  have hTKl := hTK.1
  refine lv_if_ne (pc := 44) (tgt := 49) C0.1 C0.2.1 dX10_readAll_44 (by decide) (fun c3 => ?_) (fun c3 => ?_)
  · have : Int32.toInt 0 = 0 := rfl
    have c3 : ¬ _ := fun q => c3 (Int32.toInt_inj.mp q)
    refine lv_aload_n (pc := 49) C0.1 C0.2.1 dX10_readAll_49 rfl (lv_at hl 0 rfl) ?_
    refine xget (pc := 50) C0 hH 78 50 clX10 ⟨Nat.le_of_ble_eq_true rfl, Nat.le_of_ble_eq_true rfl⟩ ⟨rfl, rfl⟩ (Nat.le_of_ble_eq_true rfl) fl_X10_118 (v := .ref (b + 113)) rfl dX10_readAll_50 ?_
    refine lv_iconst (pc := 53) (v := 0) C0.1 C0.2.1 dX10_readAll_53 (by decide) ?_
    refine lv_aload_n (pc := 54) C0.1 C0.2.1 dX10_readAll_54 rfl (lv_at hl 0 rfl) ?_
    refine lv_iconst (pc := 55) (v := 0) C0.1 C0.2.1 dX10_readAll_55 (by decide) ?_
    refine lv_iconst (pc := 56) (v := 0) C0.1 C0.2.1 dX10_readAll_56 (by decide) ?_
    refine lv_bipush (pc := 57) (v := (-9)) C0.1 C0.2.1 dX10_readAll_57 (by decide) ?_
    refine lv_bipush (pc := 59) (v := (-9)) C0.1 C0.2.1 dX10_readAll_59 (by decide) ?_
    refine xcVI (pc := 61) 78 [.int 0, .int 0, .int (-9), .int (-9)] (m_newBlock l D tA b ir2 Fr2 Gr2 0 0 (-9) (-9) hT (show Int32.toInt (ir2 78 32) < 1202 from by omega) (show Int32.toInt (ir2 78 47) < 1802 from by omega) (show (Int32.toInt (ir2 78 32) = 0 ∧ Int32.toInt (-9) = -9) ∨ (1 ≤ Int32.toInt (ir2 78 32) ∧ (0 ≤ Int32.toInt (-9) ∧ Int32.toInt (-9) < Int32.toInt (ir2 78 40)) ∧ 0 ≤ Int32.toInt (-9) ∧ Int32.toInt (-9) < 600) from by have : Int32.toInt (-9) = -9 := rfl; omega)) C0 hH hS clX10 rfl ⟨⟨Nat.le_of_ble_eq_true rfl, Nat.le_of_ble_eq_true rfl⟩, rfl, rfl⟩ cw_X10_299 rfl ⟨Nat.le_of_ble_eq_true rfl, Nat.le_of_ble_eq_true rfl⟩ hl.1 rfl (Nat.le_of_ble_eq_true rfl) dX10_readAll_61 ⟨Nat.le_of_ble_eq_true rfl, Nat.le_of_ble_eq_true rfl⟩ (fun r4 ir4 Fr4 Gr4 _ locs hp hH hS => ?_)
    obtain ⟨honr4, hT, h32r4, h47r4, hrbr4, e98r4, e99r4, e102r4⟩ := hp
    have hT : TMm ir4 Fr4 := hT
    have h32r4 : (ir4 78 32).toInt = Int32.toInt (ir2 78 32) + 1 := h32r4
    have h47r4 : Int32.toInt (ir2 78 47) ≤ (ir4 78 47).toInt ∧ (ir4 78 47).toInt ≤ Int32.toInt (ir2 78 47) + 1 := h47r4
    have hrIr4 : Int32.toInt r4 = Int32.toInt (ir2 78 32) := congrArg Int32.toInt hrbr4
    have hTL := TMm.lin hT
    have hTK : TKm ir4 Fr4 := TKm.ro (i := ir2) (F := Fr2) hTK honr4 (by decide)
    have hPI : PLI ir4 := PLI.ro (i := ir2) (F := Fr2) hPI honr4 (by decide)
    have hBR : BR ir4 := BR.ro (i := ir2) (F := Fr2) hBR honr4 (by decide)
    have hCB : CB Fr4 := CB.ro (F := Fr2) hCB honr4 (by decide)
    have hi_78_17 : ir4 78 17 = nI 85 := (honr4.1 78 17 (Or.inr (by decide))).trans hi_78_17
    have ek_40r4 : Int32.toInt (ir4 78 40) = Int32.toInt (ir2 78 40) := congrArg Int32.toInt (honr4.1 78 40 (Or.inr (by decide)))
    have ek_51r4 : Int32.toInt (ir4 78 51) = Int32.toInt (ir2 78 51) := congrArg Int32.toInt (honr4.1 78 51 (Or.inr (by decide)))
    have ek_19r4 : Int32.toInt (ir4 78 19) = Int32.toInt (ir2 78 19) := congrArg Int32.toInt (honr4.1 78 19 (Or.inr (by decide)))
    have ek_18r4 : Int32.toInt (ir4 78 18) = Int32.toInt (ir2 78 18) := congrArg Int32.toInt (honr4.1 78 18 (Or.inr (by decide)))
    have ek_30r4 : Int32.toInt (ir4 78 30) = Int32.toInt (ir2 78 30) := congrArg Int32.toInt (honr4.1 78 30 (Or.inr (by decide)))
    have hTKl := hTK.1
    have : Int32.toInt 0 = 0 := rfl
    refine xiast (pc := 64) (N := 1202) C0 (Nat.le_of_ble_eq_true rfl) hH hS 113 ⟨Nat.le_of_ble_eq_true rfl, Nat.le_of_ble_eq_true rfl⟩ ⟨rfl, rfl⟩ (vI (by omega) (by omega)) dX10_readAll_64 (fun _ locs hH hS _ => ?_)
    have hH : Hd D tA b 78 52 zz ir4 (va_up Fr4 113 (upd (Fr4 113) (Int32.toNatClampNeg 0) r4)) Gr4 _ := hH
    refine lv_aload_n (pc := 65) C0.1 C0.2.1 dX10_readAll_65 rfl (lv_at hl 0 rfl) ?_
    refine lv_iconst (pc := 66) (v := 1) C0.1 C0.2.1 dX10_readAll_66 (by decide) ?_
    refine xputI (pc := 67) C0 (Nat.le_of_ble_eq_true rfl) hH hS 78 51 clX10 ⟨Nat.le_of_ble_eq_true rfl, Nat.le_of_ble_eq_true rfl⟩ ⟨rfl, rfl⟩ ⟨Nat.le_of_ble_eq_true rfl, rfl, rfl⟩ fl_X10_293 (x := 1) ⟨rfl, rfl⟩ dX10_readAll_67 (fun _ locs hH hS _ => ?_)
    have hH : Hd D tA b 78 52 zz (up2 ir4 78 51 1) (va_up Fr4 113 (upd (Fr4 113) (Int32.toNatClampNeg 0) r4)) Gr4 _ := hH
    refine lv_aload_n (pc := 70) C0.1 C0.2.1 dX10_readAll_70 rfl (lv_at hl 0 rfl) ?_
    refine lv_iconst (pc := 71) (v := (-1)) C0.1 C0.2.1 dX10_readAll_71 (by decide) ?_
    refine xputI (pc := 72) C0 (Nat.le_of_ble_eq_true rfl) hH hS 78 52 clX10 ⟨Nat.le_of_ble_eq_true rfl, Nat.le_of_ble_eq_true rfl⟩ ⟨rfl, rfl⟩ ⟨Nat.le_of_ble_eq_true rfl, rfl, rfl⟩ fl_X10_313 (x := (-1)) ⟨rfl, rfl⟩ dX10_readAll_72 (fun _ locs hH hS _ => ?_)
    have hH : Hd D tA b 78 52 zz (up2 (up2 ir4 78 51 1) 78 52 (-1)) (va_up Fr4 113 (upd (Fr4 113) (Int32.toNatClampNeg 0) r4)) Gr4 _ := hH
    refine lv_iconst (pc := 75) (v := 0) C0.1 C0.2.1 dX10_readAll_75 (by decide) ?_
    refine lv_istore_n (pc := 76) (lv' := [(3, .int 0), (0, .ref (b + 78)), (1, .ref (b + 85)), (2, .int y)]) C0.1 C0.2.1 dX10_readAll_76 rfl hl (by decide) rfl (fun ls hl => ?_)
    refine lv_iconst (pc := 77) (v := 0) C0.1 C0.2.1 dX10_readAll_77 (by decide) ?_
    refine lv_istore (pc := 78) (lv' := [(4, .int 0), (3, .int 0), (0, .ref (b + 78)), (1, .ref (b + 85)), (2, .int y)]) C0.1 C0.2.1 dX10_readAll_78 hl (by decide) rfl (fun ls hl => ?_)
    exact L80 600 0 0 (up2 (up2 ir4 78 51 1) 78 52 (-1)) (va_up Fr4 113 (upd (Fr4 113) (Int32.toNatClampNeg 0) r4)) Gr4 _ _ _ (RO.f (RO.i (RO.i (RO.tr (RO.tr (RO.tr (RO.i (RO.i (RO.i (RO.i (RO.i (RO.i (RO.i RO.rf (by decide)) (by decide)) (by decide)) (by decide)) (by decide)) (by decide)) (by decide)) honr1 (by decide) (by decide)) honr2 (by decide) (by decide)) honr4 (by decide) (by decide)) (by decide)) (by decide)) (by decide)) hT hTK hPI hCB (show (ir4 78 18).toInt = _ from by omega) hi_78_17 (fun _ => PMm.start rfl (show (ir4 78 32).toInt = 1 from by have : Int32.toInt 0 = 0 := rfl; have z1 := congrArg Int32.toInt z32; have z2 := congrArg Int32.toInt z40; have z3 := congrArg Int32.toInt z47; omega) (show upd (Fr4 113) (Int32.toNatClampNeg 0) r4 0 = 0 from (upd_s (n := 0)).trans (hrbr4.trans z32)) (show Fr4 98 0 = 0 from (congrFun e98r4 0).trans (by rw [z32]; exact upd_s (n := 0))) (show Fr4 99 0 = 0 from (congrFun e99r4 0).trans (by rw [z32]; exact upd_s (n := 0)))) (show 0 ≤ Int32.toInt 0 ∧ Int32.toInt 0 ≤ Int32.toInt (ir4 78 19) from by have : Int32.toInt 0 = 0 := rfl; have z1 := congrArg Int32.toInt z32; have z2 := congrArg Int32.toInt z40; have z3 := congrArg Int32.toInt z47; omega) (show Int32.toInt (ir4 78 19) - Int32.toInt 0 ≤ 600 from by have : Int32.toInt 0 = 0 := rfl; have z1 := congrArg Int32.toInt z32; have z2 := congrArg Int32.toInt z40; have z3 := congrArg Int32.toInt z47; omega) (fun w => absurd w (by decide)) (show (1 ≤ Int32.toInt (ir4 78 32) ∧ Int32.toInt (ir4 78 32) ≤ 1 + 2 * Int32.toInt 0) ∧ Int32.toInt (ir4 78 40) ≤ 2 * Int32.toInt 0 ∧ Int32.toInt (ir4 78 47) ≤ 3 * Int32.toInt 0 + 1 from by have : Int32.toInt 0 = 0 := rfl; have z1 := congrArg Int32.toInt z32; have z2 := congrArg Int32.toInt z40; have z3 := congrArg Int32.toInt z47; omega) (fun _ w => (congrFun (honr4.2 93 (by decide)).1 0).trans (hHD (by have w : 0 < Int32.toInt (ir4 78 19) := w; omega))) (Or.inr (fun _ => rfl)) hH hS (lv_sub hl [0, 1, 2, 4] rfl)
  · have : Int32.toInt 0 = 0 := rfl
    have c3 := congrArg Int32.toInt c3
    refine lv_iconst (pc := 47) (v := 0) C0.1 C0.2.1 dX10_readAll_47 (by decide) ?_
    exact xzret (pc := 48) C0 hr hH hS dX10_readAll_48 (by decide) ⟨(RO.tr (RO.tr (RO.i (RO.i (RO.i (RO.i (RO.i (RO.i (RO.i RO.rf (by decide)) (by decide)) (by decide)) (by decide)) (by decide)) (by decide)) (by decide)) honr1 (by decide) (by decide)) honr2 (by decide) (by decide)), hTK, hT, hCB, Or.inl rfl, (fun _ => hplr2 (by first | assumption | exact Int32.toInt_inj.mp (by assumption))), hi_78_17, Or.inr ⟨rfl, (congrArg Int32.toInt z32).trans rfl, (congrArg Int32.toInt z40).trans rfl, fun k h1 h2 => ((honr2.2 k (fun q => by simp only [List.mem_cons, List.not_mem_nil, or_false] at q; omega)).1.trans (honr1.2 k (fun q => by simp only [List.mem_cons, List.not_mem_nil, or_false] at q; omega)).1)⟩⟩
set_option maxHeartbeats 4000000 in
set_option maxRecDepth 100000 in
theorem m_readAll_86 (l : Launch) (D : va_G) (tA : Nat → ClassId) (b : Nat) (i F : Nat → Nat → Int32) (G : Nat → Nat → Int64) (y : Int32) (hn : 0 ≤ y.toInt ∧ y.toInt ≤ 600) (hTA : TA (F 89) (F 90)) (hCB : CB F) (hWA : WA F) (hBR : BR i) : xMI l yX10_readAll cX10_readAll 6 (some .boolean) 5 120 D tA b 78 52 i F G [.ref (b + 78), .ref (b + 86), .int y] (fun r u => RO [17, 18, 19, 30, 31, 32, 40, 47, 51, 52] [88, 89, 90, 91, 92, 93, 94, 95, 96, 97, 98, 99, 100, 101, 102, 103, 104, 105, 106, 107, 108, 109, 110, 111, 112, 113] i F G u ∧ TKm u.1 u.2.1 ∧ TMm u.1 u.2.1 ∧ CB u.2.1 ∧ (r = 0 ∨ r = 1) ∧ (r = 0 → (0 ≤ (u.1 78 31).toInt ∧ (u.1 78 31).toInt ≤ 600)) ∧ u.1 78 17 = nI 86 ∧ (1 ≤ (u.1 78 32).toInt ∨ (r = 0 ∧ (u.1 78 32).toInt = 0 ∧ (u.1 78 40).toInt = 0 ∧ ∀ k : Nat, 95 ≤ k → (k < 96 ∨ 98 ≤ k) → u.2.1 k = F k))) := by
  refine xstart RX10 rfl (by decide) (Nat.le_of_ble_eq_true rfl) ?_
  intro p e s m below meth c ls C0 hr hH hS hl
  have hl : lv_has ls 6 [(0, .ref (b + 78)), (1, .ref (b + 86)), (2, .int y)] := hl
  have rg_y := fb_rng y
  have hBr := hBR
  unfold BR at hBr
  have L276 : ∀ (d : Nat) (q : Int32) (iv Fv : Nat → Nat → Int32) (Gv : Nat → Nat → Int64) (H : Heap) (locs : List Loc) (ls : Array Slot), (RO [17, 18, 19, 30, 31, 32, 40, 47, 51, 52] [88, 89, 90, 91, 92, 93, 94, 95, 96, 97, 98, 99, 100, 101, 102, 103, 104, 105, 106, 107, 108, 109, 110, 111, 112, 113] i F G (iv, Fv, Gv)) → (TMm iv Fv) → (TKm iv Fv) → (PLI iv) → (CB Fv) → ((iv 78 18).toInt = y.toInt) → (iv 78 17 = nI 86) → ((iv 78 30).toInt = 0 → PMm 0 iv Fv) → (0 ≤ q.toInt) → (1202 - q.toInt ≤ d) → (1 ≤ (iv 78 32).toInt) → Hd D tA b 78 52 zz iv Fv Gv H → va_S (xA b 78 52) s.heap H locs → lv_has ls 6 [(4, .int q), (0, .ref (b + 78)), (2, .int y)] → W p l e (xR 5 120) s m ([.ref (b + 78), .ref (b + 86), .int y] : List Value).toArray below meth c H locs 0 0 (MQ below (va_Qi (fun r u => RO [17, 18, 19, 30, 31, 32, 40, 47, 51, 52] [88, 89, 90, 91, 92, 93, 94, 95, 96, 97, 98, 99, 100, 101, 102, 103, 104, 105, 106, 107, 108, 109, 110, 111, 112, 113] i F G u ∧ TKm u.1 u.2.1 ∧ TMm u.1 u.2.1 ∧ CB u.2.1 ∧ (r = 0 ∨ r = 1) ∧ (r = 0 → (0 ≤ (u.1 78 31).toInt ∧ (u.1 78 31).toInt ≤ 600)) ∧ u.1 78 17 = nI 86 ∧ (1 ≤ (u.1 78 32).toInt ∨ (r = 0 ∧ (u.1 78 32).toInt = 0 ∧ (u.1 78 40).toInt = 0 ∧ ∀ k : Nat, 95 ≤ k → (k < 96 ∨ 98 ≤ k) → u.2.1 k = F k))) (xB D tA b 78 52 zz) (xA b 78 52)) ([.ref (b + 78), .ref (b + 86), .int y] : List Value).toArray s 0 0 (xA b 78 52)) (F0 m 276 ls []) := by
    intro d
    induction d with
    | zero =>
      intro q iv Fv Gv H locs ls g1 g2 g3 g4 g5 g6 g7 g8 g9 g10 g11 hH hS hl
      have rg_q := fb_rng q
      have hT := g2
      have hTK := g3
      have hPI := g4
      have hBR : BR iv := BR.ro hBR g1 (by decide)
      have hBr := hBR
      unfold BR at hBr
      have hTL := TMm.lin hT
      have hTKl := hTK.1
      have hCB := g5
      have hi_78_17 := g7
      refine lv_iload (pc := 276) C0.1 C0.2.1 dX10_readAll_276 (lv_at hl 0 rfl) ?_
      refine lv_aload_n (pc := 278) C0.1 C0.2.1 dX10_readAll_278 rfl (lv_at hl 1 rfl) ?_
      refine xget (pc := 279) C0 hH 78 51 clX10 ⟨Nat.le_of_ble_eq_true rfl, Nat.le_of_ble_eq_true rfl⟩ ⟨rfl, rfl⟩ (Nat.le_of_ble_eq_true rfl) fl_X10_293 (v := .int (iv 78 51)) rfl dX10_readAll_279 ?_
      have hle : (iv 78 51).toInt ≤ 1202 ∨ ¬ (iv 78 30).toInt = 0 := if w : (iv 78 30).toInt = 0 then Or.inl (by have := (g8 w).1; omega) else Or.inr w
      refine lv_icmp_ge (pc := 282) (tgt := 338) C0.1 C0.2.1 dX10_readAll_282 (by decide) (fun c201 => ?_) (fun c201 => ?_)
      · have c201 := Int32.le_iff_toInt_le.mp c201
        refine lv_aload_n (pc := 338) C0.1 C0.2.1 dX10_readAll_338 rfl (lv_at hl 1 rfl) ?_
        refine xget (pc := 339) C0 hH 78 30 clX10 ⟨Nat.le_of_ble_eq_true rfl, Nat.le_of_ble_eq_true rfl⟩ ⟨rfl, rfl⟩ (Nat.le_of_ble_eq_true rfl) fl_X10_245 (v := .int (iv 78 30)) rfl dX10_readAll_339 ?_
        refine lv_if_ne (pc := 342) (tgt := 349) C0.1 C0.2.1 dX10_readAll_342 (by decide) (fun c202 => ?_) (fun c202 => ?_)
        · have : Int32.toInt 0 = 0 := rfl
          have c202 : ¬ _ := fun q => c202 (Int32.toInt_inj.mp q)
          refine lv_iconst (pc := 349) (v := 0) C0.1 C0.2.1 dX10_readAll_349 (by decide) ?_
          exact xzret (pc := 350) C0 hr hH hS dX10_readAll_350 (by decide) ⟨g1, hTK, hT, hCB, (by decide), (fun _ => hPI.resolve_left (fun w => absurd w (by assumption))), hi_78_17, Or.inl (show 1 ≤ Int32.toInt (iv 78 32) from by omega)⟩
        · have : Int32.toInt 0 = 0 := rfl
          have c202 := congrArg Int32.toInt c202
          refine lv_iconst (pc := 345) (v := 1) C0.1 C0.2.1 dX10_readAll_345 (by decide) ?_
          refine lv_goto (pc := 346) (tgt := 350) C0.1 C0.2.1 dX10_readAll_346 (by decide) ?_
          exact xzret (pc := 350) C0 hr hH hS dX10_readAll_350 (by decide) ⟨g1, hTK, hT, hCB, (by decide), (fun q => absurd q (by decide)), hi_78_17, Or.inl (show 1 ≤ Int32.toInt (iv 78 32) from by omega)⟩
      · have c201 : ¬ _ := fun q => c201 (Int32.le_iff_toInt_le.mpr q)
        refine lv_aload_n (pc := 285) C0.1 C0.2.1 dX10_readAll_285 rfl (lv_at hl 1 rfl) ?_
        refine xget (pc := 286) C0 hH 78 30 clX10 ⟨Nat.le_of_ble_eq_true rfl, Nat.le_of_ble_eq_true rfl⟩ ⟨rfl, rfl⟩ (Nat.le_of_ble_eq_true rfl) fl_X10_245 (v := .int (iv 78 30)) rfl dX10_readAll_286 ?_
        have : Int32.toInt 0 = 0 := rfl
        refine lv_if_ne (pc := 289) (tgt := 338) C0.1 C0.2.1 dX10_readAll_289 (by decide) (fun _ => ?_) (fun c => absurd c (fun q => absurd (congrArg Int32.toInt q) (by omega)))
        refine lv_aload_n (pc := 338) C0.1 C0.2.1 dX10_readAll_338 rfl (lv_at hl 1 rfl) ?_
        refine xget (pc := 339) C0 hH 78 30 clX10 ⟨Nat.le_of_ble_eq_true rfl, Nat.le_of_ble_eq_true rfl⟩ ⟨rfl, rfl⟩ (Nat.le_of_ble_eq_true rfl) fl_X10_245 (v := .int (iv 78 30)) rfl dX10_readAll_339 ?_
        refine lv_if_ne (pc := 342) (tgt := 349) C0.1 C0.2.1 dX10_readAll_342 (by decide) (fun c203 => ?_) (fun c203 => ?_)
        · have : Int32.toInt 0 = 0 := rfl
          have c203 : ¬ _ := fun q => c203 (Int32.toInt_inj.mp q)
          refine lv_iconst (pc := 349) (v := 0) C0.1 C0.2.1 dX10_readAll_349 (by decide) ?_
          exact xzret (pc := 350) C0 hr hH hS dX10_readAll_350 (by decide) ⟨g1, hTK, hT, hCB, (by decide), (fun _ => hPI.resolve_left (fun w => absurd w (by assumption))), hi_78_17, Or.inl (show 1 ≤ Int32.toInt (iv 78 32) from by omega)⟩
        · have : Int32.toInt 0 = 0 := rfl
          have c203 := congrArg Int32.toInt c203
          refine lv_iconst (pc := 345) (v := 1) C0.1 C0.2.1 dX10_readAll_345 (by decide) ?_
          refine lv_goto (pc := 346) (tgt := 350) C0.1 C0.2.1 dX10_readAll_346 (by decide) ?_
          exact xzret (pc := 350) C0 hr hH hS dX10_readAll_350 (by decide) ⟨g1, hTK, hT, hCB, (by decide), (fun q => absurd q (by decide)), hi_78_17, Or.inl (show 1 ≤ Int32.toInt (iv 78 32) from by omega)⟩
    | succ d ih276 =>
      intro q iv Fv Gv H locs ls g1 g2 g3 g4 g5 g6 g7 g8 g9 g10 g11 hH hS hl
      have rg_q := fb_rng q
      have hT := g2
      have hTK := g3
      have hPI := g4
      have hBR : BR iv := BR.ro hBR g1 (by decide)
      have hBr := hBR
      unfold BR at hBr
      have hTL := TMm.lin hT
      have hTKl := hTK.1
      have hCB := g5
      have hi_78_17 := g7
      refine lv_iload (pc := 276) C0.1 C0.2.1 dX10_readAll_276 (lv_at hl 0 rfl) ?_
      refine lv_aload_n (pc := 278) C0.1 C0.2.1 dX10_readAll_278 rfl (lv_at hl 1 rfl) ?_
      refine xget (pc := 279) C0 hH 78 51 clX10 ⟨Nat.le_of_ble_eq_true rfl, Nat.le_of_ble_eq_true rfl⟩ ⟨rfl, rfl⟩ (Nat.le_of_ble_eq_true rfl) fl_X10_293 (v := .int (iv 78 51)) rfl dX10_readAll_279 ?_
      refine lv_icmp_ge (pc := 282) (tgt := 338) C0.1 C0.2.1 dX10_readAll_282 (by decide) (fun c201 => ?_) (fun c201 => ?_)
      · have c201 := Int32.le_iff_toInt_le.mp c201
        refine lv_aload_n (pc := 338) C0.1 C0.2.1 dX10_readAll_338 rfl (lv_at hl 1 rfl) ?_
        refine xget (pc := 339) C0 hH 78 30 clX10 ⟨Nat.le_of_ble_eq_true rfl, Nat.le_of_ble_eq_true rfl⟩ ⟨rfl, rfl⟩ (Nat.le_of_ble_eq_true rfl) fl_X10_245 (v := .int (iv 78 30)) rfl dX10_readAll_339 ?_
        refine lv_if_ne (pc := 342) (tgt := 349) C0.1 C0.2.1 dX10_readAll_342 (by decide) (fun c202 => ?_) (fun c202 => ?_)
        · have : Int32.toInt 0 = 0 := rfl
          have c202 : ¬ _ := fun q => c202 (Int32.toInt_inj.mp q)
          refine lv_iconst (pc := 349) (v := 0) C0.1 C0.2.1 dX10_readAll_349 (by decide) ?_
          exact xzret (pc := 350) C0 hr hH hS dX10_readAll_350 (by decide) ⟨g1, hTK, hT, hCB, (by decide), (fun _ => hPI.resolve_left (fun w => absurd w (by assumption))), hi_78_17, Or.inl (show 1 ≤ Int32.toInt (iv 78 32) from by omega)⟩
        · have : Int32.toInt 0 = 0 := rfl
          have c202 := congrArg Int32.toInt c202
          refine lv_iconst (pc := 345) (v := 1) C0.1 C0.2.1 dX10_readAll_345 (by decide) ?_
          refine lv_goto (pc := 346) (tgt := 350) C0.1 C0.2.1 dX10_readAll_346 (by decide) ?_
          exact xzret (pc := 350) C0 hr hH hS dX10_readAll_350 (by decide) ⟨g1, hTK, hT, hCB, (by decide), (fun q => absurd q (by decide)), hi_78_17, Or.inl (show 1 ≤ Int32.toInt (iv 78 32) from by omega)⟩
      · have c201 : ¬ _ := fun q => c201 (Int32.le_iff_toInt_le.mpr q)
        refine lv_aload_n (pc := 285) C0.1 C0.2.1 dX10_readAll_285 rfl (lv_at hl 1 rfl) ?_
        refine xget (pc := 286) C0 hH 78 30 clX10 ⟨Nat.le_of_ble_eq_true rfl, Nat.le_of_ble_eq_true rfl⟩ ⟨rfl, rfl⟩ (Nat.le_of_ble_eq_true rfl) fl_X10_245 (v := .int (iv 78 30)) rfl dX10_readAll_286 ?_
        refine lv_if_ne (pc := 289) (tgt := 338) C0.1 C0.2.1 dX10_readAll_289 (by decide) (fun c203 => ?_) (fun c203 => ?_)
        · have : Int32.toInt 0 = 0 := rfl
          have c203 : ¬ _ := fun q => c203 (Int32.toInt_inj.mp q)
          refine lv_aload_n (pc := 338) C0.1 C0.2.1 dX10_readAll_338 rfl (lv_at hl 1 rfl) ?_
          refine xget (pc := 339) C0 hH 78 30 clX10 ⟨Nat.le_of_ble_eq_true rfl, Nat.le_of_ble_eq_true rfl⟩ ⟨rfl, rfl⟩ (Nat.le_of_ble_eq_true rfl) fl_X10_245 (v := .int (iv 78 30)) rfl dX10_readAll_339 ?_
          refine lv_if_ne (pc := 342) (tgt := 349) C0.1 C0.2.1 dX10_readAll_342 (by decide) (fun c204 => ?_) (fun c204 => ?_)
          · have : Int32.toInt 0 = 0 := rfl
            have c204 : ¬ _ := fun q => c204 (Int32.toInt_inj.mp q)
            refine lv_iconst (pc := 349) (v := 0) C0.1 C0.2.1 dX10_readAll_349 (by decide) ?_
            exact xzret (pc := 350) C0 hr hH hS dX10_readAll_350 (by decide) ⟨g1, hTK, hT, hCB, (by decide), (fun _ => hPI.resolve_left (fun w => absurd w (by assumption))), hi_78_17, Or.inl (show 1 ≤ Int32.toInt (iv 78 32) from by omega)⟩
          · have : Int32.toInt 0 = 0 := rfl
            have c204 := congrArg Int32.toInt c204
            refine lv_iconst (pc := 345) (v := 1) C0.1 C0.2.1 dX10_readAll_345 (by decide) ?_
            refine lv_goto (pc := 346) (tgt := 350) C0.1 C0.2.1 dX10_readAll_346 (by decide) ?_
            exact xzret (pc := 350) C0 hr hH hS dX10_readAll_350 (by decide) ⟨g1, hTK, hT, hCB, (by decide), (fun q => absurd q (by decide)), hi_78_17, Or.inl (show 1 ≤ Int32.toInt (iv 78 32) from by omega)⟩
        · have : Int32.toInt 0 = 0 := rfl
          have c203 := congrArg Int32.toInt c203
          have hP := g8 (by have : Int32.toInt 0 = 0 := rfl; omega)
          have hPl := hP.1
          have hpl := PMm.lt hP (x := q) (by omega)
          refine lv_aload_n (pc := 292) C0.1 C0.2.1 dX10_readAll_292 rfl (lv_at hl 1 rfl) ?_
          refine xget (pc := 293) C0 hH 78 33 clX10 ⟨Nat.le_of_ble_eq_true rfl, Nat.le_of_ble_eq_true rfl⟩ ⟨rfl, rfl⟩ (Nat.le_of_ble_eq_true rfl) fl_X10_73 (v := .ref (b + 98)) rfl dX10_readAll_293 ?_
          refine lv_aload_n (pc := 296) C0.1 C0.2.1 dX10_readAll_296 rfl (lv_at hl 1 rfl) ?_
          refine xget (pc := 297) C0 hH 78 50 clX10 ⟨Nat.le_of_ble_eq_true rfl, Nat.le_of_ble_eq_true rfl⟩ ⟨rfl, rfl⟩ (Nat.le_of_ble_eq_true rfl) fl_X10_118 (v := .ref (b + 113)) rfl dX10_readAll_297 ?_
          refine lv_iload (pc := 300) C0.1 C0.2.1 dX10_readAll_300 (lv_at hl 0 rfl) ?_
          refine xiald (pc := 302) (N := 1202) C0 hH 113 ⟨Nat.le_of_ble_eq_true rfl, Nat.le_of_ble_eq_true rfl⟩ ⟨rfl, rfl⟩ (vI (by omega) (by omega)) dX10_readAll_302 ?_
          refine xiald (pc := 303) (N := 1202) C0 hH 98 ⟨Nat.le_of_ble_eq_true rfl, Nat.le_of_ble_eq_true rfl⟩ ⟨rfl, rfl⟩ (vI hpl.1.1 (by have := hpl.1.2; omega)) dX10_readAll_303 ?_
          refine lv_iconst (pc := 304) (v := 4) C0.1 C0.2.1 dX10_readAll_304 (by decide) ?_
          refine lv_icmp_ne (pc := 305) (tgt := 332) C0.1 C0.2.1 dX10_readAll_305 (by decide) (fun c205 => ?_) (fun c205 => ?_)
          · have : Int32.toInt 4 = 4 := rfl
            have c205 : ¬ _ := fun q => c205 (Int32.toInt_inj.mp q)
            obtain ⟨x206, ex206⟩ : ∃ y_ : Int32, y_ = q + 1 := ⟨_, rfl⟩
            have : Int32.toInt 1 = 1 := rfl
            have hx206 : Int32.toInt x206 = Int32.toInt q + Int32.toInt 1 := by rw [ex206]; exact fb_addI (by omega) (by omega)
            refine lv_iinc (pc := 332) (v := x206) (lv' := [(4, .int x206), (0, .ref (b + 78)), (2, .int y)]) C0.1 C0.2.1 dX10_readAll_332 hl (k := 0) rfl (by rw [ex206]; rfl) (by decide) rfl (fun ls hl => ?_)
            refine lv_goto (pc := 335) (tgt := 276) C0.1 C0.2.1 dX10_readAll_335 (by decide) ?_
            exact ih276 x206 iv Fv Gv _ _ _ g1 hT hTK hPI hCB g6 g7 g8 (by omega) (by omega) g11 hH hS (lv_sub hl [0, 1, 2] rfl)
          · have : Int32.toInt 4 = 4 := rfl
            have c205 := congrArg Int32.toInt c205
            have hk4 : Int32.toInt (Fv 98 (Int32.toNatClampNeg (Fv 113 (Int32.toNatClampNeg q)))) = Int32.toInt 4 := (by assumption)
            have hb0 : ¬ (Fv 113 (Int32.toNatClampNeg q)) = 0 := fun w => by rw [w, show Int32.toNatClampNeg 0 = 0 from rfl, hP.2.2.2.1] at hk4; exact absurd hk4 (by decide)
            have hb0I : ¬ Int32.toInt (Fv 113 (Int32.toNatClampNeg q)) = 0 := fun w => hb0 (Int32.toInt_inj.mp w)
            have hpt := TMm.pt hT (x := Fv 113 (Int32.toNatClampNeg q)) (by omega)
            refine lv_aload_n (pc := 308) C0.1 C0.2.1 dX10_readAll_308 rfl (lv_at hl 1 rfl) ?_
            refine lv_bipush (pc := 309) (v := 6) C0.1 C0.2.1 dX10_readAll_309 (by decide) ?_
            refine lv_aload_n (pc := 311) C0.1 C0.2.1 dX10_readAll_311 rfl (lv_at hl 1 rfl) ?_
            refine xget (pc := 312) C0 hH 78 21 clX10 ⟨Nat.le_of_ble_eq_true rfl, Nat.le_of_ble_eq_true rfl⟩ ⟨rfl, rfl⟩ (Nat.le_of_ble_eq_true rfl) fl_X10_45 (v := .ref (b + 89)) rfl dX10_readAll_312 ?_
            refine lv_aload_n (pc := 315) C0.1 C0.2.1 dX10_readAll_315 rfl (lv_at hl 1 rfl) ?_
            refine xget (pc := 316) C0 hH 78 36 clX10 ⟨Nat.le_of_ble_eq_true rfl, Nat.le_of_ble_eq_true rfl⟩ ⟨rfl, rfl⟩ (Nat.le_of_ble_eq_true rfl) fl_X10_82 (v := .ref (b + 101)) rfl dX10_readAll_316 ?_
            refine lv_aload_n (pc := 319) C0.1 C0.2.1 dX10_readAll_319 rfl (lv_at hl 1 rfl) ?_
            refine xget (pc := 320) C0 hH 78 50 clX10 ⟨Nat.le_of_ble_eq_true rfl, Nat.le_of_ble_eq_true rfl⟩ ⟨rfl, rfl⟩ (Nat.le_of_ble_eq_true rfl) fl_X10_118 (v := .ref (b + 113)) rfl dX10_readAll_320 ?_
            refine lv_iload (pc := 323) C0.1 C0.2.1 dX10_readAll_323 (lv_at hl 0 rfl) ?_
            refine xiald (pc := 325) (N := 1202) C0 hH 113 ⟨Nat.le_of_ble_eq_true rfl, Nat.le_of_ble_eq_true rfl⟩ ⟨rfl, rfl⟩ (vI (by omega) (by omega)) dX10_readAll_325 ?_
            refine xiald (pc := 326) (N := 1202) C0 hH 101 ⟨Nat.le_of_ble_eq_true rfl, Nat.le_of_ble_eq_true rfl⟩ ⟨rfl, rfl⟩ (vI hpl.1.1 (by have := hpl.1.2; omega)) dX10_readAll_326 ?_
            refine xiald (pc := 327) (N := 600) C0 hH 89 ⟨Nat.le_of_ble_eq_true rfl, Nat.le_of_ble_eq_true rfl⟩ ⟨rfl, rfl⟩ (vI hpt.2.1 hpt.2.2) dX10_readAll_327 ?_
            refine xcVI (pc := 328) 78 [.int 6, .int (Fv 89 (Int32.toNatClampNeg (Fv 101 (Int32.toNatClampNeg (Fv 113 (Int32.toNatClampNeg q))))))] (m_fail l D tA b iv Fv Gv 6 (Fv 89 (Int32.toNatClampNeg (Fv 101 (Int32.toNatClampNeg (Fv 113 (Int32.toNatClampNeg q))))))) C0 hH hS clX10 rfl ⟨⟨Nat.le_of_ble_eq_true rfl, Nat.le_of_ble_eq_true rfl⟩, rfl, rfl⟩ cw_X10_254 rfl ⟨Nat.le_of_ble_eq_true rfl, Nat.le_of_ble_eq_true rfl⟩ hl.1 rfl (Nat.le_of_ble_eq_true rfl) dX10_readAll_328 ⟨Nat.le_of_ble_eq_true rfl, Nat.le_of_ble_eq_true rfl⟩ (fun r207 ir207 Fr207 Gr207 _ locs hp hH hS => ?_)
            obtain ⟨hu, rfl⟩ := hp
            cases hu
            have hH : Hd D tA b 78 52 zz (up2 (up2 iv 78 30 6) 78 31 (Fv 89 (Int32.toNatClampNeg (Fv 101 (Int32.toNatClampNeg (Fv 113 (Int32.toNatClampNeg q))))))) Fv Gv _ := hH
            exact xzret (pc := 331) C0 hr hH hS dX10_readAll_331 (by decide) ⟨(RO.i (RO.i g1 (by decide)) (by decide)), hTK, hT, hCB, (by decide), (fun _ => (show 0 ≤ Int32.toInt (Fv 89 (Int32.toNatClampNeg (Fv 101 (Int32.toNatClampNeg (Fv 113 (Int32.toNatClampNeg q)))))) ∧ Int32.toInt (Fv 89 (Int32.toNatClampNeg (Fv 101 (Int32.toNatClampNeg (Fv 113 (Int32.toNatClampNeg q)))))) ≤ 600 from by first | omega | (have := hTK.2.1 (Int32.toNatClampNeg (Fv 101 (Int32.toNatClampNeg (Fv 113 (Int32.toNatClampNeg q))))); omega))), hi_78_17, Or.inl (show 1 ≤ Int32.toInt (iv 78 32) from by omega)⟩
  have L80 : ∀ (d : Nat) (q hw : Int32) (iv Fv : Nat → Nat → Int32) (Gv : Nat → Nat → Int64) (H : Heap) (locs : List Loc) (ls : Array Slot), (RO [17, 18, 19, 30, 31, 32, 40, 47, 51, 52] [88, 89, 90, 91, 92, 93, 94, 95, 96, 97, 98, 99, 100, 101, 102, 103, 104, 105, 106, 107, 108, 109, 110, 111, 112, 113] i F G (iv, Fv, Gv)) → (TMm iv Fv) → (TKm iv Fv) → (PLI iv) → (CB Fv) → ((iv 78 18).toInt = y.toInt) → (iv 78 17 = nI 86) → ((iv 78 30).toInt = 0 → PMm q.toInt iv Fv) → (0 ≤ q.toInt ∧ q.toInt ≤ (iv 78 19).toInt) → ((iv 78 19).toInt - q.toInt ≤ d) → (0 < hw.toInt → 1 ≤ q.toInt) → ((1 ≤ (iv 78 32).toInt ∧ (iv 78 32).toInt ≤ 1 + 2 * q.toInt) ∧ (iv 78 40).toInt ≤ 2 * q.toInt ∧ (iv 78 47).toInt ≤ 3 * q.toInt + 1) → (q.toInt = 0 → 0 < (iv 78 19).toInt → Fv 93 0 = 1) → (0 < q.toInt ∨ ((iv 78 30).toInt = 0 → (iv 78 51).toInt = 1)) → Hd D tA b 78 52 zz iv Fv Gv H → va_S (xA b 78 52) s.heap H locs → lv_has ls 6 [(4, .int q), (3, .int hw), (0, .ref (b + 78)), (2, .int y)] → W p l e (xR 5 120) s m ([.ref (b + 78), .ref (b + 86), .int y] : List Value).toArray below meth c H locs 0 0 (MQ below (va_Qi (fun r u => RO [17, 18, 19, 30, 31, 32, 40, 47, 51, 52] [88, 89, 90, 91, 92, 93, 94, 95, 96, 97, 98, 99, 100, 101, 102, 103, 104, 105, 106, 107, 108, 109, 110, 111, 112, 113] i F G u ∧ TKm u.1 u.2.1 ∧ TMm u.1 u.2.1 ∧ CB u.2.1 ∧ (r = 0 ∨ r = 1) ∧ (r = 0 → (0 ≤ (u.1 78 31).toInt ∧ (u.1 78 31).toInt ≤ 600)) ∧ u.1 78 17 = nI 86 ∧ (1 ≤ (u.1 78 32).toInt ∨ (r = 0 ∧ (u.1 78 32).toInt = 0 ∧ (u.1 78 40).toInt = 0 ∧ ∀ k : Nat, 95 ≤ k → (k < 96 ∨ 98 ≤ k) → u.2.1 k = F k))) (xB D tA b 78 52 zz) (xA b 78 52)) ([.ref (b + 78), .ref (b + 86), .int y] : List Value).toArray s 0 0 (xA b 78 52)) (F0 m 80 ls []) := by
    intro d
    induction d with
    | zero =>
      intro q hw iv Fv Gv H locs ls h1 h2 h3 h4 h5 h6 h7 h8 h9 h10 h11 h12 h13 h14 hH hS hl
      have rg_q := fb_rng q
      have rg_hw := fb_rng hw
      have hT := h2
      have hTK := h3
      have hPI := h4
      have hBR : BR iv := BR.ro hBR h1 (by decide)
      have hBr := hBR
      unfold BR at hBr
      have hTL := TMm.lin hT
      have hTKl := hTK.1
      have hCB := h5
      have hi_78_17 := h7
      refine lv_iload (pc := 80) C0.1 C0.2.1 dX10_readAll_80 (lv_at hl 0 rfl) ?_
      refine lv_aload_n (pc := 82) C0.1 C0.2.1 dX10_readAll_82 rfl (lv_at hl 2 rfl) ?_
      refine xget (pc := 83) C0 hH 78 19 clX10 ⟨Nat.le_of_ble_eq_true rfl, Nat.le_of_ble_eq_true rfl⟩ ⟨rfl, rfl⟩ (Nat.le_of_ble_eq_true rfl) fl_X10_258 (v := .int (iv 78 19)) rfl dX10_readAll_83 ?_
      refine lv_icmp_ge (pc := 86) (tgt := 216) C0.1 C0.2.1 dX10_readAll_86 (by decide) (fun _ => ?_) (fun c => absurd (Int32.le_iff_toInt_le.mpr (by omega)) c)
      refine lv_aload_n (pc := 216) C0.1 C0.2.1 dX10_readAll_216 rfl (lv_at hl 2 rfl) ?_
      refine xget (pc := 217) C0 hH 78 30 clX10 ⟨Nat.le_of_ble_eq_true rfl, Nat.le_of_ble_eq_true rfl⟩ ⟨rfl, rfl⟩ (Nat.le_of_ble_eq_true rfl) fl_X10_245 (v := .int (iv 78 30)) rfl dX10_readAll_217 ?_
      refine lv_if_ne (pc := 220) (tgt := 238) C0.1 C0.2.1 dX10_readAll_220 (by decide) (fun c201 => ?_) (fun c201 => ?_)
      · have : Int32.toInt 0 = 0 := rfl
        have c201 : ¬ _ := fun q => c201 (Int32.toInt_inj.mp q)
        refine lv_aload_n (pc := 238) C0.1 C0.2.1 dX10_readAll_238 rfl (lv_at hl 2 rfl) ?_
        refine xget (pc := 239) C0 hH 78 30 clX10 ⟨Nat.le_of_ble_eq_true rfl, Nat.le_of_ble_eq_true rfl⟩ ⟨rfl, rfl⟩ (Nat.le_of_ble_eq_true rfl) fl_X10_245 (v := .int (iv 78 30)) rfl dX10_readAll_239 ?_
        refine lv_if_ne (pc := 242) (tgt := 273) C0.1 C0.2.1 dX10_readAll_242 (by decide) (fun c202 => ?_) (fun c202 => ?_)
        · have : Int32.toInt 0 = 0 := rfl
          have c202 : ¬ _ := fun q => c202 (Int32.toInt_inj.mp q)
          refine lv_iconst (pc := 273) (v := 0) C0.1 C0.2.1 dX10_readAll_273 (by decide) ?_
          refine lv_istore (pc := 274) (lv' := [(4, .int 0), (3, .int hw), (0, .ref (b + 78)), (2, .int y)]) C0.1 C0.2.1 dX10_readAll_274 hl (by decide) rfl (fun ls hl => ?_)
          exact L276 1202 0 iv Fv Gv _ _ _ h1 hT hTK hPI hCB (show Int32.toInt (iv 78 18) = _ from by omega) hi_78_17 (fun w => PMm.zk (h8 w)) (by decide) (by decide) (show 1 ≤ Int32.toInt (iv 78 32) from by omega) hH hS (lv_sub hl [0, 2, 3] rfl)
        · have : Int32.toInt 0 = 0 := rfl
          have c202 := congrArg Int32.toInt c202
          refine lv_iload_n (pc := 245) C0.1 C0.2.1 dX10_readAll_245 rfl (lv_at hl 1 rfl) ?_
          refine lv_if_le (pc := 246) (tgt := 273) C0.1 C0.2.1 dX10_readAll_246 (by decide) (fun c203 => ?_) (fun c203 => ?_)
          · have : Int32.toInt 0 = 0 := rfl
            have c203 := Int32.le_iff_toInt_le.mp c203
            refine lv_iconst (pc := 273) (v := 0) C0.1 C0.2.1 dX10_readAll_273 (by decide) ?_
            refine lv_istore (pc := 274) (lv' := [(4, .int 0), (3, .int hw), (0, .ref (b + 78)), (2, .int y)]) C0.1 C0.2.1 dX10_readAll_274 hl (by decide) rfl (fun ls hl => ?_)
            exact L276 1202 0 iv Fv Gv _ _ _ h1 hT hTK hPI hCB (show Int32.toInt (iv 78 18) = _ from by omega) hi_78_17 (fun w => PMm.zk (h8 w)) (by decide) (by decide) (show 1 ≤ Int32.toInt (iv 78 32) from by omega) hH hS (lv_sub hl [0, 2, 3] rfl)
          · have : Int32.toInt 0 = 0 := rfl
            have c203 : ¬ _ := fun q => c203 (Int32.le_iff_toInt_le.mpr q)
            have hP := h8 (by have : Int32.toInt 0 = 0 := rfl; omega)
            have hPl := hP.1
            have hq1 := h11 (by have : Int32.toInt 0 = 0 := rfl; omega)
            refine lv_aload_n (pc := 249) C0.1 C0.2.1 dX10_readAll_249 rfl (lv_at hl 2 rfl) ?_
            refine lv_iload_n (pc := 250) C0.1 C0.2.1 dX10_readAll_250 rfl (lv_at hl 1 rfl) ?_
            refine lv_bipush (pc := 251) (v := (-9)) C0.1 C0.2.1 dX10_readAll_251 (by decide) ?_
            refine lv_aload_n (pc := 253) C0.1 C0.2.1 dX10_readAll_253 rfl (lv_at hl 2 rfl) ?_
            refine xget (pc := 254) C0 hH 78 39 clX10 ⟨Nat.le_of_ble_eq_true rfl, Nat.le_of_ble_eq_true rfl⟩ ⟨rfl, rfl⟩ (Nat.le_of_ble_eq_true rfl) fl_X10_91 (v := .ref (b + 104)) rfl dX10_readAll_254 ?_
            refine lv_aload_n (pc := 257) C0.1 C0.2.1 dX10_readAll_257 rfl (lv_at hl 2 rfl) ?_
            refine xcVI (pc := 258) 78 [] (m_topmost l D tA b iv Fv Gv q.toInt hT hP) C0 hH hS clX10 rfl ⟨⟨Nat.le_of_ble_eq_true rfl, Nat.le_of_ble_eq_true rfl⟩, rfl, rfl⟩ cw_X10_296 rfl ⟨Nat.le_of_ble_eq_true rfl, Nat.le_of_ble_eq_true rfl⟩ hl.1 rfl (Nat.le_of_ble_eq_true rfl) dX10_readAll_258 ⟨Nat.le_of_ble_eq_true rfl, Nat.le_of_ble_eq_true rfl⟩ (fun r204 ir204 Fr204 Gr204 _ locs hp hH hS => ?_)
            obtain ⟨hu, htpr204, htqr204, htzr204⟩ := hp
            cases hu
            have hBtr204 := TMm.bt hT (x := r204) (show 0 ≤ Int32.toInt r204 ∧ Int32.toInt r204 < Int32.toInt (iv 78 32) from htpr204)
            refine xiald (pc := 261) (N := 1202) C0 hH 104 ⟨Nat.le_of_ble_eq_true rfl, Nat.le_of_ble_eq_true rfl⟩ ⟨rfl, rfl⟩ (vI (by omega) (by omega)) dX10_readAll_261 ?_
            have hv9 := htqr204 (Or.inr (by omega))
            refine lv_aload_n (pc := 262) C0.1 C0.2.1 dX10_readAll_262 rfl (lv_at hl 2 rfl) ?_
            refine xget (pc := 263) C0 hH 78 19 clX10 ⟨Nat.le_of_ble_eq_true rfl, Nat.le_of_ble_eq_true rfl⟩ ⟨rfl, rfl⟩ (Nat.le_of_ble_eq_true rfl) fl_X10_258 (v := .int (iv 78 19)) rfl dX10_readAll_263 ?_
            refine lv_iconst (pc := 266) (v := 1) C0.1 C0.2.1 dX10_readAll_266 (by decide) ?_
            have : Int32.toInt 1 = 1 := rfl
            refine lv_isub (pc := 267) C0.1 C0.2.1 dX10_readAll_267 ?_
            refine lv_topi (fun x205 ex205 => ?_)
            have hx205 : Int32.toInt x205 = Int32.toInt (iv 78 19) - Int32.toInt 1 := by rw [ex205]; exact fb_subI (by omega) (by omega)
            refine xcVI (pc := 268) 78 [.int hw, .int (-9), .int (Fv 104 (Int32.toNatClampNeg r204)), .int x205] (m_newBlock l D tA b iv Fv Gv hw (-9) (Fv 104 (Int32.toNatClampNeg r204)) x205 hT (show Int32.toInt (iv 78 32) < 1202 from by omega) (show Int32.toInt (iv 78 47) < 1802 from by omega) (show (Int32.toInt (iv 78 32) = 0 ∧ Int32.toInt (Fv 104 (Int32.toNatClampNeg r204)) = -9) ∨ (1 ≤ Int32.toInt (iv 78 32) ∧ (0 ≤ Int32.toInt (Fv 104 (Int32.toNatClampNeg r204)) ∧ Int32.toInt (Fv 104 (Int32.toNatClampNeg r204)) < Int32.toInt (iv 78 40)) ∧ 0 ≤ Int32.toInt x205 ∧ Int32.toInt x205 < 600) from by omega)) C0 hH hS clX10 rfl ⟨⟨Nat.le_of_ble_eq_true rfl, Nat.le_of_ble_eq_true rfl⟩, rfl, rfl⟩ cw_X10_299 rfl ⟨Nat.le_of_ble_eq_true rfl, Nat.le_of_ble_eq_true rfl⟩ hl.1 rfl (Nat.le_of_ble_eq_true rfl) dX10_readAll_268 ⟨Nat.le_of_ble_eq_true rfl, Nat.le_of_ble_eq_true rfl⟩ (fun r206 ir206 Fr206 Gr206 _ locs hp hH hS => ?_)
            obtain ⟨honr206, hT, h32r206, h47r206, hrbr206, e98r206, e99r206, e102r206⟩ := hp
            have hT : TMm ir206 Fr206 := hT
            have h32r206 : (ir206 78 32).toInt = Int32.toInt (iv 78 32) + 1 := h32r206
            have h47r206 : Int32.toInt (iv 78 47) ≤ (ir206 78 47).toInt ∧ (ir206 78 47).toInt ≤ Int32.toInt (iv 78 47) + 1 := h47r206
            have hrIr206 : Int32.toInt r206 = Int32.toInt (iv 78 32) := congrArg Int32.toInt hrbr206
            have hTL := TMm.lin hT
            have hTK : TKm ir206 Fr206 := TKm.ro (i := iv) (F := Fv) hTK honr206 (by decide)
            have hPI : PLI ir206 := PLI.ro (i := iv) (F := Fv) hPI honr206 (by decide)
            have hP : PMm q.toInt ir206 Fr206 := PMm.nb (i := iv) (F := Fv) hP (by omega) h32r206 e98r206 e99r206 e102r206 (honr206.2 113 (by decide)).1 (honr206.1 78 51 (Or.inr (by decide)))
            have hBR : BR ir206 := BR.ro (i := iv) (F := Fv) hBR honr206 (by decide)
            have hCB : CB Fr206 := CB.ro (F := Fv) hCB honr206 (by decide)
            have hi_78_17 : ir206 78 17 = nI 86 := (honr206.1 78 17 (Or.inr (by decide))).trans hi_78_17
            have ek_40r206 : Int32.toInt (ir206 78 40) = Int32.toInt (iv 78 40) := congrArg Int32.toInt (honr206.1 78 40 (Or.inr (by decide)))
            have ek_51r206 : Int32.toInt (ir206 78 51) = Int32.toInt (iv 78 51) := congrArg Int32.toInt (honr206.1 78 51 (Or.inr (by decide)))
            have ek_19r206 : Int32.toInt (ir206 78 19) = Int32.toInt (iv 78 19) := congrArg Int32.toInt (honr206.1 78 19 (Or.inr (by decide)))
            have ek_18r206 : Int32.toInt (ir206 78 18) = Int32.toInt (iv 78 18) := congrArg Int32.toInt (honr206.1 78 18 (Or.inr (by decide)))
            have ek_30r206 : Int32.toInt (ir206 78 30) = Int32.toInt (iv 78 30) := congrArg Int32.toInt (honr206.1 78 30 (Or.inr (by decide)))
            have hTKl := hTK.1
            refine lv_istore (pc := 271) (lv' := [(4, .int r206), (3, .int hw), (0, .ref (b + 78)), (2, .int y)]) C0.1 C0.2.1 dX10_readAll_271 hl (by decide) rfl (fun ls hl => ?_)
            refine lv_iconst (pc := 273) (v := 0) C0.1 C0.2.1 dX10_readAll_273 (by decide) ?_
            refine lv_istore (pc := 274) (lv' := [(4, .int 0), (3, .int hw), (0, .ref (b + 78)), (2, .int y)]) C0.1 C0.2.1 dX10_readAll_274 hl (by decide) rfl (fun ls hl => ?_)
            exact L276 1202 0 ir206 Fr206 Gr206 _ _ _ (RO.tr h1 honr206 (by decide) (by decide)) hT hTK hPI hCB (show Int32.toInt (ir206 78 18) = _ from by omega) hi_78_17 (fun _ => PMm.zk hP) (by decide) (by decide) (show 1 ≤ Int32.toInt (ir206 78 32) from by omega) hH hS (lv_sub hl [0, 2, 3] rfl)
      · have : Int32.toInt 0 = 0 := rfl
        have c201 := congrArg Int32.toInt c201
        refine lv_iload_n (pc := 223) C0.1 C0.2.1 dX10_readAll_223 rfl (lv_at hl 1 rfl) ?_
        refine lv_iconst (pc := 224) (v := 1) C0.1 C0.2.1 dX10_readAll_224 (by decide) ?_
        refine lv_icmp_ne (pc := 225) (tgt := 238) C0.1 C0.2.1 dX10_readAll_225 (by decide) (fun c207 => ?_) (fun c207 => ?_)
        · have : Int32.toInt 1 = 1 := rfl
          have c207 : ¬ _ := fun q => c207 (Int32.toInt_inj.mp q)
          refine lv_aload_n (pc := 238) C0.1 C0.2.1 dX10_readAll_238 rfl (lv_at hl 2 rfl) ?_
          refine xget (pc := 239) C0 hH 78 30 clX10 ⟨Nat.le_of_ble_eq_true rfl, Nat.le_of_ble_eq_true rfl⟩ ⟨rfl, rfl⟩ (Nat.le_of_ble_eq_true rfl) fl_X10_245 (v := .int (iv 78 30)) rfl dX10_readAll_239 ?_
          refine lv_if_ne (pc := 242) (tgt := 273) C0.1 C0.2.1 dX10_readAll_242 (by decide) (fun c208 => ?_) (fun c208 => ?_)
          · have : Int32.toInt 0 = 0 := rfl
            have c208 : ¬ _ := fun q => c208 (Int32.toInt_inj.mp q)
            refine lv_iconst (pc := 273) (v := 0) C0.1 C0.2.1 dX10_readAll_273 (by decide) ?_
            refine lv_istore (pc := 274) (lv' := [(4, .int 0), (3, .int hw), (0, .ref (b + 78)), (2, .int y)]) C0.1 C0.2.1 dX10_readAll_274 hl (by decide) rfl (fun ls hl => ?_)
            exact L276 1202 0 iv Fv Gv _ _ _ h1 hT hTK hPI hCB (show Int32.toInt (iv 78 18) = _ from by omega) hi_78_17 (fun w => PMm.zk (h8 w)) (by decide) (by decide) (show 1 ≤ Int32.toInt (iv 78 32) from by omega) hH hS (lv_sub hl [0, 2, 3] rfl)
          · have : Int32.toInt 0 = 0 := rfl
            have c208 := congrArg Int32.toInt c208
            refine lv_iload_n (pc := 245) C0.1 C0.2.1 dX10_readAll_245 rfl (lv_at hl 1 rfl) ?_
            refine lv_if_le (pc := 246) (tgt := 273) C0.1 C0.2.1 dX10_readAll_246 (by decide) (fun c209 => ?_) (fun c209 => ?_)
            · have : Int32.toInt 0 = 0 := rfl
              have c209 := Int32.le_iff_toInt_le.mp c209
              refine lv_iconst (pc := 273) (v := 0) C0.1 C0.2.1 dX10_readAll_273 (by decide) ?_
              refine lv_istore (pc := 274) (lv' := [(4, .int 0), (3, .int hw), (0, .ref (b + 78)), (2, .int y)]) C0.1 C0.2.1 dX10_readAll_274 hl (by decide) rfl (fun ls hl => ?_)
              exact L276 1202 0 iv Fv Gv _ _ _ h1 hT hTK hPI hCB (show Int32.toInt (iv 78 18) = _ from by omega) hi_78_17 (fun w => PMm.zk (h8 w)) (by decide) (by decide) (show 1 ≤ Int32.toInt (iv 78 32) from by omega) hH hS (lv_sub hl [0, 2, 3] rfl)
            · have : Int32.toInt 0 = 0 := rfl
              have c209 : ¬ _ := fun q => c209 (Int32.le_iff_toInt_le.mpr q)
              have hP := h8 (by have : Int32.toInt 0 = 0 := rfl; omega)
              have hPl := hP.1
              have hq1 := h11 (by have : Int32.toInt 0 = 0 := rfl; omega)
              refine lv_aload_n (pc := 249) C0.1 C0.2.1 dX10_readAll_249 rfl (lv_at hl 2 rfl) ?_
              refine lv_iload_n (pc := 250) C0.1 C0.2.1 dX10_readAll_250 rfl (lv_at hl 1 rfl) ?_
              refine lv_bipush (pc := 251) (v := (-9)) C0.1 C0.2.1 dX10_readAll_251 (by decide) ?_
              refine lv_aload_n (pc := 253) C0.1 C0.2.1 dX10_readAll_253 rfl (lv_at hl 2 rfl) ?_
              refine xget (pc := 254) C0 hH 78 39 clX10 ⟨Nat.le_of_ble_eq_true rfl, Nat.le_of_ble_eq_true rfl⟩ ⟨rfl, rfl⟩ (Nat.le_of_ble_eq_true rfl) fl_X10_91 (v := .ref (b + 104)) rfl dX10_readAll_254 ?_
              refine lv_aload_n (pc := 257) C0.1 C0.2.1 dX10_readAll_257 rfl (lv_at hl 2 rfl) ?_
              refine xcVI (pc := 258) 78 [] (m_topmost l D tA b iv Fv Gv q.toInt hT hP) C0 hH hS clX10 rfl ⟨⟨Nat.le_of_ble_eq_true rfl, Nat.le_of_ble_eq_true rfl⟩, rfl, rfl⟩ cw_X10_296 rfl ⟨Nat.le_of_ble_eq_true rfl, Nat.le_of_ble_eq_true rfl⟩ hl.1 rfl (Nat.le_of_ble_eq_true rfl) dX10_readAll_258 ⟨Nat.le_of_ble_eq_true rfl, Nat.le_of_ble_eq_true rfl⟩ (fun r210 ir210 Fr210 Gr210 _ locs hp hH hS => ?_)
              obtain ⟨hu, htpr210, htqr210, htzr210⟩ := hp
              cases hu
              have hBtr210 := TMm.bt hT (x := r210) (show 0 ≤ Int32.toInt r210 ∧ Int32.toInt r210 < Int32.toInt (iv 78 32) from htpr210)
              refine xiald (pc := 261) (N := 1202) C0 hH 104 ⟨Nat.le_of_ble_eq_true rfl, Nat.le_of_ble_eq_true rfl⟩ ⟨rfl, rfl⟩ (vI (by omega) (by omega)) dX10_readAll_261 ?_
              have hv9 := htqr210 (Or.inr (by omega))
              refine lv_aload_n (pc := 262) C0.1 C0.2.1 dX10_readAll_262 rfl (lv_at hl 2 rfl) ?_
              refine xget (pc := 263) C0 hH 78 19 clX10 ⟨Nat.le_of_ble_eq_true rfl, Nat.le_of_ble_eq_true rfl⟩ ⟨rfl, rfl⟩ (Nat.le_of_ble_eq_true rfl) fl_X10_258 (v := .int (iv 78 19)) rfl dX10_readAll_263 ?_
              refine lv_iconst (pc := 266) (v := 1) C0.1 C0.2.1 dX10_readAll_266 (by decide) ?_
              have : Int32.toInt 1 = 1 := rfl
              refine lv_isub (pc := 267) C0.1 C0.2.1 dX10_readAll_267 ?_
              refine lv_topi (fun x211 ex211 => ?_)
              have hx211 : Int32.toInt x211 = Int32.toInt (iv 78 19) - Int32.toInt 1 := by rw [ex211]; exact fb_subI (by omega) (by omega)
              refine xcVI (pc := 268) 78 [.int hw, .int (-9), .int (Fv 104 (Int32.toNatClampNeg r210)), .int x211] (m_newBlock l D tA b iv Fv Gv hw (-9) (Fv 104 (Int32.toNatClampNeg r210)) x211 hT (show Int32.toInt (iv 78 32) < 1202 from by omega) (show Int32.toInt (iv 78 47) < 1802 from by omega) (show (Int32.toInt (iv 78 32) = 0 ∧ Int32.toInt (Fv 104 (Int32.toNatClampNeg r210)) = -9) ∨ (1 ≤ Int32.toInt (iv 78 32) ∧ (0 ≤ Int32.toInt (Fv 104 (Int32.toNatClampNeg r210)) ∧ Int32.toInt (Fv 104 (Int32.toNatClampNeg r210)) < Int32.toInt (iv 78 40)) ∧ 0 ≤ Int32.toInt x211 ∧ Int32.toInt x211 < 600) from by omega)) C0 hH hS clX10 rfl ⟨⟨Nat.le_of_ble_eq_true rfl, Nat.le_of_ble_eq_true rfl⟩, rfl, rfl⟩ cw_X10_299 rfl ⟨Nat.le_of_ble_eq_true rfl, Nat.le_of_ble_eq_true rfl⟩ hl.1 rfl (Nat.le_of_ble_eq_true rfl) dX10_readAll_268 ⟨Nat.le_of_ble_eq_true rfl, Nat.le_of_ble_eq_true rfl⟩ (fun r212 ir212 Fr212 Gr212 _ locs hp hH hS => ?_)
              obtain ⟨honr212, hT, h32r212, h47r212, hrbr212, e98r212, e99r212, e102r212⟩ := hp
              have hT : TMm ir212 Fr212 := hT
              have h32r212 : (ir212 78 32).toInt = Int32.toInt (iv 78 32) + 1 := h32r212
              have h47r212 : Int32.toInt (iv 78 47) ≤ (ir212 78 47).toInt ∧ (ir212 78 47).toInt ≤ Int32.toInt (iv 78 47) + 1 := h47r212
              have hrIr212 : Int32.toInt r212 = Int32.toInt (iv 78 32) := congrArg Int32.toInt hrbr212
              have hTL := TMm.lin hT
              have hTK : TKm ir212 Fr212 := TKm.ro (i := iv) (F := Fv) hTK honr212 (by decide)
              have hPI : PLI ir212 := PLI.ro (i := iv) (F := Fv) hPI honr212 (by decide)
              have hP : PMm q.toInt ir212 Fr212 := PMm.nb (i := iv) (F := Fv) hP (by omega) h32r212 e98r212 e99r212 e102r212 (honr212.2 113 (by decide)).1 (honr212.1 78 51 (Or.inr (by decide)))
              have hBR : BR ir212 := BR.ro (i := iv) (F := Fv) hBR honr212 (by decide)
              have hCB : CB Fr212 := CB.ro (F := Fv) hCB honr212 (by decide)
              have hi_78_17 : ir212 78 17 = nI 86 := (honr212.1 78 17 (Or.inr (by decide))).trans hi_78_17
              have ek_40r212 : Int32.toInt (ir212 78 40) = Int32.toInt (iv 78 40) := congrArg Int32.toInt (honr212.1 78 40 (Or.inr (by decide)))
              have ek_51r212 : Int32.toInt (ir212 78 51) = Int32.toInt (iv 78 51) := congrArg Int32.toInt (honr212.1 78 51 (Or.inr (by decide)))
              have ek_19r212 : Int32.toInt (ir212 78 19) = Int32.toInt (iv 78 19) := congrArg Int32.toInt (honr212.1 78 19 (Or.inr (by decide)))
              have ek_18r212 : Int32.toInt (ir212 78 18) = Int32.toInt (iv 78 18) := congrArg Int32.toInt (honr212.1 78 18 (Or.inr (by decide)))
              have ek_30r212 : Int32.toInt (ir212 78 30) = Int32.toInt (iv 78 30) := congrArg Int32.toInt (honr212.1 78 30 (Or.inr (by decide)))
              have hTKl := hTK.1
              refine lv_istore (pc := 271) (lv' := [(4, .int r212), (3, .int hw), (0, .ref (b + 78)), (2, .int y)]) C0.1 C0.2.1 dX10_readAll_271 hl (by decide) rfl (fun ls hl => ?_)
              refine lv_iconst (pc := 273) (v := 0) C0.1 C0.2.1 dX10_readAll_273 (by decide) ?_
              refine lv_istore (pc := 274) (lv' := [(4, .int 0), (3, .int hw), (0, .ref (b + 78)), (2, .int y)]) C0.1 C0.2.1 dX10_readAll_274 hl (by decide) rfl (fun ls hl => ?_)
              exact L276 1202 0 ir212 Fr212 Gr212 _ _ _ (RO.tr h1 honr212 (by decide) (by decide)) hT hTK hPI hCB (show Int32.toInt (ir212 78 18) = _ from by omega) hi_78_17 (fun _ => PMm.zk hP) (by decide) (by decide) (show 1 ≤ Int32.toInt (ir212 78 32) from by omega) hH hS (lv_sub hl [0, 2, 3] rfl)
        · have : Int32.toInt 1 = 1 := rfl
          have c207 := congrArg Int32.toInt c207
          refine lv_aload_n (pc := 228) C0.1 C0.2.1 dX10_readAll_228 rfl (lv_at hl 2 rfl) ?_
          refine lv_iconst (pc := 229) (v := 3) C0.1 C0.2.1 dX10_readAll_229 (by decide) ?_
          refine lv_aload_n (pc := 230) C0.1 C0.2.1 dX10_readAll_230 rfl (lv_at hl 2 rfl) ?_
          refine xget (pc := 231) C0 hH 78 18 clX10 ⟨Nat.le_of_ble_eq_true rfl, Nat.le_of_ble_eq_true rfl⟩ ⟨rfl, rfl⟩ (Nat.le_of_ble_eq_true rfl) fl_X10_251 (v := .int (iv 78 18)) rfl dX10_readAll_231 ?_
          refine xcVI (pc := 234) 78 [.int 3, .int (iv 78 18)] (m_fail l D tA b iv Fv Gv 3 (iv 78 18)) C0 hH hS clX10 rfl ⟨⟨Nat.le_of_ble_eq_true rfl, Nat.le_of_ble_eq_true rfl⟩, rfl, rfl⟩ cw_X10_254 rfl ⟨Nat.le_of_ble_eq_true rfl, Nat.le_of_ble_eq_true rfl⟩ hl.1 rfl (Nat.le_of_ble_eq_true rfl) dX10_readAll_234 ⟨Nat.le_of_ble_eq_true rfl, Nat.le_of_ble_eq_true rfl⟩ (fun r213 ir213 Fr213 Gr213 _ locs hp hH hS => ?_)
          obtain ⟨hu, rfl⟩ := hp
          cases hu
          have hH : Hd D tA b 78 52 zz (up2 (up2 iv 78 30 3) 78 31 (iv 78 18)) Fv Gv _ := hH
          exact xzret (pc := 237) C0 hr hH hS dX10_readAll_237 (by decide) ⟨(RO.i (RO.i h1 (by decide)) (by decide)), hTK, hT, hCB, (by decide), (fun _ => (show 0 ≤ Int32.toInt (iv 78 18) ∧ Int32.toInt (iv 78 18) ≤ 600 from by first | omega | (have := hTK.2.1 0; omega))), hi_78_17, Or.inl (show 1 ≤ Int32.toInt (iv 78 32) from by omega)⟩
    | succ d ih80 =>
      intro q hw iv Fv Gv H locs ls h1 h2 h3 h4 h5 h6 h7 h8 h9 h10 h11 h12 h13 h14 hH hS hl
      have rg_q := fb_rng q
      have rg_hw := fb_rng hw
      have hT := h2
      have hTK := h3
      have hPI := h4
      have hBR : BR iv := BR.ro hBR h1 (by decide)
      have hBr := hBR
      unfold BR at hBr
      have hTL := TMm.lin hT
      have hTKl := hTK.1
      have hCB := h5
      have hi_78_17 := h7
      refine lv_iload (pc := 80) C0.1 C0.2.1 dX10_readAll_80 (lv_at hl 0 rfl) ?_
      refine lv_aload_n (pc := 82) C0.1 C0.2.1 dX10_readAll_82 rfl (lv_at hl 2 rfl) ?_
      refine xget (pc := 83) C0 hH 78 19 clX10 ⟨Nat.le_of_ble_eq_true rfl, Nat.le_of_ble_eq_true rfl⟩ ⟨rfl, rfl⟩ (Nat.le_of_ble_eq_true rfl) fl_X10_258 (v := .int (iv 78 19)) rfl dX10_readAll_83 ?_
      refine lv_icmp_ge (pc := 86) (tgt := 216) C0.1 C0.2.1 dX10_readAll_86 (by decide) (fun c201 => ?_) (fun c201 => ?_)
      · have c201 := Int32.le_iff_toInt_le.mp c201
        refine lv_aload_n (pc := 216) C0.1 C0.2.1 dX10_readAll_216 rfl (lv_at hl 2 rfl) ?_
        refine xget (pc := 217) C0 hH 78 30 clX10 ⟨Nat.le_of_ble_eq_true rfl, Nat.le_of_ble_eq_true rfl⟩ ⟨rfl, rfl⟩ (Nat.le_of_ble_eq_true rfl) fl_X10_245 (v := .int (iv 78 30)) rfl dX10_readAll_217 ?_
        refine lv_if_ne (pc := 220) (tgt := 238) C0.1 C0.2.1 dX10_readAll_220 (by decide) (fun c202 => ?_) (fun c202 => ?_)
        · have : Int32.toInt 0 = 0 := rfl
          have c202 : ¬ _ := fun q => c202 (Int32.toInt_inj.mp q)
          refine lv_aload_n (pc := 238) C0.1 C0.2.1 dX10_readAll_238 rfl (lv_at hl 2 rfl) ?_
          refine xget (pc := 239) C0 hH 78 30 clX10 ⟨Nat.le_of_ble_eq_true rfl, Nat.le_of_ble_eq_true rfl⟩ ⟨rfl, rfl⟩ (Nat.le_of_ble_eq_true rfl) fl_X10_245 (v := .int (iv 78 30)) rfl dX10_readAll_239 ?_
          refine lv_if_ne (pc := 242) (tgt := 273) C0.1 C0.2.1 dX10_readAll_242 (by decide) (fun c203 => ?_) (fun c203 => ?_)
          · have : Int32.toInt 0 = 0 := rfl
            have c203 : ¬ _ := fun q => c203 (Int32.toInt_inj.mp q)
            refine lv_iconst (pc := 273) (v := 0) C0.1 C0.2.1 dX10_readAll_273 (by decide) ?_
            refine lv_istore (pc := 274) (lv' := [(4, .int 0), (3, .int hw), (0, .ref (b + 78)), (2, .int y)]) C0.1 C0.2.1 dX10_readAll_274 hl (by decide) rfl (fun ls hl => ?_)
            exact L276 1202 0 iv Fv Gv _ _ _ h1 hT hTK hPI hCB (show Int32.toInt (iv 78 18) = _ from by omega) hi_78_17 (fun w => PMm.zk (h8 w)) (by decide) (by decide) (show 1 ≤ Int32.toInt (iv 78 32) from by omega) hH hS (lv_sub hl [0, 2, 3] rfl)
          · have : Int32.toInt 0 = 0 := rfl
            have c203 := congrArg Int32.toInt c203
            refine lv_iload_n (pc := 245) C0.1 C0.2.1 dX10_readAll_245 rfl (lv_at hl 1 rfl) ?_
            refine lv_if_le (pc := 246) (tgt := 273) C0.1 C0.2.1 dX10_readAll_246 (by decide) (fun c204 => ?_) (fun c204 => ?_)
            · have : Int32.toInt 0 = 0 := rfl
              have c204 := Int32.le_iff_toInt_le.mp c204
              refine lv_iconst (pc := 273) (v := 0) C0.1 C0.2.1 dX10_readAll_273 (by decide) ?_
              refine lv_istore (pc := 274) (lv' := [(4, .int 0), (3, .int hw), (0, .ref (b + 78)), (2, .int y)]) C0.1 C0.2.1 dX10_readAll_274 hl (by decide) rfl (fun ls hl => ?_)
              exact L276 1202 0 iv Fv Gv _ _ _ h1 hT hTK hPI hCB (show Int32.toInt (iv 78 18) = _ from by omega) hi_78_17 (fun w => PMm.zk (h8 w)) (by decide) (by decide) (show 1 ≤ Int32.toInt (iv 78 32) from by omega) hH hS (lv_sub hl [0, 2, 3] rfl)
            · have : Int32.toInt 0 = 0 := rfl
              have c204 : ¬ _ := fun q => c204 (Int32.le_iff_toInt_le.mpr q)
              have hP := h8 (by have : Int32.toInt 0 = 0 := rfl; omega)
              have hPl := hP.1
              have hq1 := h11 (by have : Int32.toInt 0 = 0 := rfl; omega)
              refine lv_aload_n (pc := 249) C0.1 C0.2.1 dX10_readAll_249 rfl (lv_at hl 2 rfl) ?_
              refine lv_iload_n (pc := 250) C0.1 C0.2.1 dX10_readAll_250 rfl (lv_at hl 1 rfl) ?_
              refine lv_bipush (pc := 251) (v := (-9)) C0.1 C0.2.1 dX10_readAll_251 (by decide) ?_
              refine lv_aload_n (pc := 253) C0.1 C0.2.1 dX10_readAll_253 rfl (lv_at hl 2 rfl) ?_
              refine xget (pc := 254) C0 hH 78 39 clX10 ⟨Nat.le_of_ble_eq_true rfl, Nat.le_of_ble_eq_true rfl⟩ ⟨rfl, rfl⟩ (Nat.le_of_ble_eq_true rfl) fl_X10_91 (v := .ref (b + 104)) rfl dX10_readAll_254 ?_
              refine lv_aload_n (pc := 257) C0.1 C0.2.1 dX10_readAll_257 rfl (lv_at hl 2 rfl) ?_
              refine xcVI (pc := 258) 78 [] (m_topmost l D tA b iv Fv Gv q.toInt hT hP) C0 hH hS clX10 rfl ⟨⟨Nat.le_of_ble_eq_true rfl, Nat.le_of_ble_eq_true rfl⟩, rfl, rfl⟩ cw_X10_296 rfl ⟨Nat.le_of_ble_eq_true rfl, Nat.le_of_ble_eq_true rfl⟩ hl.1 rfl (Nat.le_of_ble_eq_true rfl) dX10_readAll_258 ⟨Nat.le_of_ble_eq_true rfl, Nat.le_of_ble_eq_true rfl⟩ (fun r205 ir205 Fr205 Gr205 _ locs hp hH hS => ?_)
              obtain ⟨hu, htpr205, htqr205, htzr205⟩ := hp
              cases hu
              have hBtr205 := TMm.bt hT (x := r205) (show 0 ≤ Int32.toInt r205 ∧ Int32.toInt r205 < Int32.toInt (iv 78 32) from htpr205)
              refine xiald (pc := 261) (N := 1202) C0 hH 104 ⟨Nat.le_of_ble_eq_true rfl, Nat.le_of_ble_eq_true rfl⟩ ⟨rfl, rfl⟩ (vI (by omega) (by omega)) dX10_readAll_261 ?_
              have hv9 := htqr205 (Or.inr (by omega))
              refine lv_aload_n (pc := 262) C0.1 C0.2.1 dX10_readAll_262 rfl (lv_at hl 2 rfl) ?_
              refine xget (pc := 263) C0 hH 78 19 clX10 ⟨Nat.le_of_ble_eq_true rfl, Nat.le_of_ble_eq_true rfl⟩ ⟨rfl, rfl⟩ (Nat.le_of_ble_eq_true rfl) fl_X10_258 (v := .int (iv 78 19)) rfl dX10_readAll_263 ?_
              refine lv_iconst (pc := 266) (v := 1) C0.1 C0.2.1 dX10_readAll_266 (by decide) ?_
              have : Int32.toInt 1 = 1 := rfl
              refine lv_isub (pc := 267) C0.1 C0.2.1 dX10_readAll_267 ?_
              refine lv_topi (fun x206 ex206 => ?_)
              have hx206 : Int32.toInt x206 = Int32.toInt (iv 78 19) - Int32.toInt 1 := by rw [ex206]; exact fb_subI (by omega) (by omega)
              refine xcVI (pc := 268) 78 [.int hw, .int (-9), .int (Fv 104 (Int32.toNatClampNeg r205)), .int x206] (m_newBlock l D tA b iv Fv Gv hw (-9) (Fv 104 (Int32.toNatClampNeg r205)) x206 hT (show Int32.toInt (iv 78 32) < 1202 from by omega) (show Int32.toInt (iv 78 47) < 1802 from by omega) (show (Int32.toInt (iv 78 32) = 0 ∧ Int32.toInt (Fv 104 (Int32.toNatClampNeg r205)) = -9) ∨ (1 ≤ Int32.toInt (iv 78 32) ∧ (0 ≤ Int32.toInt (Fv 104 (Int32.toNatClampNeg r205)) ∧ Int32.toInt (Fv 104 (Int32.toNatClampNeg r205)) < Int32.toInt (iv 78 40)) ∧ 0 ≤ Int32.toInt x206 ∧ Int32.toInt x206 < 600) from by omega)) C0 hH hS clX10 rfl ⟨⟨Nat.le_of_ble_eq_true rfl, Nat.le_of_ble_eq_true rfl⟩, rfl, rfl⟩ cw_X10_299 rfl ⟨Nat.le_of_ble_eq_true rfl, Nat.le_of_ble_eq_true rfl⟩ hl.1 rfl (Nat.le_of_ble_eq_true rfl) dX10_readAll_268 ⟨Nat.le_of_ble_eq_true rfl, Nat.le_of_ble_eq_true rfl⟩ (fun r207 ir207 Fr207 Gr207 _ locs hp hH hS => ?_)
              obtain ⟨honr207, hT, h32r207, h47r207, hrbr207, e98r207, e99r207, e102r207⟩ := hp
              have hT : TMm ir207 Fr207 := hT
              have h32r207 : (ir207 78 32).toInt = Int32.toInt (iv 78 32) + 1 := h32r207
              have h47r207 : Int32.toInt (iv 78 47) ≤ (ir207 78 47).toInt ∧ (ir207 78 47).toInt ≤ Int32.toInt (iv 78 47) + 1 := h47r207
              have hrIr207 : Int32.toInt r207 = Int32.toInt (iv 78 32) := congrArg Int32.toInt hrbr207
              have hTL := TMm.lin hT
              have hTK : TKm ir207 Fr207 := TKm.ro (i := iv) (F := Fv) hTK honr207 (by decide)
              have hPI : PLI ir207 := PLI.ro (i := iv) (F := Fv) hPI honr207 (by decide)
              have hP : PMm q.toInt ir207 Fr207 := PMm.nb (i := iv) (F := Fv) hP (by omega) h32r207 e98r207 e99r207 e102r207 (honr207.2 113 (by decide)).1 (honr207.1 78 51 (Or.inr (by decide)))
              have hBR : BR ir207 := BR.ro (i := iv) (F := Fv) hBR honr207 (by decide)
              have hCB : CB Fr207 := CB.ro (F := Fv) hCB honr207 (by decide)
              have hi_78_17 : ir207 78 17 = nI 86 := (honr207.1 78 17 (Or.inr (by decide))).trans hi_78_17
              have ek_40r207 : Int32.toInt (ir207 78 40) = Int32.toInt (iv 78 40) := congrArg Int32.toInt (honr207.1 78 40 (Or.inr (by decide)))
              have ek_51r207 : Int32.toInt (ir207 78 51) = Int32.toInt (iv 78 51) := congrArg Int32.toInt (honr207.1 78 51 (Or.inr (by decide)))
              have ek_19r207 : Int32.toInt (ir207 78 19) = Int32.toInt (iv 78 19) := congrArg Int32.toInt (honr207.1 78 19 (Or.inr (by decide)))
              have ek_18r207 : Int32.toInt (ir207 78 18) = Int32.toInt (iv 78 18) := congrArg Int32.toInt (honr207.1 78 18 (Or.inr (by decide)))
              have ek_30r207 : Int32.toInt (ir207 78 30) = Int32.toInt (iv 78 30) := congrArg Int32.toInt (honr207.1 78 30 (Or.inr (by decide)))
              have hTKl := hTK.1
              refine lv_istore (pc := 271) (lv' := [(4, .int r207), (3, .int hw), (0, .ref (b + 78)), (2, .int y)]) C0.1 C0.2.1 dX10_readAll_271 hl (by decide) rfl (fun ls hl => ?_)
              refine lv_iconst (pc := 273) (v := 0) C0.1 C0.2.1 dX10_readAll_273 (by decide) ?_
              refine lv_istore (pc := 274) (lv' := [(4, .int 0), (3, .int hw), (0, .ref (b + 78)), (2, .int y)]) C0.1 C0.2.1 dX10_readAll_274 hl (by decide) rfl (fun ls hl => ?_)
              exact L276 1202 0 ir207 Fr207 Gr207 _ _ _ (RO.tr h1 honr207 (by decide) (by decide)) hT hTK hPI hCB (show Int32.toInt (ir207 78 18) = _ from by omega) hi_78_17 (fun _ => PMm.zk hP) (by decide) (by decide) (show 1 ≤ Int32.toInt (ir207 78 32) from by omega) hH hS (lv_sub hl [0, 2, 3] rfl)
        · have : Int32.toInt 0 = 0 := rfl
          have c202 := congrArg Int32.toInt c202
          refine lv_iload_n (pc := 223) C0.1 C0.2.1 dX10_readAll_223 rfl (lv_at hl 1 rfl) ?_
          refine lv_iconst (pc := 224) (v := 1) C0.1 C0.2.1 dX10_readAll_224 (by decide) ?_
          refine lv_icmp_ne (pc := 225) (tgt := 238) C0.1 C0.2.1 dX10_readAll_225 (by decide) (fun c208 => ?_) (fun c208 => ?_)
          · have : Int32.toInt 1 = 1 := rfl
            have c208 : ¬ _ := fun q => c208 (Int32.toInt_inj.mp q)
            refine lv_aload_n (pc := 238) C0.1 C0.2.1 dX10_readAll_238 rfl (lv_at hl 2 rfl) ?_
            refine xget (pc := 239) C0 hH 78 30 clX10 ⟨Nat.le_of_ble_eq_true rfl, Nat.le_of_ble_eq_true rfl⟩ ⟨rfl, rfl⟩ (Nat.le_of_ble_eq_true rfl) fl_X10_245 (v := .int (iv 78 30)) rfl dX10_readAll_239 ?_
            refine lv_if_ne (pc := 242) (tgt := 273) C0.1 C0.2.1 dX10_readAll_242 (by decide) (fun c209 => ?_) (fun c209 => ?_)
            · have : Int32.toInt 0 = 0 := rfl
              have c209 : ¬ _ := fun q => c209 (Int32.toInt_inj.mp q)
              refine lv_iconst (pc := 273) (v := 0) C0.1 C0.2.1 dX10_readAll_273 (by decide) ?_
              refine lv_istore (pc := 274) (lv' := [(4, .int 0), (3, .int hw), (0, .ref (b + 78)), (2, .int y)]) C0.1 C0.2.1 dX10_readAll_274 hl (by decide) rfl (fun ls hl => ?_)
              exact L276 1202 0 iv Fv Gv _ _ _ h1 hT hTK hPI hCB (show Int32.toInt (iv 78 18) = _ from by omega) hi_78_17 (fun w => PMm.zk (h8 w)) (by decide) (by decide) (show 1 ≤ Int32.toInt (iv 78 32) from by omega) hH hS (lv_sub hl [0, 2, 3] rfl)
            · have : Int32.toInt 0 = 0 := rfl
              have c209 := congrArg Int32.toInt c209
              refine lv_iload_n (pc := 245) C0.1 C0.2.1 dX10_readAll_245 rfl (lv_at hl 1 rfl) ?_
              refine lv_if_le (pc := 246) (tgt := 273) C0.1 C0.2.1 dX10_readAll_246 (by decide) (fun c210 => ?_) (fun c210 => ?_)
              · have : Int32.toInt 0 = 0 := rfl
                have c210 := Int32.le_iff_toInt_le.mp c210
                refine lv_iconst (pc := 273) (v := 0) C0.1 C0.2.1 dX10_readAll_273 (by decide) ?_
                refine lv_istore (pc := 274) (lv' := [(4, .int 0), (3, .int hw), (0, .ref (b + 78)), (2, .int y)]) C0.1 C0.2.1 dX10_readAll_274 hl (by decide) rfl (fun ls hl => ?_)
                exact L276 1202 0 iv Fv Gv _ _ _ h1 hT hTK hPI hCB (show Int32.toInt (iv 78 18) = _ from by omega) hi_78_17 (fun w => PMm.zk (h8 w)) (by decide) (by decide) (show 1 ≤ Int32.toInt (iv 78 32) from by omega) hH hS (lv_sub hl [0, 2, 3] rfl)
              · have : Int32.toInt 0 = 0 := rfl
                have c210 : ¬ _ := fun q => c210 (Int32.le_iff_toInt_le.mpr q)
                have hP := h8 (by have : Int32.toInt 0 = 0 := rfl; omega)
                have hPl := hP.1
                have hq1 := h11 (by have : Int32.toInt 0 = 0 := rfl; omega)
                refine lv_aload_n (pc := 249) C0.1 C0.2.1 dX10_readAll_249 rfl (lv_at hl 2 rfl) ?_
                refine lv_iload_n (pc := 250) C0.1 C0.2.1 dX10_readAll_250 rfl (lv_at hl 1 rfl) ?_
                refine lv_bipush (pc := 251) (v := (-9)) C0.1 C0.2.1 dX10_readAll_251 (by decide) ?_
                refine lv_aload_n (pc := 253) C0.1 C0.2.1 dX10_readAll_253 rfl (lv_at hl 2 rfl) ?_
                refine xget (pc := 254) C0 hH 78 39 clX10 ⟨Nat.le_of_ble_eq_true rfl, Nat.le_of_ble_eq_true rfl⟩ ⟨rfl, rfl⟩ (Nat.le_of_ble_eq_true rfl) fl_X10_91 (v := .ref (b + 104)) rfl dX10_readAll_254 ?_
                refine lv_aload_n (pc := 257) C0.1 C0.2.1 dX10_readAll_257 rfl (lv_at hl 2 rfl) ?_
                refine xcVI (pc := 258) 78 [] (m_topmost l D tA b iv Fv Gv q.toInt hT hP) C0 hH hS clX10 rfl ⟨⟨Nat.le_of_ble_eq_true rfl, Nat.le_of_ble_eq_true rfl⟩, rfl, rfl⟩ cw_X10_296 rfl ⟨Nat.le_of_ble_eq_true rfl, Nat.le_of_ble_eq_true rfl⟩ hl.1 rfl (Nat.le_of_ble_eq_true rfl) dX10_readAll_258 ⟨Nat.le_of_ble_eq_true rfl, Nat.le_of_ble_eq_true rfl⟩ (fun r211 ir211 Fr211 Gr211 _ locs hp hH hS => ?_)
                obtain ⟨hu, htpr211, htqr211, htzr211⟩ := hp
                cases hu
                have hBtr211 := TMm.bt hT (x := r211) (show 0 ≤ Int32.toInt r211 ∧ Int32.toInt r211 < Int32.toInt (iv 78 32) from htpr211)
                refine xiald (pc := 261) (N := 1202) C0 hH 104 ⟨Nat.le_of_ble_eq_true rfl, Nat.le_of_ble_eq_true rfl⟩ ⟨rfl, rfl⟩ (vI (by omega) (by omega)) dX10_readAll_261 ?_
                have hv9 := htqr211 (Or.inr (by omega))
                refine lv_aload_n (pc := 262) C0.1 C0.2.1 dX10_readAll_262 rfl (lv_at hl 2 rfl) ?_
                refine xget (pc := 263) C0 hH 78 19 clX10 ⟨Nat.le_of_ble_eq_true rfl, Nat.le_of_ble_eq_true rfl⟩ ⟨rfl, rfl⟩ (Nat.le_of_ble_eq_true rfl) fl_X10_258 (v := .int (iv 78 19)) rfl dX10_readAll_263 ?_
                refine lv_iconst (pc := 266) (v := 1) C0.1 C0.2.1 dX10_readAll_266 (by decide) ?_
                have : Int32.toInt 1 = 1 := rfl
                refine lv_isub (pc := 267) C0.1 C0.2.1 dX10_readAll_267 ?_
                refine lv_topi (fun x212 ex212 => ?_)
                have hx212 : Int32.toInt x212 = Int32.toInt (iv 78 19) - Int32.toInt 1 := by rw [ex212]; exact fb_subI (by omega) (by omega)
                refine xcVI (pc := 268) 78 [.int hw, .int (-9), .int (Fv 104 (Int32.toNatClampNeg r211)), .int x212] (m_newBlock l D tA b iv Fv Gv hw (-9) (Fv 104 (Int32.toNatClampNeg r211)) x212 hT (show Int32.toInt (iv 78 32) < 1202 from by omega) (show Int32.toInt (iv 78 47) < 1802 from by omega) (show (Int32.toInt (iv 78 32) = 0 ∧ Int32.toInt (Fv 104 (Int32.toNatClampNeg r211)) = -9) ∨ (1 ≤ Int32.toInt (iv 78 32) ∧ (0 ≤ Int32.toInt (Fv 104 (Int32.toNatClampNeg r211)) ∧ Int32.toInt (Fv 104 (Int32.toNatClampNeg r211)) < Int32.toInt (iv 78 40)) ∧ 0 ≤ Int32.toInt x212 ∧ Int32.toInt x212 < 600) from by omega)) C0 hH hS clX10 rfl ⟨⟨Nat.le_of_ble_eq_true rfl, Nat.le_of_ble_eq_true rfl⟩, rfl, rfl⟩ cw_X10_299 rfl ⟨Nat.le_of_ble_eq_true rfl, Nat.le_of_ble_eq_true rfl⟩ hl.1 rfl (Nat.le_of_ble_eq_true rfl) dX10_readAll_268 ⟨Nat.le_of_ble_eq_true rfl, Nat.le_of_ble_eq_true rfl⟩ (fun r213 ir213 Fr213 Gr213 _ locs hp hH hS => ?_)
                obtain ⟨honr213, hT, h32r213, h47r213, hrbr213, e98r213, e99r213, e102r213⟩ := hp
                have hT : TMm ir213 Fr213 := hT
                have h32r213 : (ir213 78 32).toInt = Int32.toInt (iv 78 32) + 1 := h32r213
                have h47r213 : Int32.toInt (iv 78 47) ≤ (ir213 78 47).toInt ∧ (ir213 78 47).toInt ≤ Int32.toInt (iv 78 47) + 1 := h47r213
                have hrIr213 : Int32.toInt r213 = Int32.toInt (iv 78 32) := congrArg Int32.toInt hrbr213
                have hTL := TMm.lin hT
                have hTK : TKm ir213 Fr213 := TKm.ro (i := iv) (F := Fv) hTK honr213 (by decide)
                have hPI : PLI ir213 := PLI.ro (i := iv) (F := Fv) hPI honr213 (by decide)
                have hP : PMm q.toInt ir213 Fr213 := PMm.nb (i := iv) (F := Fv) hP (by omega) h32r213 e98r213 e99r213 e102r213 (honr213.2 113 (by decide)).1 (honr213.1 78 51 (Or.inr (by decide)))
                have hBR : BR ir213 := BR.ro (i := iv) (F := Fv) hBR honr213 (by decide)
                have hCB : CB Fr213 := CB.ro (F := Fv) hCB honr213 (by decide)
                have hi_78_17 : ir213 78 17 = nI 86 := (honr213.1 78 17 (Or.inr (by decide))).trans hi_78_17
                have ek_40r213 : Int32.toInt (ir213 78 40) = Int32.toInt (iv 78 40) := congrArg Int32.toInt (honr213.1 78 40 (Or.inr (by decide)))
                have ek_51r213 : Int32.toInt (ir213 78 51) = Int32.toInt (iv 78 51) := congrArg Int32.toInt (honr213.1 78 51 (Or.inr (by decide)))
                have ek_19r213 : Int32.toInt (ir213 78 19) = Int32.toInt (iv 78 19) := congrArg Int32.toInt (honr213.1 78 19 (Or.inr (by decide)))
                have ek_18r213 : Int32.toInt (ir213 78 18) = Int32.toInt (iv 78 18) := congrArg Int32.toInt (honr213.1 78 18 (Or.inr (by decide)))
                have ek_30r213 : Int32.toInt (ir213 78 30) = Int32.toInt (iv 78 30) := congrArg Int32.toInt (honr213.1 78 30 (Or.inr (by decide)))
                have hTKl := hTK.1
                refine lv_istore (pc := 271) (lv' := [(4, .int r213), (3, .int hw), (0, .ref (b + 78)), (2, .int y)]) C0.1 C0.2.1 dX10_readAll_271 hl (by decide) rfl (fun ls hl => ?_)
                refine lv_iconst (pc := 273) (v := 0) C0.1 C0.2.1 dX10_readAll_273 (by decide) ?_
                refine lv_istore (pc := 274) (lv' := [(4, .int 0), (3, .int hw), (0, .ref (b + 78)), (2, .int y)]) C0.1 C0.2.1 dX10_readAll_274 hl (by decide) rfl (fun ls hl => ?_)
                exact L276 1202 0 ir213 Fr213 Gr213 _ _ _ (RO.tr h1 honr213 (by decide) (by decide)) hT hTK hPI hCB (show Int32.toInt (ir213 78 18) = _ from by omega) hi_78_17 (fun _ => PMm.zk hP) (by decide) (by decide) (show 1 ≤ Int32.toInt (ir213 78 32) from by omega) hH hS (lv_sub hl [0, 2, 3] rfl)
          · have : Int32.toInt 1 = 1 := rfl
            have c208 := congrArg Int32.toInt c208
            refine lv_aload_n (pc := 228) C0.1 C0.2.1 dX10_readAll_228 rfl (lv_at hl 2 rfl) ?_
            refine lv_iconst (pc := 229) (v := 3) C0.1 C0.2.1 dX10_readAll_229 (by decide) ?_
            refine lv_aload_n (pc := 230) C0.1 C0.2.1 dX10_readAll_230 rfl (lv_at hl 2 rfl) ?_
            refine xget (pc := 231) C0 hH 78 18 clX10 ⟨Nat.le_of_ble_eq_true rfl, Nat.le_of_ble_eq_true rfl⟩ ⟨rfl, rfl⟩ (Nat.le_of_ble_eq_true rfl) fl_X10_251 (v := .int (iv 78 18)) rfl dX10_readAll_231 ?_
            refine xcVI (pc := 234) 78 [.int 3, .int (iv 78 18)] (m_fail l D tA b iv Fv Gv 3 (iv 78 18)) C0 hH hS clX10 rfl ⟨⟨Nat.le_of_ble_eq_true rfl, Nat.le_of_ble_eq_true rfl⟩, rfl, rfl⟩ cw_X10_254 rfl ⟨Nat.le_of_ble_eq_true rfl, Nat.le_of_ble_eq_true rfl⟩ hl.1 rfl (Nat.le_of_ble_eq_true rfl) dX10_readAll_234 ⟨Nat.le_of_ble_eq_true rfl, Nat.le_of_ble_eq_true rfl⟩ (fun r214 ir214 Fr214 Gr214 _ locs hp hH hS => ?_)
            obtain ⟨hu, rfl⟩ := hp
            cases hu
            have hH : Hd D tA b 78 52 zz (up2 (up2 iv 78 30 3) 78 31 (iv 78 18)) Fv Gv _ := hH
            exact xzret (pc := 237) C0 hr hH hS dX10_readAll_237 (by decide) ⟨(RO.i (RO.i h1 (by decide)) (by decide)), hTK, hT, hCB, (by decide), (fun _ => (show 0 ≤ Int32.toInt (iv 78 18) ∧ Int32.toInt (iv 78 18) ≤ 600 from by first | omega | (have := hTK.2.1 0; omega))), hi_78_17, Or.inl (show 1 ≤ Int32.toInt (iv 78 32) from by omega)⟩
      · have c201 : ¬ _ := fun q => c201 (Int32.le_iff_toInt_le.mpr q)
        refine lv_aload_n (pc := 89) C0.1 C0.2.1 dX10_readAll_89 rfl (lv_at hl 2 rfl) ?_
        refine xget (pc := 90) C0 hH 78 30 clX10 ⟨Nat.le_of_ble_eq_true rfl, Nat.le_of_ble_eq_true rfl⟩ ⟨rfl, rfl⟩ (Nat.le_of_ble_eq_true rfl) fl_X10_245 (v := .int (iv 78 30)) rfl dX10_readAll_90 ?_
        refine lv_if_ne (pc := 93) (tgt := 216) C0.1 C0.2.1 dX10_readAll_93 (by decide) (fun c215 => ?_) (fun c215 => ?_)
        · have : Int32.toInt 0 = 0 := rfl
          have c215 : ¬ _ := fun q => c215 (Int32.toInt_inj.mp q)
          refine lv_aload_n (pc := 216) C0.1 C0.2.1 dX10_readAll_216 rfl (lv_at hl 2 rfl) ?_
          refine xget (pc := 217) C0 hH 78 30 clX10 ⟨Nat.le_of_ble_eq_true rfl, Nat.le_of_ble_eq_true rfl⟩ ⟨rfl, rfl⟩ (Nat.le_of_ble_eq_true rfl) fl_X10_245 (v := .int (iv 78 30)) rfl dX10_readAll_217 ?_
          refine lv_if_ne (pc := 220) (tgt := 238) C0.1 C0.2.1 dX10_readAll_220 (by decide) (fun c216 => ?_) (fun c216 => ?_)
          · have : Int32.toInt 0 = 0 := rfl
            have c216 : ¬ _ := fun q => c216 (Int32.toInt_inj.mp q)
            refine lv_aload_n (pc := 238) C0.1 C0.2.1 dX10_readAll_238 rfl (lv_at hl 2 rfl) ?_
            refine xget (pc := 239) C0 hH 78 30 clX10 ⟨Nat.le_of_ble_eq_true rfl, Nat.le_of_ble_eq_true rfl⟩ ⟨rfl, rfl⟩ (Nat.le_of_ble_eq_true rfl) fl_X10_245 (v := .int (iv 78 30)) rfl dX10_readAll_239 ?_
            refine lv_if_ne (pc := 242) (tgt := 273) C0.1 C0.2.1 dX10_readAll_242 (by decide) (fun c217 => ?_) (fun c217 => ?_)
            · have : Int32.toInt 0 = 0 := rfl
              have c217 : ¬ _ := fun q => c217 (Int32.toInt_inj.mp q)
              refine lv_iconst (pc := 273) (v := 0) C0.1 C0.2.1 dX10_readAll_273 (by decide) ?_
              refine lv_istore (pc := 274) (lv' := [(4, .int 0), (3, .int hw), (0, .ref (b + 78)), (2, .int y)]) C0.1 C0.2.1 dX10_readAll_274 hl (by decide) rfl (fun ls hl => ?_)
              exact L276 1202 0 iv Fv Gv _ _ _ h1 hT hTK hPI hCB (show Int32.toInt (iv 78 18) = _ from by omega) hi_78_17 (fun w => PMm.zk (h8 w)) (by decide) (by decide) (show 1 ≤ Int32.toInt (iv 78 32) from by omega) hH hS (lv_sub hl [0, 2, 3] rfl)
            · have : Int32.toInt 0 = 0 := rfl
              have c217 := congrArg Int32.toInt c217
              refine lv_iload_n (pc := 245) C0.1 C0.2.1 dX10_readAll_245 rfl (lv_at hl 1 rfl) ?_
              refine lv_if_le (pc := 246) (tgt := 273) C0.1 C0.2.1 dX10_readAll_246 (by decide) (fun c218 => ?_) (fun c218 => ?_)
              · have : Int32.toInt 0 = 0 := rfl
                have c218 := Int32.le_iff_toInt_le.mp c218
                refine lv_iconst (pc := 273) (v := 0) C0.1 C0.2.1 dX10_readAll_273 (by decide) ?_
                refine lv_istore (pc := 274) (lv' := [(4, .int 0), (3, .int hw), (0, .ref (b + 78)), (2, .int y)]) C0.1 C0.2.1 dX10_readAll_274 hl (by decide) rfl (fun ls hl => ?_)
                exact L276 1202 0 iv Fv Gv _ _ _ h1 hT hTK hPI hCB (show Int32.toInt (iv 78 18) = _ from by omega) hi_78_17 (fun w => PMm.zk (h8 w)) (by decide) (by decide) (show 1 ≤ Int32.toInt (iv 78 32) from by omega) hH hS (lv_sub hl [0, 2, 3] rfl)
              · have : Int32.toInt 0 = 0 := rfl
                have c218 : ¬ _ := fun q => c218 (Int32.le_iff_toInt_le.mpr q)
                have hP := h8 (by have : Int32.toInt 0 = 0 := rfl; omega)
                have hPl := hP.1
                have hq1 := h11 (by have : Int32.toInt 0 = 0 := rfl; omega)
                refine lv_aload_n (pc := 249) C0.1 C0.2.1 dX10_readAll_249 rfl (lv_at hl 2 rfl) ?_
                refine lv_iload_n (pc := 250) C0.1 C0.2.1 dX10_readAll_250 rfl (lv_at hl 1 rfl) ?_
                refine lv_bipush (pc := 251) (v := (-9)) C0.1 C0.2.1 dX10_readAll_251 (by decide) ?_
                refine lv_aload_n (pc := 253) C0.1 C0.2.1 dX10_readAll_253 rfl (lv_at hl 2 rfl) ?_
                refine xget (pc := 254) C0 hH 78 39 clX10 ⟨Nat.le_of_ble_eq_true rfl, Nat.le_of_ble_eq_true rfl⟩ ⟨rfl, rfl⟩ (Nat.le_of_ble_eq_true rfl) fl_X10_91 (v := .ref (b + 104)) rfl dX10_readAll_254 ?_
                refine lv_aload_n (pc := 257) C0.1 C0.2.1 dX10_readAll_257 rfl (lv_at hl 2 rfl) ?_
                refine xcVI (pc := 258) 78 [] (m_topmost l D tA b iv Fv Gv q.toInt hT hP) C0 hH hS clX10 rfl ⟨⟨Nat.le_of_ble_eq_true rfl, Nat.le_of_ble_eq_true rfl⟩, rfl, rfl⟩ cw_X10_296 rfl ⟨Nat.le_of_ble_eq_true rfl, Nat.le_of_ble_eq_true rfl⟩ hl.1 rfl (Nat.le_of_ble_eq_true rfl) dX10_readAll_258 ⟨Nat.le_of_ble_eq_true rfl, Nat.le_of_ble_eq_true rfl⟩ (fun r219 ir219 Fr219 Gr219 _ locs hp hH hS => ?_)
                obtain ⟨hu, htpr219, htqr219, htzr219⟩ := hp
                cases hu
                have hBtr219 := TMm.bt hT (x := r219) (show 0 ≤ Int32.toInt r219 ∧ Int32.toInt r219 < Int32.toInt (iv 78 32) from htpr219)
                refine xiald (pc := 261) (N := 1202) C0 hH 104 ⟨Nat.le_of_ble_eq_true rfl, Nat.le_of_ble_eq_true rfl⟩ ⟨rfl, rfl⟩ (vI (by omega) (by omega)) dX10_readAll_261 ?_
                have hv9 := htqr219 (Or.inr (by omega))
                refine lv_aload_n (pc := 262) C0.1 C0.2.1 dX10_readAll_262 rfl (lv_at hl 2 rfl) ?_
                refine xget (pc := 263) C0 hH 78 19 clX10 ⟨Nat.le_of_ble_eq_true rfl, Nat.le_of_ble_eq_true rfl⟩ ⟨rfl, rfl⟩ (Nat.le_of_ble_eq_true rfl) fl_X10_258 (v := .int (iv 78 19)) rfl dX10_readAll_263 ?_
                refine lv_iconst (pc := 266) (v := 1) C0.1 C0.2.1 dX10_readAll_266 (by decide) ?_
                have : Int32.toInt 1 = 1 := rfl
                refine lv_isub (pc := 267) C0.1 C0.2.1 dX10_readAll_267 ?_
                refine lv_topi (fun x220 ex220 => ?_)
                have hx220 : Int32.toInt x220 = Int32.toInt (iv 78 19) - Int32.toInt 1 := by rw [ex220]; exact fb_subI (by omega) (by omega)
                refine xcVI (pc := 268) 78 [.int hw, .int (-9), .int (Fv 104 (Int32.toNatClampNeg r219)), .int x220] (m_newBlock l D tA b iv Fv Gv hw (-9) (Fv 104 (Int32.toNatClampNeg r219)) x220 hT (show Int32.toInt (iv 78 32) < 1202 from by omega) (show Int32.toInt (iv 78 47) < 1802 from by omega) (show (Int32.toInt (iv 78 32) = 0 ∧ Int32.toInt (Fv 104 (Int32.toNatClampNeg r219)) = -9) ∨ (1 ≤ Int32.toInt (iv 78 32) ∧ (0 ≤ Int32.toInt (Fv 104 (Int32.toNatClampNeg r219)) ∧ Int32.toInt (Fv 104 (Int32.toNatClampNeg r219)) < Int32.toInt (iv 78 40)) ∧ 0 ≤ Int32.toInt x220 ∧ Int32.toInt x220 < 600) from by omega)) C0 hH hS clX10 rfl ⟨⟨Nat.le_of_ble_eq_true rfl, Nat.le_of_ble_eq_true rfl⟩, rfl, rfl⟩ cw_X10_299 rfl ⟨Nat.le_of_ble_eq_true rfl, Nat.le_of_ble_eq_true rfl⟩ hl.1 rfl (Nat.le_of_ble_eq_true rfl) dX10_readAll_268 ⟨Nat.le_of_ble_eq_true rfl, Nat.le_of_ble_eq_true rfl⟩ (fun r221 ir221 Fr221 Gr221 _ locs hp hH hS => ?_)
                obtain ⟨honr221, hT, h32r221, h47r221, hrbr221, e98r221, e99r221, e102r221⟩ := hp
                have hT : TMm ir221 Fr221 := hT
                have h32r221 : (ir221 78 32).toInt = Int32.toInt (iv 78 32) + 1 := h32r221
                have h47r221 : Int32.toInt (iv 78 47) ≤ (ir221 78 47).toInt ∧ (ir221 78 47).toInt ≤ Int32.toInt (iv 78 47) + 1 := h47r221
                have hrIr221 : Int32.toInt r221 = Int32.toInt (iv 78 32) := congrArg Int32.toInt hrbr221
                have hTL := TMm.lin hT
                have hTK : TKm ir221 Fr221 := TKm.ro (i := iv) (F := Fv) hTK honr221 (by decide)
                have hPI : PLI ir221 := PLI.ro (i := iv) (F := Fv) hPI honr221 (by decide)
                have hP : PMm q.toInt ir221 Fr221 := PMm.nb (i := iv) (F := Fv) hP (by omega) h32r221 e98r221 e99r221 e102r221 (honr221.2 113 (by decide)).1 (honr221.1 78 51 (Or.inr (by decide)))
                have hBR : BR ir221 := BR.ro (i := iv) (F := Fv) hBR honr221 (by decide)
                have hCB : CB Fr221 := CB.ro (F := Fv) hCB honr221 (by decide)
                have hi_78_17 : ir221 78 17 = nI 86 := (honr221.1 78 17 (Or.inr (by decide))).trans hi_78_17
                have ek_40r221 : Int32.toInt (ir221 78 40) = Int32.toInt (iv 78 40) := congrArg Int32.toInt (honr221.1 78 40 (Or.inr (by decide)))
                have ek_51r221 : Int32.toInt (ir221 78 51) = Int32.toInt (iv 78 51) := congrArg Int32.toInt (honr221.1 78 51 (Or.inr (by decide)))
                have ek_19r221 : Int32.toInt (ir221 78 19) = Int32.toInt (iv 78 19) := congrArg Int32.toInt (honr221.1 78 19 (Or.inr (by decide)))
                have ek_18r221 : Int32.toInt (ir221 78 18) = Int32.toInt (iv 78 18) := congrArg Int32.toInt (honr221.1 78 18 (Or.inr (by decide)))
                have ek_30r221 : Int32.toInt (ir221 78 30) = Int32.toInt (iv 78 30) := congrArg Int32.toInt (honr221.1 78 30 (Or.inr (by decide)))
                have hTKl := hTK.1
                refine lv_istore (pc := 271) (lv' := [(4, .int r221), (3, .int hw), (0, .ref (b + 78)), (2, .int y)]) C0.1 C0.2.1 dX10_readAll_271 hl (by decide) rfl (fun ls hl => ?_)
                refine lv_iconst (pc := 273) (v := 0) C0.1 C0.2.1 dX10_readAll_273 (by decide) ?_
                refine lv_istore (pc := 274) (lv' := [(4, .int 0), (3, .int hw), (0, .ref (b + 78)), (2, .int y)]) C0.1 C0.2.1 dX10_readAll_274 hl (by decide) rfl (fun ls hl => ?_)
                exact L276 1202 0 ir221 Fr221 Gr221 _ _ _ (RO.tr h1 honr221 (by decide) (by decide)) hT hTK hPI hCB (show Int32.toInt (ir221 78 18) = _ from by omega) hi_78_17 (fun _ => PMm.zk hP) (by decide) (by decide) (show 1 ≤ Int32.toInt (ir221 78 32) from by omega) hH hS (lv_sub hl [0, 2, 3] rfl)
          · have : Int32.toInt 0 = 0 := rfl
            have c216 := congrArg Int32.toInt c216
            refine lv_iload_n (pc := 223) C0.1 C0.2.1 dX10_readAll_223 rfl (lv_at hl 1 rfl) ?_
            refine lv_iconst (pc := 224) (v := 1) C0.1 C0.2.1 dX10_readAll_224 (by decide) ?_
            refine lv_icmp_ne (pc := 225) (tgt := 238) C0.1 C0.2.1 dX10_readAll_225 (by decide) (fun c222 => ?_) (fun c222 => ?_)
            · have : Int32.toInt 1 = 1 := rfl
              have c222 : ¬ _ := fun q => c222 (Int32.toInt_inj.mp q)
              refine lv_aload_n (pc := 238) C0.1 C0.2.1 dX10_readAll_238 rfl (lv_at hl 2 rfl) ?_
              refine xget (pc := 239) C0 hH 78 30 clX10 ⟨Nat.le_of_ble_eq_true rfl, Nat.le_of_ble_eq_true rfl⟩ ⟨rfl, rfl⟩ (Nat.le_of_ble_eq_true rfl) fl_X10_245 (v := .int (iv 78 30)) rfl dX10_readAll_239 ?_
              refine lv_if_ne (pc := 242) (tgt := 273) C0.1 C0.2.1 dX10_readAll_242 (by decide) (fun c223 => ?_) (fun c223 => ?_)
              · have : Int32.toInt 0 = 0 := rfl
                have c223 : ¬ _ := fun q => c223 (Int32.toInt_inj.mp q)
                refine lv_iconst (pc := 273) (v := 0) C0.1 C0.2.1 dX10_readAll_273 (by decide) ?_
                refine lv_istore (pc := 274) (lv' := [(4, .int 0), (3, .int hw), (0, .ref (b + 78)), (2, .int y)]) C0.1 C0.2.1 dX10_readAll_274 hl (by decide) rfl (fun ls hl => ?_)
                exact L276 1202 0 iv Fv Gv _ _ _ h1 hT hTK hPI hCB (show Int32.toInt (iv 78 18) = _ from by omega) hi_78_17 (fun w => PMm.zk (h8 w)) (by decide) (by decide) (show 1 ≤ Int32.toInt (iv 78 32) from by omega) hH hS (lv_sub hl [0, 2, 3] rfl)
              · have : Int32.toInt 0 = 0 := rfl
                have c223 := congrArg Int32.toInt c223
                refine lv_iload_n (pc := 245) C0.1 C0.2.1 dX10_readAll_245 rfl (lv_at hl 1 rfl) ?_
                refine lv_if_le (pc := 246) (tgt := 273) C0.1 C0.2.1 dX10_readAll_246 (by decide) (fun c224 => ?_) (fun c224 => ?_)
                · have : Int32.toInt 0 = 0 := rfl
                  have c224 := Int32.le_iff_toInt_le.mp c224
                  refine lv_iconst (pc := 273) (v := 0) C0.1 C0.2.1 dX10_readAll_273 (by decide) ?_
                  refine lv_istore (pc := 274) (lv' := [(4, .int 0), (3, .int hw), (0, .ref (b + 78)), (2, .int y)]) C0.1 C0.2.1 dX10_readAll_274 hl (by decide) rfl (fun ls hl => ?_)
                  exact L276 1202 0 iv Fv Gv _ _ _ h1 hT hTK hPI hCB (show Int32.toInt (iv 78 18) = _ from by omega) hi_78_17 (fun w => PMm.zk (h8 w)) (by decide) (by decide) (show 1 ≤ Int32.toInt (iv 78 32) from by omega) hH hS (lv_sub hl [0, 2, 3] rfl)
                · have : Int32.toInt 0 = 0 := rfl
                  have c224 : ¬ _ := fun q => c224 (Int32.le_iff_toInt_le.mpr q)
                  have hP := h8 (by have : Int32.toInt 0 = 0 := rfl; omega)
                  have hPl := hP.1
                  have hq1 := h11 (by have : Int32.toInt 0 = 0 := rfl; omega)
                  refine lv_aload_n (pc := 249) C0.1 C0.2.1 dX10_readAll_249 rfl (lv_at hl 2 rfl) ?_
                  refine lv_iload_n (pc := 250) C0.1 C0.2.1 dX10_readAll_250 rfl (lv_at hl 1 rfl) ?_
                  refine lv_bipush (pc := 251) (v := (-9)) C0.1 C0.2.1 dX10_readAll_251 (by decide) ?_
                  refine lv_aload_n (pc := 253) C0.1 C0.2.1 dX10_readAll_253 rfl (lv_at hl 2 rfl) ?_
                  refine xget (pc := 254) C0 hH 78 39 clX10 ⟨Nat.le_of_ble_eq_true rfl, Nat.le_of_ble_eq_true rfl⟩ ⟨rfl, rfl⟩ (Nat.le_of_ble_eq_true rfl) fl_X10_91 (v := .ref (b + 104)) rfl dX10_readAll_254 ?_
                  refine lv_aload_n (pc := 257) C0.1 C0.2.1 dX10_readAll_257 rfl (lv_at hl 2 rfl) ?_
                  refine xcVI (pc := 258) 78 [] (m_topmost l D tA b iv Fv Gv q.toInt hT hP) C0 hH hS clX10 rfl ⟨⟨Nat.le_of_ble_eq_true rfl, Nat.le_of_ble_eq_true rfl⟩, rfl, rfl⟩ cw_X10_296 rfl ⟨Nat.le_of_ble_eq_true rfl, Nat.le_of_ble_eq_true rfl⟩ hl.1 rfl (Nat.le_of_ble_eq_true rfl) dX10_readAll_258 ⟨Nat.le_of_ble_eq_true rfl, Nat.le_of_ble_eq_true rfl⟩ (fun r225 ir225 Fr225 Gr225 _ locs hp hH hS => ?_)
                  obtain ⟨hu, htpr225, htqr225, htzr225⟩ := hp
                  cases hu
                  have hBtr225 := TMm.bt hT (x := r225) (show 0 ≤ Int32.toInt r225 ∧ Int32.toInt r225 < Int32.toInt (iv 78 32) from htpr225)
                  refine xiald (pc := 261) (N := 1202) C0 hH 104 ⟨Nat.le_of_ble_eq_true rfl, Nat.le_of_ble_eq_true rfl⟩ ⟨rfl, rfl⟩ (vI (by omega) (by omega)) dX10_readAll_261 ?_
                  have hv9 := htqr225 (Or.inr (by omega))
                  refine lv_aload_n (pc := 262) C0.1 C0.2.1 dX10_readAll_262 rfl (lv_at hl 2 rfl) ?_
                  refine xget (pc := 263) C0 hH 78 19 clX10 ⟨Nat.le_of_ble_eq_true rfl, Nat.le_of_ble_eq_true rfl⟩ ⟨rfl, rfl⟩ (Nat.le_of_ble_eq_true rfl) fl_X10_258 (v := .int (iv 78 19)) rfl dX10_readAll_263 ?_
                  refine lv_iconst (pc := 266) (v := 1) C0.1 C0.2.1 dX10_readAll_266 (by decide) ?_
                  have : Int32.toInt 1 = 1 := rfl
                  refine lv_isub (pc := 267) C0.1 C0.2.1 dX10_readAll_267 ?_
                  refine lv_topi (fun x226 ex226 => ?_)
                  have hx226 : Int32.toInt x226 = Int32.toInt (iv 78 19) - Int32.toInt 1 := by rw [ex226]; exact fb_subI (by omega) (by omega)
                  refine xcVI (pc := 268) 78 [.int hw, .int (-9), .int (Fv 104 (Int32.toNatClampNeg r225)), .int x226] (m_newBlock l D tA b iv Fv Gv hw (-9) (Fv 104 (Int32.toNatClampNeg r225)) x226 hT (show Int32.toInt (iv 78 32) < 1202 from by omega) (show Int32.toInt (iv 78 47) < 1802 from by omega) (show (Int32.toInt (iv 78 32) = 0 ∧ Int32.toInt (Fv 104 (Int32.toNatClampNeg r225)) = -9) ∨ (1 ≤ Int32.toInt (iv 78 32) ∧ (0 ≤ Int32.toInt (Fv 104 (Int32.toNatClampNeg r225)) ∧ Int32.toInt (Fv 104 (Int32.toNatClampNeg r225)) < Int32.toInt (iv 78 40)) ∧ 0 ≤ Int32.toInt x226 ∧ Int32.toInt x226 < 600) from by omega)) C0 hH hS clX10 rfl ⟨⟨Nat.le_of_ble_eq_true rfl, Nat.le_of_ble_eq_true rfl⟩, rfl, rfl⟩ cw_X10_299 rfl ⟨Nat.le_of_ble_eq_true rfl, Nat.le_of_ble_eq_true rfl⟩ hl.1 rfl (Nat.le_of_ble_eq_true rfl) dX10_readAll_268 ⟨Nat.le_of_ble_eq_true rfl, Nat.le_of_ble_eq_true rfl⟩ (fun r227 ir227 Fr227 Gr227 _ locs hp hH hS => ?_)
                  obtain ⟨honr227, hT, h32r227, h47r227, hrbr227, e98r227, e99r227, e102r227⟩ := hp
                  have hT : TMm ir227 Fr227 := hT
                  have h32r227 : (ir227 78 32).toInt = Int32.toInt (iv 78 32) + 1 := h32r227
                  have h47r227 : Int32.toInt (iv 78 47) ≤ (ir227 78 47).toInt ∧ (ir227 78 47).toInt ≤ Int32.toInt (iv 78 47) + 1 := h47r227
                  have hrIr227 : Int32.toInt r227 = Int32.toInt (iv 78 32) := congrArg Int32.toInt hrbr227
                  have hTL := TMm.lin hT
                  have hTK : TKm ir227 Fr227 := TKm.ro (i := iv) (F := Fv) hTK honr227 (by decide)
                  have hPI : PLI ir227 := PLI.ro (i := iv) (F := Fv) hPI honr227 (by decide)
                  have hP : PMm q.toInt ir227 Fr227 := PMm.nb (i := iv) (F := Fv) hP (by omega) h32r227 e98r227 e99r227 e102r227 (honr227.2 113 (by decide)).1 (honr227.1 78 51 (Or.inr (by decide)))
                  have hBR : BR ir227 := BR.ro (i := iv) (F := Fv) hBR honr227 (by decide)
                  have hCB : CB Fr227 := CB.ro (F := Fv) hCB honr227 (by decide)
                  have hi_78_17 : ir227 78 17 = nI 86 := (honr227.1 78 17 (Or.inr (by decide))).trans hi_78_17
                  have ek_40r227 : Int32.toInt (ir227 78 40) = Int32.toInt (iv 78 40) := congrArg Int32.toInt (honr227.1 78 40 (Or.inr (by decide)))
                  have ek_51r227 : Int32.toInt (ir227 78 51) = Int32.toInt (iv 78 51) := congrArg Int32.toInt (honr227.1 78 51 (Or.inr (by decide)))
                  have ek_19r227 : Int32.toInt (ir227 78 19) = Int32.toInt (iv 78 19) := congrArg Int32.toInt (honr227.1 78 19 (Or.inr (by decide)))
                  have ek_18r227 : Int32.toInt (ir227 78 18) = Int32.toInt (iv 78 18) := congrArg Int32.toInt (honr227.1 78 18 (Or.inr (by decide)))
                  have ek_30r227 : Int32.toInt (ir227 78 30) = Int32.toInt (iv 78 30) := congrArg Int32.toInt (honr227.1 78 30 (Or.inr (by decide)))
                  have hTKl := hTK.1
                  refine lv_istore (pc := 271) (lv' := [(4, .int r227), (3, .int hw), (0, .ref (b + 78)), (2, .int y)]) C0.1 C0.2.1 dX10_readAll_271 hl (by decide) rfl (fun ls hl => ?_)
                  refine lv_iconst (pc := 273) (v := 0) C0.1 C0.2.1 dX10_readAll_273 (by decide) ?_
                  refine lv_istore (pc := 274) (lv' := [(4, .int 0), (3, .int hw), (0, .ref (b + 78)), (2, .int y)]) C0.1 C0.2.1 dX10_readAll_274 hl (by decide) rfl (fun ls hl => ?_)
                  exact L276 1202 0 ir227 Fr227 Gr227 _ _ _ (RO.tr h1 honr227 (by decide) (by decide)) hT hTK hPI hCB (show Int32.toInt (ir227 78 18) = _ from by omega) hi_78_17 (fun _ => PMm.zk hP) (by decide) (by decide) (show 1 ≤ Int32.toInt (ir227 78 32) from by omega) hH hS (lv_sub hl [0, 2, 3] rfl)
            · have : Int32.toInt 1 = 1 := rfl
              have c222 := congrArg Int32.toInt c222
              refine lv_aload_n (pc := 228) C0.1 C0.2.1 dX10_readAll_228 rfl (lv_at hl 2 rfl) ?_
              refine lv_iconst (pc := 229) (v := 3) C0.1 C0.2.1 dX10_readAll_229 (by decide) ?_
              refine lv_aload_n (pc := 230) C0.1 C0.2.1 dX10_readAll_230 rfl (lv_at hl 2 rfl) ?_
              refine xget (pc := 231) C0 hH 78 18 clX10 ⟨Nat.le_of_ble_eq_true rfl, Nat.le_of_ble_eq_true rfl⟩ ⟨rfl, rfl⟩ (Nat.le_of_ble_eq_true rfl) fl_X10_251 (v := .int (iv 78 18)) rfl dX10_readAll_231 ?_
              refine xcVI (pc := 234) 78 [.int 3, .int (iv 78 18)] (m_fail l D tA b iv Fv Gv 3 (iv 78 18)) C0 hH hS clX10 rfl ⟨⟨Nat.le_of_ble_eq_true rfl, Nat.le_of_ble_eq_true rfl⟩, rfl, rfl⟩ cw_X10_254 rfl ⟨Nat.le_of_ble_eq_true rfl, Nat.le_of_ble_eq_true rfl⟩ hl.1 rfl (Nat.le_of_ble_eq_true rfl) dX10_readAll_234 ⟨Nat.le_of_ble_eq_true rfl, Nat.le_of_ble_eq_true rfl⟩ (fun r228 ir228 Fr228 Gr228 _ locs hp hH hS => ?_)
              obtain ⟨hu, rfl⟩ := hp
              cases hu
              have hH : Hd D tA b 78 52 zz (up2 (up2 iv 78 30 3) 78 31 (iv 78 18)) Fv Gv _ := hH
              exact xzret (pc := 237) C0 hr hH hS dX10_readAll_237 (by decide) ⟨(RO.i (RO.i h1 (by decide)) (by decide)), hTK, hT, hCB, (by decide), (fun _ => (show 0 ≤ Int32.toInt (iv 78 18) ∧ Int32.toInt (iv 78 18) ≤ 600 from by first | omega | (have := hTK.2.1 0; omega))), hi_78_17, Or.inl (show 1 ≤ Int32.toInt (iv 78 32) from by omega)⟩
        · have : Int32.toInt 0 = 0 := rfl
          have c215 := congrArg Int32.toInt c215
          have hP := h8 (by have : Int32.toInt 0 = 0 := rfl; omega)
          have hPl := hP.1
          refine lv_aload_n (pc := 96) C0.1 C0.2.1 dX10_readAll_96 rfl (lv_at hl 2 rfl) ?_
          refine xget (pc := 97) C0 hH 78 33 clX10 ⟨Nat.le_of_ble_eq_true rfl, Nat.le_of_ble_eq_true rfl⟩ ⟨rfl, rfl⟩ (Nat.le_of_ble_eq_true rfl) fl_X10_73 (v := .ref (b + 98)) rfl dX10_readAll_97 ?_
          refine lv_aload_n (pc := 100) C0.1 C0.2.1 dX10_readAll_100 rfl (lv_at hl 2 rfl) ?_
          refine xcVI (pc := 101) 78 [] (m_topmost l D tA b iv Fv Gv q.toInt hT hP) C0 hH hS clX10 rfl ⟨⟨Nat.le_of_ble_eq_true rfl, Nat.le_of_ble_eq_true rfl⟩, rfl, rfl⟩ cw_X10_296 rfl ⟨Nat.le_of_ble_eq_true rfl, Nat.le_of_ble_eq_true rfl⟩ hl.1 rfl (Nat.le_of_ble_eq_true rfl) dX10_readAll_101 ⟨Nat.le_of_ble_eq_true rfl, Nat.le_of_ble_eq_true rfl⟩ (fun r229 ir229 Fr229 Gr229 _ locs hp hH hS => ?_)
          obtain ⟨hu, htpr229, htqr229, htzr229⟩ := hp
          cases hu
          have hBtr229 := TMm.bt hT (x := r229) (show 0 ≤ Int32.toInt r229 ∧ Int32.toInt r229 < Int32.toInt (iv 78 32) from htpr229)
          refine xiald (pc := 104) (N := 1202) C0 hH 98 ⟨Nat.le_of_ble_eq_true rfl, Nat.le_of_ble_eq_true rfl⟩ ⟨rfl, rfl⟩ (vI (by omega) (by omega)) dX10_readAll_104 ?_
          refine lv_iconst (pc := 105) (v := 4) C0.1 C0.2.1 dX10_readAll_105 (by decide) ?_
          refine lv_icmp_ne (pc := 106) (tgt := 113) C0.1 C0.2.1 dX10_readAll_106 (by decide) (fun c230 => ?_) (fun c230 => ?_)
          · have : Int32.toInt 4 = 4 := rfl
            have c230 : ¬ _ := fun q => c230 (Int32.toInt_inj.mp q)
            refine lv_iconst (pc := 113) (v := 0) C0.1 C0.2.1 dX10_readAll_113 (by decide) ?_
            refine lv_istore (pc := 114) (lv' := [(5, .int 0), (4, .int q), (3, .int hw), (0, .ref (b + 78)), (2, .int y)]) C0.1 C0.2.1 dX10_readAll_114 hl (by decide) rfl (fun ls hl => ?_)
            refine lv_aload_n (pc := 116) C0.1 C0.2.1 dX10_readAll_116 rfl (lv_at hl 3 rfl) ?_
            refine xget (pc := 117) C0 hH 78 25 clX10 ⟨Nat.le_of_ble_eq_true rfl, Nat.le_of_ble_eq_true rfl⟩ ⟨rfl, rfl⟩ (Nat.le_of_ble_eq_true rfl) fl_X10_57 (v := .ref (b + 93)) rfl dX10_readAll_117 ?_
            refine lv_iload (pc := 120) C0.1 C0.2.1 dX10_readAll_120 (lv_at hl 1 rfl) ?_
            refine lv_aload_n (pc := 122) C0.1 C0.2.1 dX10_readAll_122 rfl (lv_at hl 3 rfl) ?_
            refine xget (pc := 123) C0 hH 78 25 clX10 ⟨Nat.le_of_ble_eq_true rfl, Nat.le_of_ble_eq_true rfl⟩ ⟨rfl, rfl⟩ (Nat.le_of_ble_eq_true rfl) fl_X10_57 (v := .ref (b + 93)) rfl dX10_readAll_123 ?_
            refine lv_iload (pc := 126) C0.1 C0.2.1 dX10_readAll_126 (lv_at hl 1 rfl) ?_
            refine xzald (pc := 128) (N := 600) C0 hH 93 ⟨Nat.le_of_ble_eq_true rfl, Nat.le_of_ble_eq_true rfl⟩ ⟨rfl, rfl⟩ (vI (by omega) (by omega)) dX10_readAll_128 ?_
            refine lv_if_eq (pc := 129) (tgt := 157) C0.1 C0.2.1 dX10_readAll_129 (by decide) (fun c231 => ?_) (fun c231 => ?_)
            · have : Int32.toInt 0 = 0 := rfl
              have c231 := congrArg Int32.toInt c231
              refine lv_iconst (pc := 157) (v := 0) C0.1 C0.2.1 dX10_readAll_157 (by decide) ?_
              refine xzast (pc := 158) (N := 600) C0 (Nat.le_of_ble_eq_true rfl) hH hS 93 ⟨Nat.le_of_ble_eq_true rfl, Nat.le_of_ble_eq_true rfl⟩ ⟨rfl, rfl⟩ (by decide) (vI (by omega) (by omega)) dX10_readAll_158 (fun _ locs hH hS => ?_)
              have hH : Hd D tA b 78 52 zz iv (va_up Fv 93 (upd (Fv 93) (Int32.toNatClampNeg q) 0)) Gv _ := hH
              have hq0 : 0 < q.toInt := by
                rcases Int.lt_or_le 0 q.toInt with w | w
                · exact w
                · exfalso
                  have q0 : q.toInt = 0 := (by omega)
                  have qc := clI (x := q) (by omega)
                  have qn : Int32.toNatClampNeg q = 0 := (by omega)
                  first
                  | (have w1 : Int32.toInt (Fv 93 (Int32.toNatClampNeg q)) = Int32.toInt 0 := (by assumption); rw [qn, h13 q0 (by omega)] at w1; exact absurd w1 (by decide))
                  | (have w1 : Int32.toInt (Fv 98 (Int32.toNatClampNeg r229)) = Int32.toInt 4 := (by assumption); have w2 := htzr229 (by omega); rw [w2, show Int32.toNatClampNeg 0 = 0 from rfl, hP.2.2.2.1] at w1; exact absurd w1 (by decide))
                  | (have : Int32.toInt 0 = 0 := rfl; omega)
              have hd : 0 < q.toInt ∨ (va_up Fv 93 (upd (Fv 93) (Int32.toNatClampNeg q) 0)) 93 (Int32.toNatClampNeg q) = 1 := Or.inl hq0
              have hhw := h11
              have hTK : TKm iv (va_up Fv 93 (upd (Fv 93) (Int32.toNatClampNeg q) 0)) := hTK
              refine lv_aload_n (pc := 159) C0.1 C0.2.1 dX10_readAll_159 rfl (lv_at hl 3 rfl) ?_
              refine lv_iload (pc := 160) C0.1 C0.2.1 dX10_readAll_160 (lv_at hl 1 rfl) ?_
              refine lv_iload_n (pc := 162) C0.1 C0.2.1 dX10_readAll_162 rfl (lv_at hl 2 rfl) ?_
              refine xcVV (pc := 163) 78 [.int q, .int hw] (m_take l D tA b iv (va_up Fv 93 (upd (Fv 93) (Int32.toNatClampNeg q) 0)) Gv q hw hT hP hTK hPI hBR (show 0 < Int32.toInt q ∨ Int32.toInt (iv 78 51) = 1 from by omega) (show 0 ≤ Int32.toInt q ∧ Int32.toInt q < Int32.toInt (iv 78 19) from by omega) hd hhw (show Int32.toInt (iv 78 32) + 2 ≤ 1202 from by omega) (show Int32.toInt (iv 78 40) + 2 ≤ 1202 from by omega) (show Int32.toInt (iv 78 47) + 3 ≤ 1802 from by omega) (show Int32.toInt (iv 78 30) = 0 from by omega)) C0 hH hS clX10 rfl ⟨⟨Nat.le_of_ble_eq_true rfl, Nat.le_of_ble_eq_true rfl⟩, rfl, rfl⟩ cw_X10_340 rfl ⟨Nat.le_of_ble_eq_true rfl, Nat.le_of_ble_eq_true rfl⟩ hl.1 rfl (Nat.le_of_ble_eq_true rfl) dX10_readAll_163 ⟨Nat.le_of_ble_eq_true rfl, Nat.le_of_ble_eq_true rfl⟩ (fun ir232 Fr232 Gr232 _ locs hp hH hS => ?_)
              obtain ⟨honr232, hT, hPI, hP1, hcr232, hblr232⟩ := hp
              have hT : TMm ir232 Fr232 := hT
              have hPI : PLI ir232 := hPI
              have hP1 : (ir232 78 30).toInt = 0 → PMm 1 ir232 Fr232 := hP1
              have hcr232 : (ir232 78 32).toInt ≤ Int32.toInt (iv 78 32) + 2 ∧ (ir232 78 40).toInt ≤ Int32.toInt (iv 78 40) + 2 ∧ (ir232 78 47).toInt ≤ Int32.toInt (iv 78 47) + 3 := hcr232
              have hblr232 : Int32.toInt (iv 78 32) ≤ (ir232 78 32).toInt := hblr232
              have hTL := TMm.lin hT
              have hTK : TKm ir232 Fr232 := TKm.ro (i := iv) (F := (va_up Fv 93 (upd (Fv 93) (Int32.toNatClampNeg q) 0))) hTK honr232 (by decide)
              have hBR : BR ir232 := BR.ro (i := iv) (F := (va_up Fv 93 (upd (Fv 93) (Int32.toNatClampNeg q) 0))) hBR honr232 (by decide)
              have hCB : CB Fr232 := CB.ro (F := (va_up Fv 93 (upd (Fv 93) (Int32.toNatClampNeg q) 0))) hCB honr232 (by decide)
              have hi_78_17 : ir232 78 17 = nI 86 := (honr232.1 78 17 (Or.inr (by decide))).trans hi_78_17
              have ek_19r232 : Int32.toInt (ir232 78 19) = Int32.toInt (iv 78 19) := congrArg Int32.toInt (honr232.1 78 19 (Or.inr (by decide)))
              have ek_18r232 : Int32.toInt (ir232 78 18) = Int32.toInt (iv 78 18) := congrArg Int32.toInt (honr232.1 78 18 (Or.inr (by decide)))
              have hTKl := hTK.1
              refine lv_aload_n (pc := 166) C0.1 C0.2.1 dX10_readAll_166 rfl (lv_at hl 3 rfl) ?_
              refine lv_aload_n (pc := 167) C0.1 C0.2.1 dX10_readAll_167 rfl (lv_at hl 3 rfl) ?_
              refine xget (pc := 168) C0 hH 78 25 clX10 ⟨Nat.le_of_ble_eq_true rfl, Nat.le_of_ble_eq_true rfl⟩ ⟨rfl, rfl⟩ (Nat.le_of_ble_eq_true rfl) fl_X10_57 (v := .ref (b + 93)) rfl dX10_readAll_168 ?_
              refine lv_iload (pc := 171) C0.1 C0.2.1 dX10_readAll_171 (lv_at hl 1 rfl) ?_
              refine xzald (pc := 173) (N := 600) C0 hH 93 ⟨Nat.le_of_ble_eq_true rfl, Nat.le_of_ble_eq_true rfl⟩ ⟨rfl, rfl⟩ (vI (by omega) (by omega)) dX10_readAll_173 ?_
              refine lv_if_eq (pc := 174) (tgt := 187) C0.1 C0.2.1 dX10_readAll_174 (by decide) (fun c233 => ?_) (fun c233 => ?_)
              · have : Int32.toInt 0 = 0 := rfl
                have c233 := congrArg Int32.toInt c233
                refine lv_aload_n (pc := 187) C0.1 C0.2.1 dX10_readAll_187 rfl (lv_at hl 3 rfl) ?_
                refine xget (pc := 188) C0 hH 78 52 clX10 ⟨Nat.le_of_ble_eq_true rfl, Nat.le_of_ble_eq_true rfl⟩ ⟨rfl, rfl⟩ (Nat.le_of_ble_eq_true rfl) fl_X10_313 (v := .int (ir232 78 52)) rfl dX10_readAll_188 ?_
                refine lv_topi (fun x234 ex234 => ?_)
                refine xputI (pc := 191) C0 (Nat.le_of_ble_eq_true rfl) hH hS 78 52 clX10 ⟨Nat.le_of_ble_eq_true rfl, Nat.le_of_ble_eq_true rfl⟩ ⟨rfl, rfl⟩ ⟨Nat.le_of_ble_eq_true rfl, rfl, rfl⟩ fl_X10_313 (x := x234) ⟨rfl, rfl⟩ dX10_readAll_191 (fun _ locs hH hS _ => ?_)
                have hH : Hd D tA b 78 52 zz (up2 ir232 78 52 x234) Fr232 Gr232 _ := hH
                refine lv_iload (pc := 194) C0.1 C0.2.1 dX10_readAll_194 (lv_at hl 0 rfl) ?_
                refine lv_if_eq (pc := 196) (tgt := 203) C0.1 C0.2.1 dX10_readAll_196 (by decide) (fun _ => ?_) (fun c => absurd (by decide) c)
                refine lv_aload_n (pc := 203) C0.1 C0.2.1 dX10_readAll_203 rfl (lv_at hl 3 rfl) ?_
                refine lv_iload (pc := 204) C0.1 C0.2.1 dX10_readAll_204 (lv_at hl 1 rfl) ?_
                refine xcVI (pc := 206) 78 [.int q] (m_openerOf l D tA b (up2 ir232 78 52 x234) Fr232 Gr232 q hBR (by omega)) C0 hH hS clX10 rfl ⟨⟨Nat.le_of_ble_eq_true rfl, Nat.le_of_ble_eq_true rfl⟩, rfl, rfl⟩ cw_X10_343 rfl ⟨Nat.le_of_ble_eq_true rfl, Nat.le_of_ble_eq_true rfl⟩ hl.1 rfl (Nat.le_of_ble_eq_true rfl) dX10_readAll_206 ⟨Nat.le_of_ble_eq_true rfl, Nat.le_of_ble_eq_true rfl⟩ (fun r235 ir235 Fr235 Gr235 _ locs hp hH hS => ?_)
                obtain ⟨hu, hpr235⟩ := hp
                cases hu
                refine lv_istore_n (pc := 209) (lv' := [(3, .int r235), (5, .int 0), (4, .int q), (0, .ref (b + 78)), (2, .int y)]) C0.1 C0.2.1 dX10_readAll_209 rfl hl (by decide) rfl (fun ls hl => ?_)
                obtain ⟨x236, ex236⟩ : ∃ y_ : Int32, y_ = q + 1 := ⟨_, rfl⟩
                have : Int32.toInt 1 = 1 := rfl
                have hx236 : Int32.toInt x236 = Int32.toInt q + Int32.toInt 1 := by rw [ex236]; exact fb_addI (by omega) (by omega)
                refine lv_iinc (pc := 210) (v := x236) (lv' := [(4, .int x236), (3, .int r235), (5, .int 0), (0, .ref (b + 78)), (2, .int y)]) C0.1 C0.2.1 dX10_readAll_210 hl (k := 2) rfl (by rw [ex236]; rfl) (by decide) rfl (fun ls hl => ?_)
                refine lv_goto (pc := 213) (tgt := 80) C0.1 C0.2.1 dX10_readAll_213 (by decide) ?_
                exact ih80 x236 r235 (up2 ir232 78 52 x234) Fr232 Gr232 _ _ _ (RO.i (RO.tr (RO.f h1 (by decide)) honr232 (by decide) (by decide)) (by decide)) hT hTK hPI hCB (show Int32.toInt (ir232 78 18) = _ from by omega) hi_78_17 (fun w => PMm.one (hP1 w) (by decide)) (show 0 ≤ Int32.toInt x236 ∧ Int32.toInt x236 ≤ Int32.toInt (ir232 78 19) from by omega) (show Int32.toInt (ir232 78 19) - Int32.toInt x236 ≤ _ from by omega) (fun _ => by omega) (show (1 ≤ Int32.toInt (ir232 78 32) ∧ Int32.toInt (ir232 78 32) ≤ 1 + 2 * Int32.toInt x236) ∧ Int32.toInt (ir232 78 40) ≤ 2 * Int32.toInt x236 ∧ Int32.toInt (ir232 78 47) ≤ 3 * Int32.toInt x236 + 1 from by omega) (fun w => absurd w (by omega)) (Or.inl (by omega)) hH hS (lv_sub hl [0, 1, 3, 4] rfl)
              · have : Int32.toInt 0 = 0 := rfl
                have c233 : ¬ _ := fun q => c233 (Int32.toInt_inj.mp q)
                refine lv_aload_n (pc := 177) C0.1 C0.2.1 dX10_readAll_177 rfl (lv_at hl 3 rfl) ?_
                refine xget (pc := 178) C0 hH 78 24 clX10 ⟨Nat.le_of_ble_eq_true rfl, Nat.le_of_ble_eq_true rfl⟩ ⟨rfl, rfl⟩ (Nat.le_of_ble_eq_true rfl) fl_X10_54 (v := .ref (b + 92)) rfl dX10_readAll_178 ?_
                refine lv_iload (pc := 181) C0.1 C0.2.1 dX10_readAll_181 (lv_at hl 1 rfl) ?_
                refine xiald (pc := 183) (N := 600) C0 hH 92 ⟨Nat.le_of_ble_eq_true rfl, Nat.le_of_ble_eq_true rfl⟩ ⟨rfl, rfl⟩ (vI (by omega) (by omega)) dX10_readAll_183 ?_
                refine lv_goto (pc := 184) (tgt := 191) C0.1 C0.2.1 dX10_readAll_184 (by decide) ?_
                refine lv_topi (fun x237 ex237 => ?_)
                refine xputI (pc := 191) C0 (Nat.le_of_ble_eq_true rfl) hH hS 78 52 clX10 ⟨Nat.le_of_ble_eq_true rfl, Nat.le_of_ble_eq_true rfl⟩ ⟨rfl, rfl⟩ ⟨Nat.le_of_ble_eq_true rfl, rfl, rfl⟩ fl_X10_313 (x := x237) ⟨rfl, rfl⟩ dX10_readAll_191 (fun _ locs hH hS _ => ?_)
                have hH : Hd D tA b 78 52 zz (up2 ir232 78 52 x237) Fr232 Gr232 _ := hH
                refine lv_iload (pc := 194) C0.1 C0.2.1 dX10_readAll_194 (lv_at hl 0 rfl) ?_
                refine lv_if_eq (pc := 196) (tgt := 203) C0.1 C0.2.1 dX10_readAll_196 (by decide) (fun _ => ?_) (fun c => absurd (by decide) c)
                refine lv_aload_n (pc := 203) C0.1 C0.2.1 dX10_readAll_203 rfl (lv_at hl 3 rfl) ?_
                refine lv_iload (pc := 204) C0.1 C0.2.1 dX10_readAll_204 (lv_at hl 1 rfl) ?_
                refine xcVI (pc := 206) 78 [.int q] (m_openerOf l D tA b (up2 ir232 78 52 x237) Fr232 Gr232 q hBR (by omega)) C0 hH hS clX10 rfl ⟨⟨Nat.le_of_ble_eq_true rfl, Nat.le_of_ble_eq_true rfl⟩, rfl, rfl⟩ cw_X10_343 rfl ⟨Nat.le_of_ble_eq_true rfl, Nat.le_of_ble_eq_true rfl⟩ hl.1 rfl (Nat.le_of_ble_eq_true rfl) dX10_readAll_206 ⟨Nat.le_of_ble_eq_true rfl, Nat.le_of_ble_eq_true rfl⟩ (fun r238 ir238 Fr238 Gr238 _ locs hp hH hS => ?_)
                obtain ⟨hu, hpr238⟩ := hp
                cases hu
                refine lv_istore_n (pc := 209) (lv' := [(3, .int r238), (5, .int 0), (4, .int q), (0, .ref (b + 78)), (2, .int y)]) C0.1 C0.2.1 dX10_readAll_209 rfl hl (by decide) rfl (fun ls hl => ?_)
                obtain ⟨x239, ex239⟩ : ∃ y_ : Int32, y_ = q + 1 := ⟨_, rfl⟩
                have : Int32.toInt 1 = 1 := rfl
                have hx239 : Int32.toInt x239 = Int32.toInt q + Int32.toInt 1 := by rw [ex239]; exact fb_addI (by omega) (by omega)
                refine lv_iinc (pc := 210) (v := x239) (lv' := [(4, .int x239), (3, .int r238), (5, .int 0), (0, .ref (b + 78)), (2, .int y)]) C0.1 C0.2.1 dX10_readAll_210 hl (k := 2) rfl (by rw [ex239]; rfl) (by decide) rfl (fun ls hl => ?_)
                refine lv_goto (pc := 213) (tgt := 80) C0.1 C0.2.1 dX10_readAll_213 (by decide) ?_
                exact ih80 x239 r238 (up2 ir232 78 52 x237) Fr232 Gr232 _ _ _ (RO.i (RO.tr (RO.f h1 (by decide)) honr232 (by decide) (by decide)) (by decide)) hT hTK hPI hCB (show Int32.toInt (ir232 78 18) = _ from by omega) hi_78_17 (fun w => PMm.one (hP1 w) (by decide)) (show 0 ≤ Int32.toInt x239 ∧ Int32.toInt x239 ≤ Int32.toInt (ir232 78 19) from by omega) (show Int32.toInt (ir232 78 19) - Int32.toInt x239 ≤ _ from by omega) (fun _ => by omega) (show (1 ≤ Int32.toInt (ir232 78 32) ∧ Int32.toInt (ir232 78 32) ≤ 1 + 2 * Int32.toInt x239) ∧ Int32.toInt (ir232 78 40) ≤ 2 * Int32.toInt x239 ∧ Int32.toInt (ir232 78 47) ≤ 3 * Int32.toInt x239 + 1 from by omega) (fun w => absurd w (by omega)) (Or.inl (by omega)) hH hS (lv_sub hl [0, 1, 3, 4] rfl)
            · have : Int32.toInt 0 = 0 := rfl
              have c231 : ¬ _ := fun q => c231 (Int32.toInt_inj.mp q)
              refine lv_iload (pc := 132) C0.1 C0.2.1 dX10_readAll_132 (lv_at hl 0 rfl) ?_
              refine lv_if_ne (pc := 134) (tgt := 157) C0.1 C0.2.1 dX10_readAll_134 (by decide) (fun c => absurd (by decide) c) (fun _ => ?_)
              refine lv_iload (pc := 137) C0.1 C0.2.1 dX10_readAll_137 (lv_at hl 1 rfl) ?_
              refine lv_if_eq (pc := 139) (tgt := 153) C0.1 C0.2.1 dX10_readAll_139 (by decide) (fun c240 => ?_) (fun c240 => ?_)
              · have : Int32.toInt 0 = 0 := rfl
                have c240 := congrArg Int32.toInt c240
                refine lv_iconst (pc := 153) (v := 1) C0.1 C0.2.1 dX10_readAll_153 (by decide) ?_
                refine lv_goto (pc := 154) (tgt := 158) C0.1 C0.2.1 dX10_readAll_154 (by decide) ?_
                refine xzast (pc := 158) (N := 600) C0 (Nat.le_of_ble_eq_true rfl) hH hS 93 ⟨Nat.le_of_ble_eq_true rfl, Nat.le_of_ble_eq_true rfl⟩ ⟨rfl, rfl⟩ (by decide) (vI (by omega) (by omega)) dX10_readAll_158 (fun _ locs hH hS => ?_)
                have hH : Hd D tA b 78 52 zz iv (va_up Fv 93 (upd (Fv 93) (Int32.toNatClampNeg q) 1)) Gv _ := hH
                have hd : 0 < q.toInt ∨ (va_up Fv 93 (upd (Fv 93) (Int32.toNatClampNeg q) 1)) 93 (Int32.toNatClampNeg q) = 1 := Or.inr (show upd (Fv 93) (Int32.toNatClampNeg q) 1 (Int32.toNatClampNeg q) = 1 from upd_s)
                have hhw := h11
                have hTK : TKm iv (va_up Fv 93 (upd (Fv 93) (Int32.toNatClampNeg q) 1)) := hTK
                refine lv_aload_n (pc := 159) C0.1 C0.2.1 dX10_readAll_159 rfl (lv_at hl 3 rfl) ?_
                refine lv_iload (pc := 160) C0.1 C0.2.1 dX10_readAll_160 (lv_at hl 1 rfl) ?_
                refine lv_iload_n (pc := 162) C0.1 C0.2.1 dX10_readAll_162 rfl (lv_at hl 2 rfl) ?_
                refine xcVV (pc := 163) 78 [.int q, .int hw] (m_take l D tA b iv (va_up Fv 93 (upd (Fv 93) (Int32.toNatClampNeg q) 1)) Gv q hw hT hP hTK hPI hBR (show 0 < Int32.toInt q ∨ Int32.toInt (iv 78 51) = 1 from by omega) (show 0 ≤ Int32.toInt q ∧ Int32.toInt q < Int32.toInt (iv 78 19) from by omega) hd hhw (show Int32.toInt (iv 78 32) + 2 ≤ 1202 from by omega) (show Int32.toInt (iv 78 40) + 2 ≤ 1202 from by omega) (show Int32.toInt (iv 78 47) + 3 ≤ 1802 from by omega) (show Int32.toInt (iv 78 30) = 0 from by omega)) C0 hH hS clX10 rfl ⟨⟨Nat.le_of_ble_eq_true rfl, Nat.le_of_ble_eq_true rfl⟩, rfl, rfl⟩ cw_X10_340 rfl ⟨Nat.le_of_ble_eq_true rfl, Nat.le_of_ble_eq_true rfl⟩ hl.1 rfl (Nat.le_of_ble_eq_true rfl) dX10_readAll_163 ⟨Nat.le_of_ble_eq_true rfl, Nat.le_of_ble_eq_true rfl⟩ (fun ir241 Fr241 Gr241 _ locs hp hH hS => ?_)
                obtain ⟨honr241, hT, hPI, hP1, hcr241, hblr241⟩ := hp
                have hT : TMm ir241 Fr241 := hT
                have hPI : PLI ir241 := hPI
                have hP1 : (ir241 78 30).toInt = 0 → PMm 1 ir241 Fr241 := hP1
                have hcr241 : (ir241 78 32).toInt ≤ Int32.toInt (iv 78 32) + 2 ∧ (ir241 78 40).toInt ≤ Int32.toInt (iv 78 40) + 2 ∧ (ir241 78 47).toInt ≤ Int32.toInt (iv 78 47) + 3 := hcr241
                have hblr241 : Int32.toInt (iv 78 32) ≤ (ir241 78 32).toInt := hblr241
                have hTL := TMm.lin hT
                have hTK : TKm ir241 Fr241 := TKm.ro (i := iv) (F := (va_up Fv 93 (upd (Fv 93) (Int32.toNatClampNeg q) 1))) hTK honr241 (by decide)
                have hBR : BR ir241 := BR.ro (i := iv) (F := (va_up Fv 93 (upd (Fv 93) (Int32.toNatClampNeg q) 1))) hBR honr241 (by decide)
                have hCB : CB Fr241 := CB.ro (F := (va_up Fv 93 (upd (Fv 93) (Int32.toNatClampNeg q) 1))) hCB honr241 (by decide)
                have hi_78_17 : ir241 78 17 = nI 86 := (honr241.1 78 17 (Or.inr (by decide))).trans hi_78_17
                have ek_19r241 : Int32.toInt (ir241 78 19) = Int32.toInt (iv 78 19) := congrArg Int32.toInt (honr241.1 78 19 (Or.inr (by decide)))
                have ek_18r241 : Int32.toInt (ir241 78 18) = Int32.toInt (iv 78 18) := congrArg Int32.toInt (honr241.1 78 18 (Or.inr (by decide)))
                have hTKl := hTK.1
                refine lv_aload_n (pc := 166) C0.1 C0.2.1 dX10_readAll_166 rfl (lv_at hl 3 rfl) ?_
                refine lv_aload_n (pc := 167) C0.1 C0.2.1 dX10_readAll_167 rfl (lv_at hl 3 rfl) ?_
                refine xget (pc := 168) C0 hH 78 25 clX10 ⟨Nat.le_of_ble_eq_true rfl, Nat.le_of_ble_eq_true rfl⟩ ⟨rfl, rfl⟩ (Nat.le_of_ble_eq_true rfl) fl_X10_57 (v := .ref (b + 93)) rfl dX10_readAll_168 ?_
                refine lv_iload (pc := 171) C0.1 C0.2.1 dX10_readAll_171 (lv_at hl 1 rfl) ?_
                refine xzald (pc := 173) (N := 600) C0 hH 93 ⟨Nat.le_of_ble_eq_true rfl, Nat.le_of_ble_eq_true rfl⟩ ⟨rfl, rfl⟩ (vI (by omega) (by omega)) dX10_readAll_173 ?_
                refine lv_if_eq (pc := 174) (tgt := 187) C0.1 C0.2.1 dX10_readAll_174 (by decide) (fun c242 => ?_) (fun c242 => ?_)
                · have : Int32.toInt 0 = 0 := rfl
                  have c242 := congrArg Int32.toInt c242
                  refine lv_aload_n (pc := 187) C0.1 C0.2.1 dX10_readAll_187 rfl (lv_at hl 3 rfl) ?_
                  refine xget (pc := 188) C0 hH 78 52 clX10 ⟨Nat.le_of_ble_eq_true rfl, Nat.le_of_ble_eq_true rfl⟩ ⟨rfl, rfl⟩ (Nat.le_of_ble_eq_true rfl) fl_X10_313 (v := .int (ir241 78 52)) rfl dX10_readAll_188 ?_
                  refine lv_topi (fun x243 ex243 => ?_)
                  refine xputI (pc := 191) C0 (Nat.le_of_ble_eq_true rfl) hH hS 78 52 clX10 ⟨Nat.le_of_ble_eq_true rfl, Nat.le_of_ble_eq_true rfl⟩ ⟨rfl, rfl⟩ ⟨Nat.le_of_ble_eq_true rfl, rfl, rfl⟩ fl_X10_313 (x := x243) ⟨rfl, rfl⟩ dX10_readAll_191 (fun _ locs hH hS _ => ?_)
                  have hH : Hd D tA b 78 52 zz (up2 ir241 78 52 x243) Fr241 Gr241 _ := hH
                  refine lv_iload (pc := 194) C0.1 C0.2.1 dX10_readAll_194 (lv_at hl 0 rfl) ?_
                  refine lv_if_eq (pc := 196) (tgt := 203) C0.1 C0.2.1 dX10_readAll_196 (by decide) (fun _ => ?_) (fun c => absurd (by decide) c)
                  refine lv_aload_n (pc := 203) C0.1 C0.2.1 dX10_readAll_203 rfl (lv_at hl 3 rfl) ?_
                  refine lv_iload (pc := 204) C0.1 C0.2.1 dX10_readAll_204 (lv_at hl 1 rfl) ?_
                  refine xcVI (pc := 206) 78 [.int q] (m_openerOf l D tA b (up2 ir241 78 52 x243) Fr241 Gr241 q hBR (by omega)) C0 hH hS clX10 rfl ⟨⟨Nat.le_of_ble_eq_true rfl, Nat.le_of_ble_eq_true rfl⟩, rfl, rfl⟩ cw_X10_343 rfl ⟨Nat.le_of_ble_eq_true rfl, Nat.le_of_ble_eq_true rfl⟩ hl.1 rfl (Nat.le_of_ble_eq_true rfl) dX10_readAll_206 ⟨Nat.le_of_ble_eq_true rfl, Nat.le_of_ble_eq_true rfl⟩ (fun r244 ir244 Fr244 Gr244 _ locs hp hH hS => ?_)
                  obtain ⟨hu, hpr244⟩ := hp
                  cases hu
                  refine lv_istore_n (pc := 209) (lv' := [(3, .int r244), (5, .int 0), (4, .int q), (0, .ref (b + 78)), (2, .int y)]) C0.1 C0.2.1 dX10_readAll_209 rfl hl (by decide) rfl (fun ls hl => ?_)
                  obtain ⟨x245, ex245⟩ : ∃ y_ : Int32, y_ = q + 1 := ⟨_, rfl⟩
                  have : Int32.toInt 1 = 1 := rfl
                  have hx245 : Int32.toInt x245 = Int32.toInt q + Int32.toInt 1 := by rw [ex245]; exact fb_addI (by omega) (by omega)
                  refine lv_iinc (pc := 210) (v := x245) (lv' := [(4, .int x245), (3, .int r244), (5, .int 0), (0, .ref (b + 78)), (2, .int y)]) C0.1 C0.2.1 dX10_readAll_210 hl (k := 2) rfl (by rw [ex245]; rfl) (by decide) rfl (fun ls hl => ?_)
                  refine lv_goto (pc := 213) (tgt := 80) C0.1 C0.2.1 dX10_readAll_213 (by decide) ?_
                  exact ih80 x245 r244 (up2 ir241 78 52 x243) Fr241 Gr241 _ _ _ (RO.i (RO.tr (RO.f h1 (by decide)) honr241 (by decide) (by decide)) (by decide)) hT hTK hPI hCB (show Int32.toInt (ir241 78 18) = _ from by omega) hi_78_17 (fun w => PMm.one (hP1 w) (by decide)) (show 0 ≤ Int32.toInt x245 ∧ Int32.toInt x245 ≤ Int32.toInt (ir241 78 19) from by omega) (show Int32.toInt (ir241 78 19) - Int32.toInt x245 ≤ _ from by omega) (fun _ => by omega) (show (1 ≤ Int32.toInt (ir241 78 32) ∧ Int32.toInt (ir241 78 32) ≤ 1 + 2 * Int32.toInt x245) ∧ Int32.toInt (ir241 78 40) ≤ 2 * Int32.toInt x245 ∧ Int32.toInt (ir241 78 47) ≤ 3 * Int32.toInt x245 + 1 from by omega) (fun w => absurd w (by omega)) (Or.inl (by omega)) hH hS (lv_sub hl [0, 1, 3, 4] rfl)
                · have : Int32.toInt 0 = 0 := rfl
                  have c242 : ¬ _ := fun q => c242 (Int32.toInt_inj.mp q)
                  refine lv_aload_n (pc := 177) C0.1 C0.2.1 dX10_readAll_177 rfl (lv_at hl 3 rfl) ?_
                  refine xget (pc := 178) C0 hH 78 24 clX10 ⟨Nat.le_of_ble_eq_true rfl, Nat.le_of_ble_eq_true rfl⟩ ⟨rfl, rfl⟩ (Nat.le_of_ble_eq_true rfl) fl_X10_54 (v := .ref (b + 92)) rfl dX10_readAll_178 ?_
                  refine lv_iload (pc := 181) C0.1 C0.2.1 dX10_readAll_181 (lv_at hl 1 rfl) ?_
                  refine xiald (pc := 183) (N := 600) C0 hH 92 ⟨Nat.le_of_ble_eq_true rfl, Nat.le_of_ble_eq_true rfl⟩ ⟨rfl, rfl⟩ (vI (by omega) (by omega)) dX10_readAll_183 ?_
                  refine lv_goto (pc := 184) (tgt := 191) C0.1 C0.2.1 dX10_readAll_184 (by decide) ?_
                  refine lv_topi (fun x246 ex246 => ?_)
                  refine xputI (pc := 191) C0 (Nat.le_of_ble_eq_true rfl) hH hS 78 52 clX10 ⟨Nat.le_of_ble_eq_true rfl, Nat.le_of_ble_eq_true rfl⟩ ⟨rfl, rfl⟩ ⟨Nat.le_of_ble_eq_true rfl, rfl, rfl⟩ fl_X10_313 (x := x246) ⟨rfl, rfl⟩ dX10_readAll_191 (fun _ locs hH hS _ => ?_)
                  have hH : Hd D tA b 78 52 zz (up2 ir241 78 52 x246) Fr241 Gr241 _ := hH
                  refine lv_iload (pc := 194) C0.1 C0.2.1 dX10_readAll_194 (lv_at hl 0 rfl) ?_
                  refine lv_if_eq (pc := 196) (tgt := 203) C0.1 C0.2.1 dX10_readAll_196 (by decide) (fun _ => ?_) (fun c => absurd (by decide) c)
                  refine lv_aload_n (pc := 203) C0.1 C0.2.1 dX10_readAll_203 rfl (lv_at hl 3 rfl) ?_
                  refine lv_iload (pc := 204) C0.1 C0.2.1 dX10_readAll_204 (lv_at hl 1 rfl) ?_
                  refine xcVI (pc := 206) 78 [.int q] (m_openerOf l D tA b (up2 ir241 78 52 x246) Fr241 Gr241 q hBR (by omega)) C0 hH hS clX10 rfl ⟨⟨Nat.le_of_ble_eq_true rfl, Nat.le_of_ble_eq_true rfl⟩, rfl, rfl⟩ cw_X10_343 rfl ⟨Nat.le_of_ble_eq_true rfl, Nat.le_of_ble_eq_true rfl⟩ hl.1 rfl (Nat.le_of_ble_eq_true rfl) dX10_readAll_206 ⟨Nat.le_of_ble_eq_true rfl, Nat.le_of_ble_eq_true rfl⟩ (fun r247 ir247 Fr247 Gr247 _ locs hp hH hS => ?_)
                  obtain ⟨hu, hpr247⟩ := hp
                  cases hu
                  refine lv_istore_n (pc := 209) (lv' := [(3, .int r247), (5, .int 0), (4, .int q), (0, .ref (b + 78)), (2, .int y)]) C0.1 C0.2.1 dX10_readAll_209 rfl hl (by decide) rfl (fun ls hl => ?_)
                  obtain ⟨x248, ex248⟩ : ∃ y_ : Int32, y_ = q + 1 := ⟨_, rfl⟩
                  have : Int32.toInt 1 = 1 := rfl
                  have hx248 : Int32.toInt x248 = Int32.toInt q + Int32.toInt 1 := by rw [ex248]; exact fb_addI (by omega) (by omega)
                  refine lv_iinc (pc := 210) (v := x248) (lv' := [(4, .int x248), (3, .int r247), (5, .int 0), (0, .ref (b + 78)), (2, .int y)]) C0.1 C0.2.1 dX10_readAll_210 hl (k := 2) rfl (by rw [ex248]; rfl) (by decide) rfl (fun ls hl => ?_)
                  refine lv_goto (pc := 213) (tgt := 80) C0.1 C0.2.1 dX10_readAll_213 (by decide) ?_
                  exact ih80 x248 r247 (up2 ir241 78 52 x246) Fr241 Gr241 _ _ _ (RO.i (RO.tr (RO.f h1 (by decide)) honr241 (by decide) (by decide)) (by decide)) hT hTK hPI hCB (show Int32.toInt (ir241 78 18) = _ from by omega) hi_78_17 (fun w => PMm.one (hP1 w) (by decide)) (show 0 ≤ Int32.toInt x248 ∧ Int32.toInt x248 ≤ Int32.toInt (ir241 78 19) from by omega) (show Int32.toInt (ir241 78 19) - Int32.toInt x248 ≤ _ from by omega) (fun _ => by omega) (show (1 ≤ Int32.toInt (ir241 78 32) ∧ Int32.toInt (ir241 78 32) ≤ 1 + 2 * Int32.toInt x248) ∧ Int32.toInt (ir241 78 40) ≤ 2 * Int32.toInt x248 ∧ Int32.toInt (ir241 78 47) ≤ 3 * Int32.toInt x248 + 1 from by omega) (fun w => absurd w (by omega)) (Or.inl (by omega)) hH hS (lv_sub hl [0, 1, 3, 4] rfl)
              · have : Int32.toInt 0 = 0 := rfl
                have c240 : ¬ _ := fun q => c240 (Int32.toInt_inj.mp q)
                refine lv_aload_n (pc := 142) C0.1 C0.2.1 dX10_readAll_142 rfl (lv_at hl 3 rfl) ?_
                refine lv_iload (pc := 143) C0.1 C0.2.1 dX10_readAll_143 (lv_at hl 1 rfl) ?_
                refine lv_iconst (pc := 145) (v := 1) C0.1 C0.2.1 dX10_readAll_145 (by decide) ?_
                have : Int32.toInt 1 = 1 := rfl
                refine lv_isub (pc := 146) C0.1 C0.2.1 dX10_readAll_146 ?_
                refine lv_topi (fun x249 ex249 => ?_)
                have hx249 : Int32.toInt x249 = Int32.toInt q - Int32.toInt 1 := by rw [ex249]; exact fb_subI (by omega) (by omega)
                refine xcVI (pc := 147) 78 [.int x249] (m_isGoer l D tA b iv Fv Gv x249 hBR (by omega)) C0 hH hS clX10 rfl ⟨⟨Nat.le_of_ble_eq_true rfl, Nat.le_of_ble_eq_true rfl⟩, rfl, rfl⟩ cw_X10_337 rfl ⟨Nat.le_of_ble_eq_true rfl, Nat.le_of_ble_eq_true rfl⟩ hl.1 rfl (Nat.le_of_ble_eq_true rfl) dX10_readAll_147 ⟨Nat.le_of_ble_eq_true rfl, Nat.le_of_ble_eq_true rfl⟩ (fun r250 ir250 Fr250 Gr250 _ locs hp hH hS => ?_)
                obtain ⟨hu, hpr250⟩ := hp
                cases hu
                refine lv_if_ne (pc := 150) (tgt := 157) C0.1 C0.2.1 dX10_readAll_150 (by decide) (fun c251 => ?_) (fun c251 => ?_)
                · have : Int32.toInt 0 = 0 := rfl
                  have c251 : ¬ _ := fun q => c251 (Int32.toInt_inj.mp q)
                  refine lv_iconst (pc := 157) (v := 0) C0.1 C0.2.1 dX10_readAll_157 (by decide) ?_
                  refine xzast (pc := 158) (N := 600) C0 (Nat.le_of_ble_eq_true rfl) hH hS 93 ⟨Nat.le_of_ble_eq_true rfl, Nat.le_of_ble_eq_true rfl⟩ ⟨rfl, rfl⟩ (by decide) (vI (by omega) (by omega)) dX10_readAll_158 (fun _ locs hH hS => ?_)
                  have hH : Hd D tA b 78 52 zz iv (va_up Fv 93 (upd (Fv 93) (Int32.toNatClampNeg q) 0)) Gv _ := hH
                  have hq0 : 0 < q.toInt := by
                    rcases Int.lt_or_le 0 q.toInt with w | w
                    · exact w
                    · exfalso
                      have q0 : q.toInt = 0 := (by omega)
                      have qc := clI (x := q) (by omega)
                      have qn : Int32.toNatClampNeg q = 0 := (by omega)
                      first
                      | (have w1 : Int32.toInt (Fv 93 (Int32.toNatClampNeg q)) = Int32.toInt 0 := (by assumption); rw [qn, h13 q0 (by omega)] at w1; exact absurd w1 (by decide))
                      | (have w1 : Int32.toInt (Fv 98 (Int32.toNatClampNeg r229)) = Int32.toInt 4 := (by assumption); have w2 := htzr229 (by omega); rw [w2, show Int32.toNatClampNeg 0 = 0 from rfl, hP.2.2.2.1] at w1; exact absurd w1 (by decide))
                      | (have : Int32.toInt 0 = 0 := rfl; omega)
                  have hd : 0 < q.toInt ∨ (va_up Fv 93 (upd (Fv 93) (Int32.toNatClampNeg q) 0)) 93 (Int32.toNatClampNeg q) = 1 := Or.inl hq0
                  have hhw := h11
                  have hTK : TKm iv (va_up Fv 93 (upd (Fv 93) (Int32.toNatClampNeg q) 0)) := hTK
                  refine lv_aload_n (pc := 159) C0.1 C0.2.1 dX10_readAll_159 rfl (lv_at hl 3 rfl) ?_
                  refine lv_iload (pc := 160) C0.1 C0.2.1 dX10_readAll_160 (lv_at hl 1 rfl) ?_
                  refine lv_iload_n (pc := 162) C0.1 C0.2.1 dX10_readAll_162 rfl (lv_at hl 2 rfl) ?_
                  refine xcVV (pc := 163) 78 [.int q, .int hw] (m_take l D tA b iv (va_up Fv 93 (upd (Fv 93) (Int32.toNatClampNeg q) 0)) Gv q hw hT hP hTK hPI hBR (show 0 < Int32.toInt q ∨ Int32.toInt (iv 78 51) = 1 from by omega) (show 0 ≤ Int32.toInt q ∧ Int32.toInt q < Int32.toInt (iv 78 19) from by omega) hd hhw (show Int32.toInt (iv 78 32) + 2 ≤ 1202 from by omega) (show Int32.toInt (iv 78 40) + 2 ≤ 1202 from by omega) (show Int32.toInt (iv 78 47) + 3 ≤ 1802 from by omega) (show Int32.toInt (iv 78 30) = 0 from by omega)) C0 hH hS clX10 rfl ⟨⟨Nat.le_of_ble_eq_true rfl, Nat.le_of_ble_eq_true rfl⟩, rfl, rfl⟩ cw_X10_340 rfl ⟨Nat.le_of_ble_eq_true rfl, Nat.le_of_ble_eq_true rfl⟩ hl.1 rfl (Nat.le_of_ble_eq_true rfl) dX10_readAll_163 ⟨Nat.le_of_ble_eq_true rfl, Nat.le_of_ble_eq_true rfl⟩ (fun ir252 Fr252 Gr252 _ locs hp hH hS => ?_)
                  obtain ⟨honr252, hT, hPI, hP1, hcr252, hblr252⟩ := hp
                  have hT : TMm ir252 Fr252 := hT
                  have hPI : PLI ir252 := hPI
                  have hP1 : (ir252 78 30).toInt = 0 → PMm 1 ir252 Fr252 := hP1
                  have hcr252 : (ir252 78 32).toInt ≤ Int32.toInt (iv 78 32) + 2 ∧ (ir252 78 40).toInt ≤ Int32.toInt (iv 78 40) + 2 ∧ (ir252 78 47).toInt ≤ Int32.toInt (iv 78 47) + 3 := hcr252
                  have hblr252 : Int32.toInt (iv 78 32) ≤ (ir252 78 32).toInt := hblr252
                  have hTL := TMm.lin hT
                  have hTK : TKm ir252 Fr252 := TKm.ro (i := iv) (F := (va_up Fv 93 (upd (Fv 93) (Int32.toNatClampNeg q) 0))) hTK honr252 (by decide)
                  have hBR : BR ir252 := BR.ro (i := iv) (F := (va_up Fv 93 (upd (Fv 93) (Int32.toNatClampNeg q) 0))) hBR honr252 (by decide)
                  have hCB : CB Fr252 := CB.ro (F := (va_up Fv 93 (upd (Fv 93) (Int32.toNatClampNeg q) 0))) hCB honr252 (by decide)
                  have hi_78_17 : ir252 78 17 = nI 86 := (honr252.1 78 17 (Or.inr (by decide))).trans hi_78_17
                  have ek_19r252 : Int32.toInt (ir252 78 19) = Int32.toInt (iv 78 19) := congrArg Int32.toInt (honr252.1 78 19 (Or.inr (by decide)))
                  have ek_18r252 : Int32.toInt (ir252 78 18) = Int32.toInt (iv 78 18) := congrArg Int32.toInt (honr252.1 78 18 (Or.inr (by decide)))
                  have hTKl := hTK.1
                  refine lv_aload_n (pc := 166) C0.1 C0.2.1 dX10_readAll_166 rfl (lv_at hl 3 rfl) ?_
                  refine lv_aload_n (pc := 167) C0.1 C0.2.1 dX10_readAll_167 rfl (lv_at hl 3 rfl) ?_
                  refine xget (pc := 168) C0 hH 78 25 clX10 ⟨Nat.le_of_ble_eq_true rfl, Nat.le_of_ble_eq_true rfl⟩ ⟨rfl, rfl⟩ (Nat.le_of_ble_eq_true rfl) fl_X10_57 (v := .ref (b + 93)) rfl dX10_readAll_168 ?_
                  refine lv_iload (pc := 171) C0.1 C0.2.1 dX10_readAll_171 (lv_at hl 1 rfl) ?_
                  refine xzald (pc := 173) (N := 600) C0 hH 93 ⟨Nat.le_of_ble_eq_true rfl, Nat.le_of_ble_eq_true rfl⟩ ⟨rfl, rfl⟩ (vI (by omega) (by omega)) dX10_readAll_173 ?_
                  refine lv_if_eq (pc := 174) (tgt := 187) C0.1 C0.2.1 dX10_readAll_174 (by decide) (fun c253 => ?_) (fun c253 => ?_)
                  · have : Int32.toInt 0 = 0 := rfl
                    have c253 := congrArg Int32.toInt c253
                    refine lv_aload_n (pc := 187) C0.1 C0.2.1 dX10_readAll_187 rfl (lv_at hl 3 rfl) ?_
                    refine xget (pc := 188) C0 hH 78 52 clX10 ⟨Nat.le_of_ble_eq_true rfl, Nat.le_of_ble_eq_true rfl⟩ ⟨rfl, rfl⟩ (Nat.le_of_ble_eq_true rfl) fl_X10_313 (v := .int (ir252 78 52)) rfl dX10_readAll_188 ?_
                    refine lv_topi (fun x254 ex254 => ?_)
                    refine xputI (pc := 191) C0 (Nat.le_of_ble_eq_true rfl) hH hS 78 52 clX10 ⟨Nat.le_of_ble_eq_true rfl, Nat.le_of_ble_eq_true rfl⟩ ⟨rfl, rfl⟩ ⟨Nat.le_of_ble_eq_true rfl, rfl, rfl⟩ fl_X10_313 (x := x254) ⟨rfl, rfl⟩ dX10_readAll_191 (fun _ locs hH hS _ => ?_)
                    have hH : Hd D tA b 78 52 zz (up2 ir252 78 52 x254) Fr252 Gr252 _ := hH
                    refine lv_iload (pc := 194) C0.1 C0.2.1 dX10_readAll_194 (lv_at hl 0 rfl) ?_
                    refine lv_if_eq (pc := 196) (tgt := 203) C0.1 C0.2.1 dX10_readAll_196 (by decide) (fun _ => ?_) (fun c => absurd (by decide) c)
                    refine lv_aload_n (pc := 203) C0.1 C0.2.1 dX10_readAll_203 rfl (lv_at hl 3 rfl) ?_
                    refine lv_iload (pc := 204) C0.1 C0.2.1 dX10_readAll_204 (lv_at hl 1 rfl) ?_
                    refine xcVI (pc := 206) 78 [.int q] (m_openerOf l D tA b (up2 ir252 78 52 x254) Fr252 Gr252 q hBR (by omega)) C0 hH hS clX10 rfl ⟨⟨Nat.le_of_ble_eq_true rfl, Nat.le_of_ble_eq_true rfl⟩, rfl, rfl⟩ cw_X10_343 rfl ⟨Nat.le_of_ble_eq_true rfl, Nat.le_of_ble_eq_true rfl⟩ hl.1 rfl (Nat.le_of_ble_eq_true rfl) dX10_readAll_206 ⟨Nat.le_of_ble_eq_true rfl, Nat.le_of_ble_eq_true rfl⟩ (fun r255 ir255 Fr255 Gr255 _ locs hp hH hS => ?_)
                    obtain ⟨hu, hpr255⟩ := hp
                    cases hu
                    refine lv_istore_n (pc := 209) (lv' := [(3, .int r255), (5, .int 0), (4, .int q), (0, .ref (b + 78)), (2, .int y)]) C0.1 C0.2.1 dX10_readAll_209 rfl hl (by decide) rfl (fun ls hl => ?_)
                    obtain ⟨x256, ex256⟩ : ∃ y_ : Int32, y_ = q + 1 := ⟨_, rfl⟩
                    have : Int32.toInt 1 = 1 := rfl
                    have hx256 : Int32.toInt x256 = Int32.toInt q + Int32.toInt 1 := by rw [ex256]; exact fb_addI (by omega) (by omega)
                    refine lv_iinc (pc := 210) (v := x256) (lv' := [(4, .int x256), (3, .int r255), (5, .int 0), (0, .ref (b + 78)), (2, .int y)]) C0.1 C0.2.1 dX10_readAll_210 hl (k := 2) rfl (by rw [ex256]; rfl) (by decide) rfl (fun ls hl => ?_)
                    refine lv_goto (pc := 213) (tgt := 80) C0.1 C0.2.1 dX10_readAll_213 (by decide) ?_
                    exact ih80 x256 r255 (up2 ir252 78 52 x254) Fr252 Gr252 _ _ _ (RO.i (RO.tr (RO.f h1 (by decide)) honr252 (by decide) (by decide)) (by decide)) hT hTK hPI hCB (show Int32.toInt (ir252 78 18) = _ from by omega) hi_78_17 (fun w => PMm.one (hP1 w) (by decide)) (show 0 ≤ Int32.toInt x256 ∧ Int32.toInt x256 ≤ Int32.toInt (ir252 78 19) from by omega) (show Int32.toInt (ir252 78 19) - Int32.toInt x256 ≤ _ from by omega) (fun _ => by omega) (show (1 ≤ Int32.toInt (ir252 78 32) ∧ Int32.toInt (ir252 78 32) ≤ 1 + 2 * Int32.toInt x256) ∧ Int32.toInt (ir252 78 40) ≤ 2 * Int32.toInt x256 ∧ Int32.toInt (ir252 78 47) ≤ 3 * Int32.toInt x256 + 1 from by omega) (fun w => absurd w (by omega)) (Or.inl (by omega)) hH hS (lv_sub hl [0, 1, 3, 4] rfl)
                  · have : Int32.toInt 0 = 0 := rfl
                    have c253 : ¬ _ := fun q => c253 (Int32.toInt_inj.mp q)
                    refine lv_aload_n (pc := 177) C0.1 C0.2.1 dX10_readAll_177 rfl (lv_at hl 3 rfl) ?_
                    refine xget (pc := 178) C0 hH 78 24 clX10 ⟨Nat.le_of_ble_eq_true rfl, Nat.le_of_ble_eq_true rfl⟩ ⟨rfl, rfl⟩ (Nat.le_of_ble_eq_true rfl) fl_X10_54 (v := .ref (b + 92)) rfl dX10_readAll_178 ?_
                    refine lv_iload (pc := 181) C0.1 C0.2.1 dX10_readAll_181 (lv_at hl 1 rfl) ?_
                    refine xiald (pc := 183) (N := 600) C0 hH 92 ⟨Nat.le_of_ble_eq_true rfl, Nat.le_of_ble_eq_true rfl⟩ ⟨rfl, rfl⟩ (vI (by omega) (by omega)) dX10_readAll_183 ?_
                    refine lv_goto (pc := 184) (tgt := 191) C0.1 C0.2.1 dX10_readAll_184 (by decide) ?_
                    refine lv_topi (fun x257 ex257 => ?_)
                    refine xputI (pc := 191) C0 (Nat.le_of_ble_eq_true rfl) hH hS 78 52 clX10 ⟨Nat.le_of_ble_eq_true rfl, Nat.le_of_ble_eq_true rfl⟩ ⟨rfl, rfl⟩ ⟨Nat.le_of_ble_eq_true rfl, rfl, rfl⟩ fl_X10_313 (x := x257) ⟨rfl, rfl⟩ dX10_readAll_191 (fun _ locs hH hS _ => ?_)
                    have hH : Hd D tA b 78 52 zz (up2 ir252 78 52 x257) Fr252 Gr252 _ := hH
                    refine lv_iload (pc := 194) C0.1 C0.2.1 dX10_readAll_194 (lv_at hl 0 rfl) ?_
                    refine lv_if_eq (pc := 196) (tgt := 203) C0.1 C0.2.1 dX10_readAll_196 (by decide) (fun _ => ?_) (fun c => absurd (by decide) c)
                    refine lv_aload_n (pc := 203) C0.1 C0.2.1 dX10_readAll_203 rfl (lv_at hl 3 rfl) ?_
                    refine lv_iload (pc := 204) C0.1 C0.2.1 dX10_readAll_204 (lv_at hl 1 rfl) ?_
                    refine xcVI (pc := 206) 78 [.int q] (m_openerOf l D tA b (up2 ir252 78 52 x257) Fr252 Gr252 q hBR (by omega)) C0 hH hS clX10 rfl ⟨⟨Nat.le_of_ble_eq_true rfl, Nat.le_of_ble_eq_true rfl⟩, rfl, rfl⟩ cw_X10_343 rfl ⟨Nat.le_of_ble_eq_true rfl, Nat.le_of_ble_eq_true rfl⟩ hl.1 rfl (Nat.le_of_ble_eq_true rfl) dX10_readAll_206 ⟨Nat.le_of_ble_eq_true rfl, Nat.le_of_ble_eq_true rfl⟩ (fun r258 ir258 Fr258 Gr258 _ locs hp hH hS => ?_)
                    obtain ⟨hu, hpr258⟩ := hp
                    cases hu
                    refine lv_istore_n (pc := 209) (lv' := [(3, .int r258), (5, .int 0), (4, .int q), (0, .ref (b + 78)), (2, .int y)]) C0.1 C0.2.1 dX10_readAll_209 rfl hl (by decide) rfl (fun ls hl => ?_)
                    obtain ⟨x259, ex259⟩ : ∃ y_ : Int32, y_ = q + 1 := ⟨_, rfl⟩
                    have : Int32.toInt 1 = 1 := rfl
                    have hx259 : Int32.toInt x259 = Int32.toInt q + Int32.toInt 1 := by rw [ex259]; exact fb_addI (by omega) (by omega)
                    refine lv_iinc (pc := 210) (v := x259) (lv' := [(4, .int x259), (3, .int r258), (5, .int 0), (0, .ref (b + 78)), (2, .int y)]) C0.1 C0.2.1 dX10_readAll_210 hl (k := 2) rfl (by rw [ex259]; rfl) (by decide) rfl (fun ls hl => ?_)
                    refine lv_goto (pc := 213) (tgt := 80) C0.1 C0.2.1 dX10_readAll_213 (by decide) ?_
                    exact ih80 x259 r258 (up2 ir252 78 52 x257) Fr252 Gr252 _ _ _ (RO.i (RO.tr (RO.f h1 (by decide)) honr252 (by decide) (by decide)) (by decide)) hT hTK hPI hCB (show Int32.toInt (ir252 78 18) = _ from by omega) hi_78_17 (fun w => PMm.one (hP1 w) (by decide)) (show 0 ≤ Int32.toInt x259 ∧ Int32.toInt x259 ≤ Int32.toInt (ir252 78 19) from by omega) (show Int32.toInt (ir252 78 19) - Int32.toInt x259 ≤ _ from by omega) (fun _ => by omega) (show (1 ≤ Int32.toInt (ir252 78 32) ∧ Int32.toInt (ir252 78 32) ≤ 1 + 2 * Int32.toInt x259) ∧ Int32.toInt (ir252 78 40) ≤ 2 * Int32.toInt x259 ∧ Int32.toInt (ir252 78 47) ≤ 3 * Int32.toInt x259 + 1 from by omega) (fun w => absurd w (by omega)) (Or.inl (by omega)) hH hS (lv_sub hl [0, 1, 3, 4] rfl)
                · have : Int32.toInt 0 = 0 := rfl
                  have c251 := congrArg Int32.toInt c251
                  refine lv_iconst (pc := 153) (v := 1) C0.1 C0.2.1 dX10_readAll_153 (by decide) ?_
                  refine lv_goto (pc := 154) (tgt := 158) C0.1 C0.2.1 dX10_readAll_154 (by decide) ?_
                  refine xzast (pc := 158) (N := 600) C0 (Nat.le_of_ble_eq_true rfl) hH hS 93 ⟨Nat.le_of_ble_eq_true rfl, Nat.le_of_ble_eq_true rfl⟩ ⟨rfl, rfl⟩ (by decide) (vI (by omega) (by omega)) dX10_readAll_158 (fun _ locs hH hS => ?_)
                  have hH : Hd D tA b 78 52 zz iv (va_up Fv 93 (upd (Fv 93) (Int32.toNatClampNeg q) 1)) Gv _ := hH
                  have hd : 0 < q.toInt ∨ (va_up Fv 93 (upd (Fv 93) (Int32.toNatClampNeg q) 1)) 93 (Int32.toNatClampNeg q) = 1 := Or.inr (show upd (Fv 93) (Int32.toNatClampNeg q) 1 (Int32.toNatClampNeg q) = 1 from upd_s)
                  have hhw := h11
                  have hTK : TKm iv (va_up Fv 93 (upd (Fv 93) (Int32.toNatClampNeg q) 1)) := hTK
                  refine lv_aload_n (pc := 159) C0.1 C0.2.1 dX10_readAll_159 rfl (lv_at hl 3 rfl) ?_
                  refine lv_iload (pc := 160) C0.1 C0.2.1 dX10_readAll_160 (lv_at hl 1 rfl) ?_
                  refine lv_iload_n (pc := 162) C0.1 C0.2.1 dX10_readAll_162 rfl (lv_at hl 2 rfl) ?_
                  refine xcVV (pc := 163) 78 [.int q, .int hw] (m_take l D tA b iv (va_up Fv 93 (upd (Fv 93) (Int32.toNatClampNeg q) 1)) Gv q hw hT hP hTK hPI hBR (show 0 < Int32.toInt q ∨ Int32.toInt (iv 78 51) = 1 from by omega) (show 0 ≤ Int32.toInt q ∧ Int32.toInt q < Int32.toInt (iv 78 19) from by omega) hd hhw (show Int32.toInt (iv 78 32) + 2 ≤ 1202 from by omega) (show Int32.toInt (iv 78 40) + 2 ≤ 1202 from by omega) (show Int32.toInt (iv 78 47) + 3 ≤ 1802 from by omega) (show Int32.toInt (iv 78 30) = 0 from by omega)) C0 hH hS clX10 rfl ⟨⟨Nat.le_of_ble_eq_true rfl, Nat.le_of_ble_eq_true rfl⟩, rfl, rfl⟩ cw_X10_340 rfl ⟨Nat.le_of_ble_eq_true rfl, Nat.le_of_ble_eq_true rfl⟩ hl.1 rfl (Nat.le_of_ble_eq_true rfl) dX10_readAll_163 ⟨Nat.le_of_ble_eq_true rfl, Nat.le_of_ble_eq_true rfl⟩ (fun ir260 Fr260 Gr260 _ locs hp hH hS => ?_)
                  obtain ⟨honr260, hT, hPI, hP1, hcr260, hblr260⟩ := hp
                  have hT : TMm ir260 Fr260 := hT
                  have hPI : PLI ir260 := hPI
                  have hP1 : (ir260 78 30).toInt = 0 → PMm 1 ir260 Fr260 := hP1
                  have hcr260 : (ir260 78 32).toInt ≤ Int32.toInt (iv 78 32) + 2 ∧ (ir260 78 40).toInt ≤ Int32.toInt (iv 78 40) + 2 ∧ (ir260 78 47).toInt ≤ Int32.toInt (iv 78 47) + 3 := hcr260
                  have hblr260 : Int32.toInt (iv 78 32) ≤ (ir260 78 32).toInt := hblr260
                  have hTL := TMm.lin hT
                  have hTK : TKm ir260 Fr260 := TKm.ro (i := iv) (F := (va_up Fv 93 (upd (Fv 93) (Int32.toNatClampNeg q) 1))) hTK honr260 (by decide)
                  have hBR : BR ir260 := BR.ro (i := iv) (F := (va_up Fv 93 (upd (Fv 93) (Int32.toNatClampNeg q) 1))) hBR honr260 (by decide)
                  have hCB : CB Fr260 := CB.ro (F := (va_up Fv 93 (upd (Fv 93) (Int32.toNatClampNeg q) 1))) hCB honr260 (by decide)
                  have hi_78_17 : ir260 78 17 = nI 86 := (honr260.1 78 17 (Or.inr (by decide))).trans hi_78_17
                  have ek_19r260 : Int32.toInt (ir260 78 19) = Int32.toInt (iv 78 19) := congrArg Int32.toInt (honr260.1 78 19 (Or.inr (by decide)))
                  have ek_18r260 : Int32.toInt (ir260 78 18) = Int32.toInt (iv 78 18) := congrArg Int32.toInt (honr260.1 78 18 (Or.inr (by decide)))
                  have hTKl := hTK.1
                  refine lv_aload_n (pc := 166) C0.1 C0.2.1 dX10_readAll_166 rfl (lv_at hl 3 rfl) ?_
                  refine lv_aload_n (pc := 167) C0.1 C0.2.1 dX10_readAll_167 rfl (lv_at hl 3 rfl) ?_
                  refine xget (pc := 168) C0 hH 78 25 clX10 ⟨Nat.le_of_ble_eq_true rfl, Nat.le_of_ble_eq_true rfl⟩ ⟨rfl, rfl⟩ (Nat.le_of_ble_eq_true rfl) fl_X10_57 (v := .ref (b + 93)) rfl dX10_readAll_168 ?_
                  refine lv_iload (pc := 171) C0.1 C0.2.1 dX10_readAll_171 (lv_at hl 1 rfl) ?_
                  refine xzald (pc := 173) (N := 600) C0 hH 93 ⟨Nat.le_of_ble_eq_true rfl, Nat.le_of_ble_eq_true rfl⟩ ⟨rfl, rfl⟩ (vI (by omega) (by omega)) dX10_readAll_173 ?_
                  refine lv_if_eq (pc := 174) (tgt := 187) C0.1 C0.2.1 dX10_readAll_174 (by decide) (fun c261 => ?_) (fun c261 => ?_)
                  · have : Int32.toInt 0 = 0 := rfl
                    have c261 := congrArg Int32.toInt c261
                    refine lv_aload_n (pc := 187) C0.1 C0.2.1 dX10_readAll_187 rfl (lv_at hl 3 rfl) ?_
                    refine xget (pc := 188) C0 hH 78 52 clX10 ⟨Nat.le_of_ble_eq_true rfl, Nat.le_of_ble_eq_true rfl⟩ ⟨rfl, rfl⟩ (Nat.le_of_ble_eq_true rfl) fl_X10_313 (v := .int (ir260 78 52)) rfl dX10_readAll_188 ?_
                    refine lv_topi (fun x262 ex262 => ?_)
                    refine xputI (pc := 191) C0 (Nat.le_of_ble_eq_true rfl) hH hS 78 52 clX10 ⟨Nat.le_of_ble_eq_true rfl, Nat.le_of_ble_eq_true rfl⟩ ⟨rfl, rfl⟩ ⟨Nat.le_of_ble_eq_true rfl, rfl, rfl⟩ fl_X10_313 (x := x262) ⟨rfl, rfl⟩ dX10_readAll_191 (fun _ locs hH hS _ => ?_)
                    have hH : Hd D tA b 78 52 zz (up2 ir260 78 52 x262) Fr260 Gr260 _ := hH
                    refine lv_iload (pc := 194) C0.1 C0.2.1 dX10_readAll_194 (lv_at hl 0 rfl) ?_
                    refine lv_if_eq (pc := 196) (tgt := 203) C0.1 C0.2.1 dX10_readAll_196 (by decide) (fun _ => ?_) (fun c => absurd (by decide) c)
                    refine lv_aload_n (pc := 203) C0.1 C0.2.1 dX10_readAll_203 rfl (lv_at hl 3 rfl) ?_
                    refine lv_iload (pc := 204) C0.1 C0.2.1 dX10_readAll_204 (lv_at hl 1 rfl) ?_
                    refine xcVI (pc := 206) 78 [.int q] (m_openerOf l D tA b (up2 ir260 78 52 x262) Fr260 Gr260 q hBR (by omega)) C0 hH hS clX10 rfl ⟨⟨Nat.le_of_ble_eq_true rfl, Nat.le_of_ble_eq_true rfl⟩, rfl, rfl⟩ cw_X10_343 rfl ⟨Nat.le_of_ble_eq_true rfl, Nat.le_of_ble_eq_true rfl⟩ hl.1 rfl (Nat.le_of_ble_eq_true rfl) dX10_readAll_206 ⟨Nat.le_of_ble_eq_true rfl, Nat.le_of_ble_eq_true rfl⟩ (fun r263 ir263 Fr263 Gr263 _ locs hp hH hS => ?_)
                    obtain ⟨hu, hpr263⟩ := hp
                    cases hu
                    refine lv_istore_n (pc := 209) (lv' := [(3, .int r263), (5, .int 0), (4, .int q), (0, .ref (b + 78)), (2, .int y)]) C0.1 C0.2.1 dX10_readAll_209 rfl hl (by decide) rfl (fun ls hl => ?_)
                    obtain ⟨x264, ex264⟩ : ∃ y_ : Int32, y_ = q + 1 := ⟨_, rfl⟩
                    have : Int32.toInt 1 = 1 := rfl
                    have hx264 : Int32.toInt x264 = Int32.toInt q + Int32.toInt 1 := by rw [ex264]; exact fb_addI (by omega) (by omega)
                    refine lv_iinc (pc := 210) (v := x264) (lv' := [(4, .int x264), (3, .int r263), (5, .int 0), (0, .ref (b + 78)), (2, .int y)]) C0.1 C0.2.1 dX10_readAll_210 hl (k := 2) rfl (by rw [ex264]; rfl) (by decide) rfl (fun ls hl => ?_)
                    refine lv_goto (pc := 213) (tgt := 80) C0.1 C0.2.1 dX10_readAll_213 (by decide) ?_
                    exact ih80 x264 r263 (up2 ir260 78 52 x262) Fr260 Gr260 _ _ _ (RO.i (RO.tr (RO.f h1 (by decide)) honr260 (by decide) (by decide)) (by decide)) hT hTK hPI hCB (show Int32.toInt (ir260 78 18) = _ from by omega) hi_78_17 (fun w => PMm.one (hP1 w) (by decide)) (show 0 ≤ Int32.toInt x264 ∧ Int32.toInt x264 ≤ Int32.toInt (ir260 78 19) from by omega) (show Int32.toInt (ir260 78 19) - Int32.toInt x264 ≤ _ from by omega) (fun _ => by omega) (show (1 ≤ Int32.toInt (ir260 78 32) ∧ Int32.toInt (ir260 78 32) ≤ 1 + 2 * Int32.toInt x264) ∧ Int32.toInt (ir260 78 40) ≤ 2 * Int32.toInt x264 ∧ Int32.toInt (ir260 78 47) ≤ 3 * Int32.toInt x264 + 1 from by omega) (fun w => absurd w (by omega)) (Or.inl (by omega)) hH hS (lv_sub hl [0, 1, 3, 4] rfl)
                  · have : Int32.toInt 0 = 0 := rfl
                    have c261 : ¬ _ := fun q => c261 (Int32.toInt_inj.mp q)
                    refine lv_aload_n (pc := 177) C0.1 C0.2.1 dX10_readAll_177 rfl (lv_at hl 3 rfl) ?_
                    refine xget (pc := 178) C0 hH 78 24 clX10 ⟨Nat.le_of_ble_eq_true rfl, Nat.le_of_ble_eq_true rfl⟩ ⟨rfl, rfl⟩ (Nat.le_of_ble_eq_true rfl) fl_X10_54 (v := .ref (b + 92)) rfl dX10_readAll_178 ?_
                    refine lv_iload (pc := 181) C0.1 C0.2.1 dX10_readAll_181 (lv_at hl 1 rfl) ?_
                    refine xiald (pc := 183) (N := 600) C0 hH 92 ⟨Nat.le_of_ble_eq_true rfl, Nat.le_of_ble_eq_true rfl⟩ ⟨rfl, rfl⟩ (vI (by omega) (by omega)) dX10_readAll_183 ?_
                    refine lv_goto (pc := 184) (tgt := 191) C0.1 C0.2.1 dX10_readAll_184 (by decide) ?_
                    refine lv_topi (fun x265 ex265 => ?_)
                    refine xputI (pc := 191) C0 (Nat.le_of_ble_eq_true rfl) hH hS 78 52 clX10 ⟨Nat.le_of_ble_eq_true rfl, Nat.le_of_ble_eq_true rfl⟩ ⟨rfl, rfl⟩ ⟨Nat.le_of_ble_eq_true rfl, rfl, rfl⟩ fl_X10_313 (x := x265) ⟨rfl, rfl⟩ dX10_readAll_191 (fun _ locs hH hS _ => ?_)
                    have hH : Hd D tA b 78 52 zz (up2 ir260 78 52 x265) Fr260 Gr260 _ := hH
                    refine lv_iload (pc := 194) C0.1 C0.2.1 dX10_readAll_194 (lv_at hl 0 rfl) ?_
                    refine lv_if_eq (pc := 196) (tgt := 203) C0.1 C0.2.1 dX10_readAll_196 (by decide) (fun _ => ?_) (fun c => absurd (by decide) c)
                    refine lv_aload_n (pc := 203) C0.1 C0.2.1 dX10_readAll_203 rfl (lv_at hl 3 rfl) ?_
                    refine lv_iload (pc := 204) C0.1 C0.2.1 dX10_readAll_204 (lv_at hl 1 rfl) ?_
                    refine xcVI (pc := 206) 78 [.int q] (m_openerOf l D tA b (up2 ir260 78 52 x265) Fr260 Gr260 q hBR (by omega)) C0 hH hS clX10 rfl ⟨⟨Nat.le_of_ble_eq_true rfl, Nat.le_of_ble_eq_true rfl⟩, rfl, rfl⟩ cw_X10_343 rfl ⟨Nat.le_of_ble_eq_true rfl, Nat.le_of_ble_eq_true rfl⟩ hl.1 rfl (Nat.le_of_ble_eq_true rfl) dX10_readAll_206 ⟨Nat.le_of_ble_eq_true rfl, Nat.le_of_ble_eq_true rfl⟩ (fun r266 ir266 Fr266 Gr266 _ locs hp hH hS => ?_)
                    obtain ⟨hu, hpr266⟩ := hp
                    cases hu
                    refine lv_istore_n (pc := 209) (lv' := [(3, .int r266), (5, .int 0), (4, .int q), (0, .ref (b + 78)), (2, .int y)]) C0.1 C0.2.1 dX10_readAll_209 rfl hl (by decide) rfl (fun ls hl => ?_)
                    obtain ⟨x267, ex267⟩ : ∃ y_ : Int32, y_ = q + 1 := ⟨_, rfl⟩
                    have : Int32.toInt 1 = 1 := rfl
                    have hx267 : Int32.toInt x267 = Int32.toInt q + Int32.toInt 1 := by rw [ex267]; exact fb_addI (by omega) (by omega)
                    refine lv_iinc (pc := 210) (v := x267) (lv' := [(4, .int x267), (3, .int r266), (5, .int 0), (0, .ref (b + 78)), (2, .int y)]) C0.1 C0.2.1 dX10_readAll_210 hl (k := 2) rfl (by rw [ex267]; rfl) (by decide) rfl (fun ls hl => ?_)
                    refine lv_goto (pc := 213) (tgt := 80) C0.1 C0.2.1 dX10_readAll_213 (by decide) ?_
                    exact ih80 x267 r266 (up2 ir260 78 52 x265) Fr260 Gr260 _ _ _ (RO.i (RO.tr (RO.f h1 (by decide)) honr260 (by decide) (by decide)) (by decide)) hT hTK hPI hCB (show Int32.toInt (ir260 78 18) = _ from by omega) hi_78_17 (fun w => PMm.one (hP1 w) (by decide)) (show 0 ≤ Int32.toInt x267 ∧ Int32.toInt x267 ≤ Int32.toInt (ir260 78 19) from by omega) (show Int32.toInt (ir260 78 19) - Int32.toInt x267 ≤ _ from by omega) (fun _ => by omega) (show (1 ≤ Int32.toInt (ir260 78 32) ∧ Int32.toInt (ir260 78 32) ≤ 1 + 2 * Int32.toInt x267) ∧ Int32.toInt (ir260 78 40) ≤ 2 * Int32.toInt x267 ∧ Int32.toInt (ir260 78 47) ≤ 3 * Int32.toInt x267 + 1 from by omega) (fun w => absurd w (by omega)) (Or.inl (by omega)) hH hS (lv_sub hl [0, 1, 3, 4] rfl)
          · have : Int32.toInt 4 = 4 := rfl
            have c230 := congrArg Int32.toInt c230
            refine lv_iconst (pc := 109) (v := 1) C0.1 C0.2.1 dX10_readAll_109 (by decide) ?_
            refine lv_goto (pc := 110) (tgt := 114) C0.1 C0.2.1 dX10_readAll_110 (by decide) ?_
            refine lv_istore (pc := 114) (lv' := [(5, .int 1), (4, .int q), (3, .int hw), (0, .ref (b + 78)), (2, .int y)]) C0.1 C0.2.1 dX10_readAll_114 hl (by decide) rfl (fun ls hl => ?_)
            refine lv_aload_n (pc := 116) C0.1 C0.2.1 dX10_readAll_116 rfl (lv_at hl 3 rfl) ?_
            refine xget (pc := 117) C0 hH 78 25 clX10 ⟨Nat.le_of_ble_eq_true rfl, Nat.le_of_ble_eq_true rfl⟩ ⟨rfl, rfl⟩ (Nat.le_of_ble_eq_true rfl) fl_X10_57 (v := .ref (b + 93)) rfl dX10_readAll_117 ?_
            refine lv_iload (pc := 120) C0.1 C0.2.1 dX10_readAll_120 (lv_at hl 1 rfl) ?_
            refine lv_aload_n (pc := 122) C0.1 C0.2.1 dX10_readAll_122 rfl (lv_at hl 3 rfl) ?_
            refine xget (pc := 123) C0 hH 78 25 clX10 ⟨Nat.le_of_ble_eq_true rfl, Nat.le_of_ble_eq_true rfl⟩ ⟨rfl, rfl⟩ (Nat.le_of_ble_eq_true rfl) fl_X10_57 (v := .ref (b + 93)) rfl dX10_readAll_123 ?_
            refine lv_iload (pc := 126) C0.1 C0.2.1 dX10_readAll_126 (lv_at hl 1 rfl) ?_
            refine xzald (pc := 128) (N := 600) C0 hH 93 ⟨Nat.le_of_ble_eq_true rfl, Nat.le_of_ble_eq_true rfl⟩ ⟨rfl, rfl⟩ (vI (by omega) (by omega)) dX10_readAll_128 ?_
            refine lv_if_eq (pc := 129) (tgt := 157) C0.1 C0.2.1 dX10_readAll_129 (by decide) (fun c268 => ?_) (fun c268 => ?_)
            · have : Int32.toInt 0 = 0 := rfl
              have c268 := congrArg Int32.toInt c268
              refine lv_iconst (pc := 157) (v := 0) C0.1 C0.2.1 dX10_readAll_157 (by decide) ?_
              refine xzast (pc := 158) (N := 600) C0 (Nat.le_of_ble_eq_true rfl) hH hS 93 ⟨Nat.le_of_ble_eq_true rfl, Nat.le_of_ble_eq_true rfl⟩ ⟨rfl, rfl⟩ (by decide) (vI (by omega) (by omega)) dX10_readAll_158 (fun _ locs hH hS => ?_)
              have hH : Hd D tA b 78 52 zz iv (va_up Fv 93 (upd (Fv 93) (Int32.toNatClampNeg q) 0)) Gv _ := hH
              have hq0 : 0 < q.toInt := by
                rcases Int.lt_or_le 0 q.toInt with w | w
                · exact w
                · exfalso
                  have q0 : q.toInt = 0 := (by omega)
                  have qc := clI (x := q) (by omega)
                  have qn : Int32.toNatClampNeg q = 0 := (by omega)
                  first
                  | (have w1 : Int32.toInt (Fv 93 (Int32.toNatClampNeg q)) = Int32.toInt 0 := (by assumption); rw [qn, h13 q0 (by omega)] at w1; exact absurd w1 (by decide))
                  | (have w1 : Int32.toInt (Fv 98 (Int32.toNatClampNeg r229)) = Int32.toInt 4 := (by assumption); have w2 := htzr229 (by omega); rw [w2, show Int32.toNatClampNeg 0 = 0 from rfl, hP.2.2.2.1] at w1; exact absurd w1 (by decide))
                  | (have : Int32.toInt 0 = 0 := rfl; omega)
              have hd : 0 < q.toInt ∨ (va_up Fv 93 (upd (Fv 93) (Int32.toNatClampNeg q) 0)) 93 (Int32.toNatClampNeg q) = 1 := Or.inl hq0
              have hhw := h11
              have hTK : TKm iv (va_up Fv 93 (upd (Fv 93) (Int32.toNatClampNeg q) 0)) := hTK
              refine lv_aload_n (pc := 159) C0.1 C0.2.1 dX10_readAll_159 rfl (lv_at hl 3 rfl) ?_
              refine lv_iload (pc := 160) C0.1 C0.2.1 dX10_readAll_160 (lv_at hl 1 rfl) ?_
              refine lv_iload_n (pc := 162) C0.1 C0.2.1 dX10_readAll_162 rfl (lv_at hl 2 rfl) ?_
              refine xcVV (pc := 163) 78 [.int q, .int hw] (m_take l D tA b iv (va_up Fv 93 (upd (Fv 93) (Int32.toNatClampNeg q) 0)) Gv q hw hT hP hTK hPI hBR (show 0 < Int32.toInt q ∨ Int32.toInt (iv 78 51) = 1 from by omega) (show 0 ≤ Int32.toInt q ∧ Int32.toInt q < Int32.toInt (iv 78 19) from by omega) hd hhw (show Int32.toInt (iv 78 32) + 2 ≤ 1202 from by omega) (show Int32.toInt (iv 78 40) + 2 ≤ 1202 from by omega) (show Int32.toInt (iv 78 47) + 3 ≤ 1802 from by omega) (show Int32.toInt (iv 78 30) = 0 from by omega)) C0 hH hS clX10 rfl ⟨⟨Nat.le_of_ble_eq_true rfl, Nat.le_of_ble_eq_true rfl⟩, rfl, rfl⟩ cw_X10_340 rfl ⟨Nat.le_of_ble_eq_true rfl, Nat.le_of_ble_eq_true rfl⟩ hl.1 rfl (Nat.le_of_ble_eq_true rfl) dX10_readAll_163 ⟨Nat.le_of_ble_eq_true rfl, Nat.le_of_ble_eq_true rfl⟩ (fun ir269 Fr269 Gr269 _ locs hp hH hS => ?_)
              obtain ⟨honr269, hT, hPI, hP1, hcr269, hblr269⟩ := hp
              have hT : TMm ir269 Fr269 := hT
              have hPI : PLI ir269 := hPI
              have hP1 : (ir269 78 30).toInt = 0 → PMm 1 ir269 Fr269 := hP1
              have hcr269 : (ir269 78 32).toInt ≤ Int32.toInt (iv 78 32) + 2 ∧ (ir269 78 40).toInt ≤ Int32.toInt (iv 78 40) + 2 ∧ (ir269 78 47).toInt ≤ Int32.toInt (iv 78 47) + 3 := hcr269
              have hblr269 : Int32.toInt (iv 78 32) ≤ (ir269 78 32).toInt := hblr269
              have hTL := TMm.lin hT
              have hTK : TKm ir269 Fr269 := TKm.ro (i := iv) (F := (va_up Fv 93 (upd (Fv 93) (Int32.toNatClampNeg q) 0))) hTK honr269 (by decide)
              have hBR : BR ir269 := BR.ro (i := iv) (F := (va_up Fv 93 (upd (Fv 93) (Int32.toNatClampNeg q) 0))) hBR honr269 (by decide)
              have hCB : CB Fr269 := CB.ro (F := (va_up Fv 93 (upd (Fv 93) (Int32.toNatClampNeg q) 0))) hCB honr269 (by decide)
              have hi_78_17 : ir269 78 17 = nI 86 := (honr269.1 78 17 (Or.inr (by decide))).trans hi_78_17
              have ek_19r269 : Int32.toInt (ir269 78 19) = Int32.toInt (iv 78 19) := congrArg Int32.toInt (honr269.1 78 19 (Or.inr (by decide)))
              have ek_18r269 : Int32.toInt (ir269 78 18) = Int32.toInt (iv 78 18) := congrArg Int32.toInt (honr269.1 78 18 (Or.inr (by decide)))
              have hTKl := hTK.1
              refine lv_aload_n (pc := 166) C0.1 C0.2.1 dX10_readAll_166 rfl (lv_at hl 3 rfl) ?_
              refine lv_aload_n (pc := 167) C0.1 C0.2.1 dX10_readAll_167 rfl (lv_at hl 3 rfl) ?_
              refine xget (pc := 168) C0 hH 78 25 clX10 ⟨Nat.le_of_ble_eq_true rfl, Nat.le_of_ble_eq_true rfl⟩ ⟨rfl, rfl⟩ (Nat.le_of_ble_eq_true rfl) fl_X10_57 (v := .ref (b + 93)) rfl dX10_readAll_168 ?_
              refine lv_iload (pc := 171) C0.1 C0.2.1 dX10_readAll_171 (lv_at hl 1 rfl) ?_
              refine xzald (pc := 173) (N := 600) C0 hH 93 ⟨Nat.le_of_ble_eq_true rfl, Nat.le_of_ble_eq_true rfl⟩ ⟨rfl, rfl⟩ (vI (by omega) (by omega)) dX10_readAll_173 ?_
              refine lv_if_eq (pc := 174) (tgt := 187) C0.1 C0.2.1 dX10_readAll_174 (by decide) (fun c270 => ?_) (fun c270 => ?_)
              · have : Int32.toInt 0 = 0 := rfl
                have c270 := congrArg Int32.toInt c270
                refine lv_aload_n (pc := 187) C0.1 C0.2.1 dX10_readAll_187 rfl (lv_at hl 3 rfl) ?_
                refine xget (pc := 188) C0 hH 78 52 clX10 ⟨Nat.le_of_ble_eq_true rfl, Nat.le_of_ble_eq_true rfl⟩ ⟨rfl, rfl⟩ (Nat.le_of_ble_eq_true rfl) fl_X10_313 (v := .int (ir269 78 52)) rfl dX10_readAll_188 ?_
                refine lv_topi (fun x271 ex271 => ?_)
                refine xputI (pc := 191) C0 (Nat.le_of_ble_eq_true rfl) hH hS 78 52 clX10 ⟨Nat.le_of_ble_eq_true rfl, Nat.le_of_ble_eq_true rfl⟩ ⟨rfl, rfl⟩ ⟨Nat.le_of_ble_eq_true rfl, rfl, rfl⟩ fl_X10_313 (x := x271) ⟨rfl, rfl⟩ dX10_readAll_191 (fun _ locs hH hS _ => ?_)
                have hH : Hd D tA b 78 52 zz (up2 ir269 78 52 x271) Fr269 Gr269 _ := hH
                refine lv_iload (pc := 194) C0.1 C0.2.1 dX10_readAll_194 (lv_at hl 0 rfl) ?_
                refine lv_if_eq (pc := 196) (tgt := 203) C0.1 C0.2.1 dX10_readAll_196 (by decide) (fun c => absurd c (by decide)) (fun _ => ?_)
                refine lv_iconst (pc := 199) (v := 0) C0.1 C0.2.1 dX10_readAll_199 (by decide) ?_
                refine lv_goto (pc := 200) (tgt := 209) C0.1 C0.2.1 dX10_readAll_200 (by decide) ?_
                refine lv_istore_n (pc := 209) (lv' := [(3, .int 0), (5, .int 1), (4, .int q), (0, .ref (b + 78)), (2, .int y)]) C0.1 C0.2.1 dX10_readAll_209 rfl hl (by decide) rfl (fun ls hl => ?_)
                obtain ⟨x272, ex272⟩ : ∃ y_ : Int32, y_ = q + 1 := ⟨_, rfl⟩
                have : Int32.toInt 1 = 1 := rfl
                have hx272 : Int32.toInt x272 = Int32.toInt q + Int32.toInt 1 := by rw [ex272]; exact fb_addI (by omega) (by omega)
                refine lv_iinc (pc := 210) (v := x272) (lv' := [(4, .int x272), (3, .int 0), (5, .int 1), (0, .ref (b + 78)), (2, .int y)]) C0.1 C0.2.1 dX10_readAll_210 hl (k := 2) rfl (by rw [ex272]; rfl) (by decide) rfl (fun ls hl => ?_)
                refine lv_goto (pc := 213) (tgt := 80) C0.1 C0.2.1 dX10_readAll_213 (by decide) ?_
                exact ih80 x272 0 (up2 ir269 78 52 x271) Fr269 Gr269 _ _ _ (RO.i (RO.tr (RO.f h1 (by decide)) honr269 (by decide) (by decide)) (by decide)) hT hTK hPI hCB (show Int32.toInt (ir269 78 18) = _ from by omega) hi_78_17 (fun w => PMm.one (hP1 w) (by decide)) (show 0 ≤ Int32.toInt x272 ∧ Int32.toInt x272 ≤ Int32.toInt (ir269 78 19) from by omega) (show Int32.toInt (ir269 78 19) - Int32.toInt x272 ≤ _ from by omega) (fun _ => by omega) (show (1 ≤ Int32.toInt (ir269 78 32) ∧ Int32.toInt (ir269 78 32) ≤ 1 + 2 * Int32.toInt x272) ∧ Int32.toInt (ir269 78 40) ≤ 2 * Int32.toInt x272 ∧ Int32.toInt (ir269 78 47) ≤ 3 * Int32.toInt x272 + 1 from by omega) (fun w => absurd w (by omega)) (Or.inl (by omega)) hH hS (lv_sub hl [0, 1, 3, 4] rfl)
              · have : Int32.toInt 0 = 0 := rfl
                have c270 : ¬ _ := fun q => c270 (Int32.toInt_inj.mp q)
                refine lv_aload_n (pc := 177) C0.1 C0.2.1 dX10_readAll_177 rfl (lv_at hl 3 rfl) ?_
                refine xget (pc := 178) C0 hH 78 24 clX10 ⟨Nat.le_of_ble_eq_true rfl, Nat.le_of_ble_eq_true rfl⟩ ⟨rfl, rfl⟩ (Nat.le_of_ble_eq_true rfl) fl_X10_54 (v := .ref (b + 92)) rfl dX10_readAll_178 ?_
                refine lv_iload (pc := 181) C0.1 C0.2.1 dX10_readAll_181 (lv_at hl 1 rfl) ?_
                refine xiald (pc := 183) (N := 600) C0 hH 92 ⟨Nat.le_of_ble_eq_true rfl, Nat.le_of_ble_eq_true rfl⟩ ⟨rfl, rfl⟩ (vI (by omega) (by omega)) dX10_readAll_183 ?_
                refine lv_goto (pc := 184) (tgt := 191) C0.1 C0.2.1 dX10_readAll_184 (by decide) ?_
                refine lv_topi (fun x273 ex273 => ?_)
                refine xputI (pc := 191) C0 (Nat.le_of_ble_eq_true rfl) hH hS 78 52 clX10 ⟨Nat.le_of_ble_eq_true rfl, Nat.le_of_ble_eq_true rfl⟩ ⟨rfl, rfl⟩ ⟨Nat.le_of_ble_eq_true rfl, rfl, rfl⟩ fl_X10_313 (x := x273) ⟨rfl, rfl⟩ dX10_readAll_191 (fun _ locs hH hS _ => ?_)
                have hH : Hd D tA b 78 52 zz (up2 ir269 78 52 x273) Fr269 Gr269 _ := hH
                refine lv_iload (pc := 194) C0.1 C0.2.1 dX10_readAll_194 (lv_at hl 0 rfl) ?_
                refine lv_if_eq (pc := 196) (tgt := 203) C0.1 C0.2.1 dX10_readAll_196 (by decide) (fun c => absurd c (by decide)) (fun _ => ?_)
                refine lv_iconst (pc := 199) (v := 0) C0.1 C0.2.1 dX10_readAll_199 (by decide) ?_
                refine lv_goto (pc := 200) (tgt := 209) C0.1 C0.2.1 dX10_readAll_200 (by decide) ?_
                refine lv_istore_n (pc := 209) (lv' := [(3, .int 0), (5, .int 1), (4, .int q), (0, .ref (b + 78)), (2, .int y)]) C0.1 C0.2.1 dX10_readAll_209 rfl hl (by decide) rfl (fun ls hl => ?_)
                obtain ⟨x274, ex274⟩ : ∃ y_ : Int32, y_ = q + 1 := ⟨_, rfl⟩
                have : Int32.toInt 1 = 1 := rfl
                have hx274 : Int32.toInt x274 = Int32.toInt q + Int32.toInt 1 := by rw [ex274]; exact fb_addI (by omega) (by omega)
                refine lv_iinc (pc := 210) (v := x274) (lv' := [(4, .int x274), (3, .int 0), (5, .int 1), (0, .ref (b + 78)), (2, .int y)]) C0.1 C0.2.1 dX10_readAll_210 hl (k := 2) rfl (by rw [ex274]; rfl) (by decide) rfl (fun ls hl => ?_)
                refine lv_goto (pc := 213) (tgt := 80) C0.1 C0.2.1 dX10_readAll_213 (by decide) ?_
                exact ih80 x274 0 (up2 ir269 78 52 x273) Fr269 Gr269 _ _ _ (RO.i (RO.tr (RO.f h1 (by decide)) honr269 (by decide) (by decide)) (by decide)) hT hTK hPI hCB (show Int32.toInt (ir269 78 18) = _ from by omega) hi_78_17 (fun w => PMm.one (hP1 w) (by decide)) (show 0 ≤ Int32.toInt x274 ∧ Int32.toInt x274 ≤ Int32.toInt (ir269 78 19) from by omega) (show Int32.toInt (ir269 78 19) - Int32.toInt x274 ≤ _ from by omega) (fun _ => by omega) (show (1 ≤ Int32.toInt (ir269 78 32) ∧ Int32.toInt (ir269 78 32) ≤ 1 + 2 * Int32.toInt x274) ∧ Int32.toInt (ir269 78 40) ≤ 2 * Int32.toInt x274 ∧ Int32.toInt (ir269 78 47) ≤ 3 * Int32.toInt x274 + 1 from by omega) (fun w => absurd w (by omega)) (Or.inl (by omega)) hH hS (lv_sub hl [0, 1, 3, 4] rfl)
            · have : Int32.toInt 0 = 0 := rfl
              have c268 : ¬ _ := fun q => c268 (Int32.toInt_inj.mp q)
              refine lv_iload (pc := 132) C0.1 C0.2.1 dX10_readAll_132 (lv_at hl 0 rfl) ?_
              refine lv_if_ne (pc := 134) (tgt := 157) C0.1 C0.2.1 dX10_readAll_134 (by decide) (fun _ => ?_) (fun c => absurd c (by decide))
              refine lv_iconst (pc := 157) (v := 0) C0.1 C0.2.1 dX10_readAll_157 (by decide) ?_
              refine xzast (pc := 158) (N := 600) C0 (Nat.le_of_ble_eq_true rfl) hH hS 93 ⟨Nat.le_of_ble_eq_true rfl, Nat.le_of_ble_eq_true rfl⟩ ⟨rfl, rfl⟩ (by decide) (vI (by omega) (by omega)) dX10_readAll_158 (fun _ locs hH hS => ?_)
              have hH : Hd D tA b 78 52 zz iv (va_up Fv 93 (upd (Fv 93) (Int32.toNatClampNeg q) 0)) Gv _ := hH
              have hq0 : 0 < q.toInt := by
                rcases Int.lt_or_le 0 q.toInt with w | w
                · exact w
                · exfalso
                  have q0 : q.toInt = 0 := (by omega)
                  have qc := clI (x := q) (by omega)
                  have qn : Int32.toNatClampNeg q = 0 := (by omega)
                  first
                  | (have w1 : Int32.toInt (Fv 93 (Int32.toNatClampNeg q)) = Int32.toInt 0 := (by assumption); rw [qn, h13 q0 (by omega)] at w1; exact absurd w1 (by decide))
                  | (have w1 : Int32.toInt (Fv 98 (Int32.toNatClampNeg r229)) = Int32.toInt 4 := (by assumption); have w2 := htzr229 (by omega); rw [w2, show Int32.toNatClampNeg 0 = 0 from rfl, hP.2.2.2.1] at w1; exact absurd w1 (by decide))
                  | (have : Int32.toInt 0 = 0 := rfl; omega)
              have hd : 0 < q.toInt ∨ (va_up Fv 93 (upd (Fv 93) (Int32.toNatClampNeg q) 0)) 93 (Int32.toNatClampNeg q) = 1 := Or.inl hq0
              have hhw := h11
              have hTK : TKm iv (va_up Fv 93 (upd (Fv 93) (Int32.toNatClampNeg q) 0)) := hTK
              refine lv_aload_n (pc := 159) C0.1 C0.2.1 dX10_readAll_159 rfl (lv_at hl 3 rfl) ?_
              refine lv_iload (pc := 160) C0.1 C0.2.1 dX10_readAll_160 (lv_at hl 1 rfl) ?_
              refine lv_iload_n (pc := 162) C0.1 C0.2.1 dX10_readAll_162 rfl (lv_at hl 2 rfl) ?_
              refine xcVV (pc := 163) 78 [.int q, .int hw] (m_take l D tA b iv (va_up Fv 93 (upd (Fv 93) (Int32.toNatClampNeg q) 0)) Gv q hw hT hP hTK hPI hBR (show 0 < Int32.toInt q ∨ Int32.toInt (iv 78 51) = 1 from by omega) (show 0 ≤ Int32.toInt q ∧ Int32.toInt q < Int32.toInt (iv 78 19) from by omega) hd hhw (show Int32.toInt (iv 78 32) + 2 ≤ 1202 from by omega) (show Int32.toInt (iv 78 40) + 2 ≤ 1202 from by omega) (show Int32.toInt (iv 78 47) + 3 ≤ 1802 from by omega) (show Int32.toInt (iv 78 30) = 0 from by omega)) C0 hH hS clX10 rfl ⟨⟨Nat.le_of_ble_eq_true rfl, Nat.le_of_ble_eq_true rfl⟩, rfl, rfl⟩ cw_X10_340 rfl ⟨Nat.le_of_ble_eq_true rfl, Nat.le_of_ble_eq_true rfl⟩ hl.1 rfl (Nat.le_of_ble_eq_true rfl) dX10_readAll_163 ⟨Nat.le_of_ble_eq_true rfl, Nat.le_of_ble_eq_true rfl⟩ (fun ir275 Fr275 Gr275 _ locs hp hH hS => ?_)
              obtain ⟨honr275, hT, hPI, hP1, hcr275, hblr275⟩ := hp
              have hT : TMm ir275 Fr275 := hT
              have hPI : PLI ir275 := hPI
              have hP1 : (ir275 78 30).toInt = 0 → PMm 1 ir275 Fr275 := hP1
              have hcr275 : (ir275 78 32).toInt ≤ Int32.toInt (iv 78 32) + 2 ∧ (ir275 78 40).toInt ≤ Int32.toInt (iv 78 40) + 2 ∧ (ir275 78 47).toInt ≤ Int32.toInt (iv 78 47) + 3 := hcr275
              have hblr275 : Int32.toInt (iv 78 32) ≤ (ir275 78 32).toInt := hblr275
              have hTL := TMm.lin hT
              have hTK : TKm ir275 Fr275 := TKm.ro (i := iv) (F := (va_up Fv 93 (upd (Fv 93) (Int32.toNatClampNeg q) 0))) hTK honr275 (by decide)
              have hBR : BR ir275 := BR.ro (i := iv) (F := (va_up Fv 93 (upd (Fv 93) (Int32.toNatClampNeg q) 0))) hBR honr275 (by decide)
              have hCB : CB Fr275 := CB.ro (F := (va_up Fv 93 (upd (Fv 93) (Int32.toNatClampNeg q) 0))) hCB honr275 (by decide)
              have hi_78_17 : ir275 78 17 = nI 86 := (honr275.1 78 17 (Or.inr (by decide))).trans hi_78_17
              have ek_19r275 : Int32.toInt (ir275 78 19) = Int32.toInt (iv 78 19) := congrArg Int32.toInt (honr275.1 78 19 (Or.inr (by decide)))
              have ek_18r275 : Int32.toInt (ir275 78 18) = Int32.toInt (iv 78 18) := congrArg Int32.toInt (honr275.1 78 18 (Or.inr (by decide)))
              have hTKl := hTK.1
              refine lv_aload_n (pc := 166) C0.1 C0.2.1 dX10_readAll_166 rfl (lv_at hl 3 rfl) ?_
              refine lv_aload_n (pc := 167) C0.1 C0.2.1 dX10_readAll_167 rfl (lv_at hl 3 rfl) ?_
              refine xget (pc := 168) C0 hH 78 25 clX10 ⟨Nat.le_of_ble_eq_true rfl, Nat.le_of_ble_eq_true rfl⟩ ⟨rfl, rfl⟩ (Nat.le_of_ble_eq_true rfl) fl_X10_57 (v := .ref (b + 93)) rfl dX10_readAll_168 ?_
              refine lv_iload (pc := 171) C0.1 C0.2.1 dX10_readAll_171 (lv_at hl 1 rfl) ?_
              refine xzald (pc := 173) (N := 600) C0 hH 93 ⟨Nat.le_of_ble_eq_true rfl, Nat.le_of_ble_eq_true rfl⟩ ⟨rfl, rfl⟩ (vI (by omega) (by omega)) dX10_readAll_173 ?_
              refine lv_if_eq (pc := 174) (tgt := 187) C0.1 C0.2.1 dX10_readAll_174 (by decide) (fun c276 => ?_) (fun c276 => ?_)
              · have : Int32.toInt 0 = 0 := rfl
                have c276 := congrArg Int32.toInt c276
                refine lv_aload_n (pc := 187) C0.1 C0.2.1 dX10_readAll_187 rfl (lv_at hl 3 rfl) ?_
                refine xget (pc := 188) C0 hH 78 52 clX10 ⟨Nat.le_of_ble_eq_true rfl, Nat.le_of_ble_eq_true rfl⟩ ⟨rfl, rfl⟩ (Nat.le_of_ble_eq_true rfl) fl_X10_313 (v := .int (ir275 78 52)) rfl dX10_readAll_188 ?_
                refine lv_topi (fun x277 ex277 => ?_)
                refine xputI (pc := 191) C0 (Nat.le_of_ble_eq_true rfl) hH hS 78 52 clX10 ⟨Nat.le_of_ble_eq_true rfl, Nat.le_of_ble_eq_true rfl⟩ ⟨rfl, rfl⟩ ⟨Nat.le_of_ble_eq_true rfl, rfl, rfl⟩ fl_X10_313 (x := x277) ⟨rfl, rfl⟩ dX10_readAll_191 (fun _ locs hH hS _ => ?_)
                have hH : Hd D tA b 78 52 zz (up2 ir275 78 52 x277) Fr275 Gr275 _ := hH
                refine lv_iload (pc := 194) C0.1 C0.2.1 dX10_readAll_194 (lv_at hl 0 rfl) ?_
                refine lv_if_eq (pc := 196) (tgt := 203) C0.1 C0.2.1 dX10_readAll_196 (by decide) (fun c => absurd c (by decide)) (fun _ => ?_)
                refine lv_iconst (pc := 199) (v := 0) C0.1 C0.2.1 dX10_readAll_199 (by decide) ?_
                refine lv_goto (pc := 200) (tgt := 209) C0.1 C0.2.1 dX10_readAll_200 (by decide) ?_
                refine lv_istore_n (pc := 209) (lv' := [(3, .int 0), (5, .int 1), (4, .int q), (0, .ref (b + 78)), (2, .int y)]) C0.1 C0.2.1 dX10_readAll_209 rfl hl (by decide) rfl (fun ls hl => ?_)
                obtain ⟨x278, ex278⟩ : ∃ y_ : Int32, y_ = q + 1 := ⟨_, rfl⟩
                have : Int32.toInt 1 = 1 := rfl
                have hx278 : Int32.toInt x278 = Int32.toInt q + Int32.toInt 1 := by rw [ex278]; exact fb_addI (by omega) (by omega)
                refine lv_iinc (pc := 210) (v := x278) (lv' := [(4, .int x278), (3, .int 0), (5, .int 1), (0, .ref (b + 78)), (2, .int y)]) C0.1 C0.2.1 dX10_readAll_210 hl (k := 2) rfl (by rw [ex278]; rfl) (by decide) rfl (fun ls hl => ?_)
                refine lv_goto (pc := 213) (tgt := 80) C0.1 C0.2.1 dX10_readAll_213 (by decide) ?_
                exact ih80 x278 0 (up2 ir275 78 52 x277) Fr275 Gr275 _ _ _ (RO.i (RO.tr (RO.f h1 (by decide)) honr275 (by decide) (by decide)) (by decide)) hT hTK hPI hCB (show Int32.toInt (ir275 78 18) = _ from by omega) hi_78_17 (fun w => PMm.one (hP1 w) (by decide)) (show 0 ≤ Int32.toInt x278 ∧ Int32.toInt x278 ≤ Int32.toInt (ir275 78 19) from by omega) (show Int32.toInt (ir275 78 19) - Int32.toInt x278 ≤ _ from by omega) (fun _ => by omega) (show (1 ≤ Int32.toInt (ir275 78 32) ∧ Int32.toInt (ir275 78 32) ≤ 1 + 2 * Int32.toInt x278) ∧ Int32.toInt (ir275 78 40) ≤ 2 * Int32.toInt x278 ∧ Int32.toInt (ir275 78 47) ≤ 3 * Int32.toInt x278 + 1 from by omega) (fun w => absurd w (by omega)) (Or.inl (by omega)) hH hS (lv_sub hl [0, 1, 3, 4] rfl)
              · have : Int32.toInt 0 = 0 := rfl
                have c276 : ¬ _ := fun q => c276 (Int32.toInt_inj.mp q)
                refine lv_aload_n (pc := 177) C0.1 C0.2.1 dX10_readAll_177 rfl (lv_at hl 3 rfl) ?_
                refine xget (pc := 178) C0 hH 78 24 clX10 ⟨Nat.le_of_ble_eq_true rfl, Nat.le_of_ble_eq_true rfl⟩ ⟨rfl, rfl⟩ (Nat.le_of_ble_eq_true rfl) fl_X10_54 (v := .ref (b + 92)) rfl dX10_readAll_178 ?_
                refine lv_iload (pc := 181) C0.1 C0.2.1 dX10_readAll_181 (lv_at hl 1 rfl) ?_
                refine xiald (pc := 183) (N := 600) C0 hH 92 ⟨Nat.le_of_ble_eq_true rfl, Nat.le_of_ble_eq_true rfl⟩ ⟨rfl, rfl⟩ (vI (by omega) (by omega)) dX10_readAll_183 ?_
                refine lv_goto (pc := 184) (tgt := 191) C0.1 C0.2.1 dX10_readAll_184 (by decide) ?_
                refine lv_topi (fun x279 ex279 => ?_)
                refine xputI (pc := 191) C0 (Nat.le_of_ble_eq_true rfl) hH hS 78 52 clX10 ⟨Nat.le_of_ble_eq_true rfl, Nat.le_of_ble_eq_true rfl⟩ ⟨rfl, rfl⟩ ⟨Nat.le_of_ble_eq_true rfl, rfl, rfl⟩ fl_X10_313 (x := x279) ⟨rfl, rfl⟩ dX10_readAll_191 (fun _ locs hH hS _ => ?_)
                have hH : Hd D tA b 78 52 zz (up2 ir275 78 52 x279) Fr275 Gr275 _ := hH
                refine lv_iload (pc := 194) C0.1 C0.2.1 dX10_readAll_194 (lv_at hl 0 rfl) ?_
                refine lv_if_eq (pc := 196) (tgt := 203) C0.1 C0.2.1 dX10_readAll_196 (by decide) (fun c => absurd c (by decide)) (fun _ => ?_)
                refine lv_iconst (pc := 199) (v := 0) C0.1 C0.2.1 dX10_readAll_199 (by decide) ?_
                refine lv_goto (pc := 200) (tgt := 209) C0.1 C0.2.1 dX10_readAll_200 (by decide) ?_
                refine lv_istore_n (pc := 209) (lv' := [(3, .int 0), (5, .int 1), (4, .int q), (0, .ref (b + 78)), (2, .int y)]) C0.1 C0.2.1 dX10_readAll_209 rfl hl (by decide) rfl (fun ls hl => ?_)
                obtain ⟨x280, ex280⟩ : ∃ y_ : Int32, y_ = q + 1 := ⟨_, rfl⟩
                have : Int32.toInt 1 = 1 := rfl
                have hx280 : Int32.toInt x280 = Int32.toInt q + Int32.toInt 1 := by rw [ex280]; exact fb_addI (by omega) (by omega)
                refine lv_iinc (pc := 210) (v := x280) (lv' := [(4, .int x280), (3, .int 0), (5, .int 1), (0, .ref (b + 78)), (2, .int y)]) C0.1 C0.2.1 dX10_readAll_210 hl (k := 2) rfl (by rw [ex280]; rfl) (by decide) rfl (fun ls hl => ?_)
                refine lv_goto (pc := 213) (tgt := 80) C0.1 C0.2.1 dX10_readAll_213 (by decide) ?_
                exact ih80 x280 0 (up2 ir275 78 52 x279) Fr275 Gr275 _ _ _ (RO.i (RO.tr (RO.f h1 (by decide)) honr275 (by decide) (by decide)) (by decide)) hT hTK hPI hCB (show Int32.toInt (ir275 78 18) = _ from by omega) hi_78_17 (fun w => PMm.one (hP1 w) (by decide)) (show 0 ≤ Int32.toInt x280 ∧ Int32.toInt x280 ≤ Int32.toInt (ir275 78 19) from by omega) (show Int32.toInt (ir275 78 19) - Int32.toInt x280 ≤ _ from by omega) (fun _ => by omega) (show (1 ≤ Int32.toInt (ir275 78 32) ∧ Int32.toInt (ir275 78 32) ≤ 1 + 2 * Int32.toInt x280) ∧ Int32.toInt (ir275 78 40) ≤ 2 * Int32.toInt x280 ∧ Int32.toInt (ir275 78 47) ≤ 3 * Int32.toInt x280 + 1 from by omega) (fun w => absurd w (by omega)) (Or.inl (by omega)) hH hS (lv_sub hl [0, 1, 3, 4] rfl)
  refine lv_aload_n (pc := 0) C0.1 C0.2.1 dX10_readAll_0 rfl (lv_at hl 0 rfl) ?_
  refine lv_aload_n (pc := 1) C0.1 C0.2.1 dX10_readAll_1 rfl (lv_at hl 1 rfl) ?_
  refine xputR (pc := 2) C0 (Nat.le_of_ble_eq_true rfl) hH hS 78 17 86 clX10 ⟨Nat.le_of_ble_eq_true rfl, Nat.le_of_ble_eq_true rfl⟩ ⟨rfl, rfl⟩ ⟨Nat.le_of_ble_eq_true rfl, rfl, rfl⟩ (by decide) fl_X10_39 (fun q => ⟨rfl, rfl⟩) dX10_readAll_2 (fun _ locs hH hS _ => ?_)
  rw [upz_zz] at hH
  have hH : Hd D tA b 78 52 zz (up2 i 78 17 (nI 86)) F G _ := hH
  refine lv_aload_n (pc := 5) C0.1 C0.2.1 dX10_readAll_5 rfl (lv_at hl 0 rfl) ?_
  refine lv_iload_n (pc := 6) C0.1 C0.2.1 dX10_readAll_6 rfl (lv_at hl 2 rfl) ?_
  refine xputI (pc := 7) C0 (Nat.le_of_ble_eq_true rfl) hH hS 78 18 clX10 ⟨Nat.le_of_ble_eq_true rfl, Nat.le_of_ble_eq_true rfl⟩ ⟨rfl, rfl⟩ ⟨Nat.le_of_ble_eq_true rfl, rfl, rfl⟩ fl_X10_251 (x := y) ⟨rfl, rfl⟩ dX10_readAll_7 (fun _ locs hH hS _ => ?_)
  have hH : Hd D tA b 78 52 zz (up2 (up2 i 78 17 (nI 86)) 78 18 y) F G _ := hH
  refine lv_aload_n (pc := 10) C0.1 C0.2.1 dX10_readAll_10 rfl (lv_at hl 0 rfl) ?_
  refine lv_iconst (pc := 11) (v := 0) C0.1 C0.2.1 dX10_readAll_11 (by decide) ?_
  refine xputI (pc := 12) C0 (Nat.le_of_ble_eq_true rfl) hH hS 78 30 clX10 ⟨Nat.le_of_ble_eq_true rfl, Nat.le_of_ble_eq_true rfl⟩ ⟨rfl, rfl⟩ ⟨Nat.le_of_ble_eq_true rfl, rfl, rfl⟩ fl_X10_245 (x := 0) ⟨rfl, rfl⟩ dX10_readAll_12 (fun _ locs hH hS _ => ?_)
  have hH : Hd D tA b 78 52 zz (up2 (up2 (up2 i 78 17 (nI 86)) 78 18 y) 78 30 0) F G _ := hH
  refine lv_aload_n (pc := 15) C0.1 C0.2.1 dX10_readAll_15 rfl (lv_at hl 0 rfl) ?_
  refine lv_bipush (pc := 16) (v := (-9)) C0.1 C0.2.1 dX10_readAll_16 (by decide) ?_
  refine xputI (pc := 18) C0 (Nat.le_of_ble_eq_true rfl) hH hS 78 31 clX10 ⟨Nat.le_of_ble_eq_true rfl, Nat.le_of_ble_eq_true rfl⟩ ⟨rfl, rfl⟩ ⟨Nat.le_of_ble_eq_true rfl, rfl, rfl⟩ fl_X10_248 (x := (-9)) ⟨rfl, rfl⟩ dX10_readAll_18 (fun _ locs hH hS _ => ?_)
  have hH : Hd D tA b 78 52 zz (up2 (up2 (up2 (up2 i 78 17 (nI 86)) 78 18 y) 78 30 0) 78 31 (-9)) F G _ := hH
  refine lv_aload_n (pc := 21) C0.1 C0.2.1 dX10_readAll_21 rfl (lv_at hl 0 rfl) ?_
  refine lv_iconst (pc := 22) (v := 0) C0.1 C0.2.1 dX10_readAll_22 (by decide) ?_
  refine xputI (pc := 23) C0 (Nat.le_of_ble_eq_true rfl) hH hS 78 32 clX10 ⟨Nat.le_of_ble_eq_true rfl, Nat.le_of_ble_eq_true rfl⟩ ⟨rfl, rfl⟩ ⟨Nat.le_of_ble_eq_true rfl, rfl, rfl⟩ fl_X10_281 (x := 0) ⟨rfl, rfl⟩ dX10_readAll_23 (fun _ locs hH hS _ => ?_)
  have hH : Hd D tA b 78 52 zz (up2 (up2 (up2 (up2 (up2 i 78 17 (nI 86)) 78 18 y) 78 30 0) 78 31 (-9)) 78 32 0) F G _ := hH
  refine lv_aload_n (pc := 26) C0.1 C0.2.1 dX10_readAll_26 rfl (lv_at hl 0 rfl) ?_
  refine lv_iconst (pc := 27) (v := 0) C0.1 C0.2.1 dX10_readAll_27 (by decide) ?_
  refine xputI (pc := 28) C0 (Nat.le_of_ble_eq_true rfl) hH hS 78 40 clX10 ⟨Nat.le_of_ble_eq_true rfl, Nat.le_of_ble_eq_true rfl⟩ ⟨rfl, rfl⟩ ⟨Nat.le_of_ble_eq_true rfl, rfl, rfl⟩ fl_X10_287 (x := 0) ⟨rfl, rfl⟩ dX10_readAll_28 (fun _ locs hH hS _ => ?_)
  have hH : Hd D tA b 78 52 zz (up2 (up2 (up2 (up2 (up2 (up2 i 78 17 (nI 86)) 78 18 y) 78 30 0) 78 31 (-9)) 78 32 0) 78 40 0) F G _ := hH
  refine lv_aload_n (pc := 31) C0.1 C0.2.1 dX10_readAll_31 rfl (lv_at hl 0 rfl) ?_
  refine lv_iconst (pc := 32) (v := 0) C0.1 C0.2.1 dX10_readAll_32 (by decide) ?_
  refine xputI (pc := 33) C0 (Nat.le_of_ble_eq_true rfl) hH hS 78 47 clX10 ⟨Nat.le_of_ble_eq_true rfl, Nat.le_of_ble_eq_true rfl⟩ ⟨rfl, rfl⟩ ⟨Nat.le_of_ble_eq_true rfl, rfl, rfl⟩ fl_X10_290 (x := 0) ⟨rfl, rfl⟩ dX10_readAll_33 (fun _ locs hH hS _ => ?_)
  have hH : Hd D tA b 78 52 zz (up2 (up2 (up2 (up2 (up2 (up2 (up2 i 78 17 (nI 86)) 78 18 y) 78 30 0) 78 31 (-9)) 78 32 0) 78 40 0) 78 47 0) F G _ := hH
  have hi_78_17 : (up2 (up2 (up2 (up2 (up2 (up2 (up2 i 78 17 (nI 86)) 78 18 y) 78 30 0) 78 31 (-9)) 78 32 0) 78 40 0) 78 47 0) 78 17 = nI 86 := rfl
  have hPI : PLI (up2 (up2 (up2 (up2 (up2 (up2 (up2 i 78 17 (nI 86)) 78 18 y) 78 30 0) 78 31 (-9)) 78 32 0) 78 40 0) 78 47 0) := Or.inl rfl
  refine lv_aload_n (pc := 36) C0.1 C0.2.1 dX10_readAll_36 rfl (lv_at hl 0 rfl) ?_
  refine xcVV (pc := 37) 78 [] (m_measure_86 l D tA b (up2 (up2 (up2 (up2 (up2 (up2 (up2 i 78 17 (nI 86)) 78 18 y) 78 30 0) 78 31 (-9)) 78 32 0) 78 40 0) 78 47 0) F G hi_78_17 (show 0 ≤ Int32.toInt y ∧ Int32.toInt y ≤ 600 from by omega) (show 0 ≤ Int32.toInt (i 78 10) ∧ Int32.toInt (i 78 10) ≤ 8 from by omega) hCB) C0 hH hS clX10 rfl ⟨⟨Nat.le_of_ble_eq_true rfl, Nat.le_of_ble_eq_true rfl⟩, rfl, rfl⟩ cw_X10_330 rfl ⟨Nat.le_of_ble_eq_true rfl, Nat.le_of_ble_eq_true rfl⟩ hl.1 rfl (Nat.le_of_ble_eq_true rfl) dX10_readAll_37 ⟨Nat.le_of_ble_eq_true rfl, Nat.le_of_ble_eq_true rfl⟩ (fun ir1 Fr1 Gr1 _ locs hp hH hS => ?_)
  obtain ⟨honr1, hCB⟩ := hp
  have hCB : CB Fr1 := hCB
  have hWA : WA Fr1 := WA.ro (i := (up2 (up2 (up2 (up2 (up2 (up2 (up2 i 78 17 (nI 86)) 78 18 y) 78 30 0) 78 31 (-9)) 78 32 0) 78 40 0) 78 47 0)) (F := F) hWA honr1 (by decide)
  have hPI : PLI ir1 := PLI.ro (i := (up2 (up2 (up2 (up2 (up2 (up2 (up2 i 78 17 (nI 86)) 78 18 y) 78 30 0) 78 31 (-9)) 78 32 0) 78 40 0) 78 47 0)) (F := F) hPI honr1 (by decide)
  have hTA : TA (Fr1 89) (Fr1 90) := by rw [show Fr1 89 = F 89 from (honr1.2 89 (by decide)).1, show Fr1 90 = F 90 from (honr1.2 90 (by decide)).1]; exact hTA
  have hBR : BR ir1 := BR.ro (i := (up2 (up2 (up2 (up2 (up2 (up2 (up2 i 78 17 (nI 86)) 78 18 y) 78 30 0) 78 31 (-9)) 78 32 0) 78 40 0) 78 47 0)) (F := F) hBR honr1 (by decide)
  have hi_78_17 : ir1 78 17 = nI 86 := (honr1.1 78 17 (Or.inr (by decide))).trans hi_78_17
  have ek_32r1 : Int32.toInt (ir1 78 32) = Int32.toInt 0 := congrArg Int32.toInt (honr1.1 78 32 (Or.inr (by decide)))
  have ek_40r1 : Int32.toInt (ir1 78 40) = Int32.toInt 0 := congrArg Int32.toInt (honr1.1 78 40 (Or.inr (by decide)))
  have ek_47r1 : Int32.toInt (ir1 78 47) = Int32.toInt 0 := congrArg Int32.toInt (honr1.1 78 47 (Or.inr (by decide)))
  have ek_51r1 : Int32.toInt (ir1 78 51) = Int32.toInt (i 78 51) := congrArg Int32.toInt (honr1.1 78 51 (Or.inr (by decide)))
  have ek_19r1 : Int32.toInt (ir1 78 19) = Int32.toInt (i 78 19) := congrArg Int32.toInt (honr1.1 78 19 (Or.inr (by decide)))
  have ek_18r1 : Int32.toInt (ir1 78 18) = Int32.toInt y := congrArg Int32.toInt (honr1.1 78 18 (Or.inr (by decide)))
  have ek_30r1 : Int32.toInt (ir1 78 30) = Int32.toInt 0 := congrArg Int32.toInt (honr1.1 78 30 (Or.inr (by decide)))
  refine lv_aload_n (pc := 40) C0.1 C0.2.1 dX10_readAll_40 rfl (lv_at hl 0 rfl) ?_
  refine xcVI (pc := 41) 78 [] (m_cutUp_86 l D tA b ir1 Fr1 Gr1 hi_78_17 (show 0 ≤ Int32.toInt (ir1 78 18) ∧ Int32.toInt (ir1 78 18) ≤ 600 from by omega) hTA hCB hPI) C0 hH hS clX10 rfl ⟨⟨Nat.le_of_ble_eq_true rfl, Nat.le_of_ble_eq_true rfl⟩, rfl, rfl⟩ cw_X10_333 rfl ⟨Nat.le_of_ble_eq_true rfl, Nat.le_of_ble_eq_true rfl⟩ hl.1 rfl (Nat.le_of_ble_eq_true rfl) dX10_readAll_41 ⟨Nat.le_of_ble_eq_true rfl, Nat.le_of_ble_eq_true rfl⟩ (fun r2 ir2 Fr2 Gr2 _ locs hp hH hS => ?_)
  obtain ⟨honr2, hTK, hHD, hPI, h01r2, hplr2⟩ := hp
  have hTK : TKm ir2 Fr2 := hTK
  have hHD : HD ir2 Fr2 := hHD
  have hPI : PLI ir2 := hPI
  have hTKl := hTK.1
  have hCB : CB Fr2 := CB.ro (F := Fr1) hCB honr2 (by decide)
  have hWA : WA Fr2 := WA.ro (i := ir1) (F := Fr1) hWA honr2 (by decide)
  have z32 : ir2 78 32 = 0 := (honr2.1 78 32 (Or.inr (by decide))).trans (honr1.1 78 32 (Or.inr (by decide)))
  have z40 : ir2 78 40 = 0 := (honr2.1 78 40 (Or.inr (by decide))).trans (honr1.1 78 40 (Or.inr (by decide)))
  have z47 : ir2 78 47 = 0 := (honr2.1 78 47 (Or.inr (by decide))).trans (honr1.1 78 47 (Or.inr (by decide)))
  have hT : TMm ir2 Fr2 := TMm.zero hWA z32 z40 z47
  have hTL := TMm.lin hT
  have hBR : BR ir2 := BR.ro (i := ir1) (F := Fr1) hBR honr2 (by decide)
  have hi_78_17 : ir2 78 17 = nI 86 := (honr2.1 78 17 (Or.inr (by decide))).trans hi_78_17
  have ek_32r2 : Int32.toInt (ir2 78 32) = Int32.toInt (ir1 78 32) := congrArg Int32.toInt (honr2.1 78 32 (Or.inr (by decide)))
  have ek_40r2 : Int32.toInt (ir2 78 40) = Int32.toInt (ir1 78 40) := congrArg Int32.toInt (honr2.1 78 40 (Or.inr (by decide)))
  have ek_47r2 : Int32.toInt (ir2 78 47) = Int32.toInt (ir1 78 47) := congrArg Int32.toInt (honr2.1 78 47 (Or.inr (by decide)))
  have ek_51r2 : Int32.toInt (ir2 78 51) = Int32.toInt (ir1 78 51) := congrArg Int32.toInt (honr2.1 78 51 (Or.inr (by decide)))
  have ek_18r2 : Int32.toInt (ir2 78 18) = Int32.toInt (ir1 78 18) := congrArg Int32.toInt (honr2.1 78 18 (Or.inr (by decide)))
  have hTKl := hTK.1
  refine lv_if_ne (pc := 44) (tgt := 49) C0.1 C0.2.1 dX10_readAll_44 (by decide) (fun c3 => ?_) (fun c3 => ?_)
  · have : Int32.toInt 0 = 0 := rfl
    have c3 : ¬ _ := fun q => c3 (Int32.toInt_inj.mp q)
    refine lv_aload_n (pc := 49) C0.1 C0.2.1 dX10_readAll_49 rfl (lv_at hl 0 rfl) ?_
    refine xget (pc := 50) C0 hH 78 50 clX10 ⟨Nat.le_of_ble_eq_true rfl, Nat.le_of_ble_eq_true rfl⟩ ⟨rfl, rfl⟩ (Nat.le_of_ble_eq_true rfl) fl_X10_118 (v := .ref (b + 113)) rfl dX10_readAll_50 ?_
    refine lv_iconst (pc := 53) (v := 0) C0.1 C0.2.1 dX10_readAll_53 (by decide) ?_
    refine lv_aload_n (pc := 54) C0.1 C0.2.1 dX10_readAll_54 rfl (lv_at hl 0 rfl) ?_
    refine lv_iconst (pc := 55) (v := 0) C0.1 C0.2.1 dX10_readAll_55 (by decide) ?_
    refine lv_iconst (pc := 56) (v := 0) C0.1 C0.2.1 dX10_readAll_56 (by decide) ?_
    refine lv_bipush (pc := 57) (v := (-9)) C0.1 C0.2.1 dX10_readAll_57 (by decide) ?_
    refine lv_bipush (pc := 59) (v := (-9)) C0.1 C0.2.1 dX10_readAll_59 (by decide) ?_
    refine xcVI (pc := 61) 78 [.int 0, .int 0, .int (-9), .int (-9)] (m_newBlock l D tA b ir2 Fr2 Gr2 0 0 (-9) (-9) hT (show Int32.toInt (ir2 78 32) < 1202 from by omega) (show Int32.toInt (ir2 78 47) < 1802 from by omega) (show (Int32.toInt (ir2 78 32) = 0 ∧ Int32.toInt (-9) = -9) ∨ (1 ≤ Int32.toInt (ir2 78 32) ∧ (0 ≤ Int32.toInt (-9) ∧ Int32.toInt (-9) < Int32.toInt (ir2 78 40)) ∧ 0 ≤ Int32.toInt (-9) ∧ Int32.toInt (-9) < 600) from by have : Int32.toInt (-9) = -9 := rfl; omega)) C0 hH hS clX10 rfl ⟨⟨Nat.le_of_ble_eq_true rfl, Nat.le_of_ble_eq_true rfl⟩, rfl, rfl⟩ cw_X10_299 rfl ⟨Nat.le_of_ble_eq_true rfl, Nat.le_of_ble_eq_true rfl⟩ hl.1 rfl (Nat.le_of_ble_eq_true rfl) dX10_readAll_61 ⟨Nat.le_of_ble_eq_true rfl, Nat.le_of_ble_eq_true rfl⟩ (fun r4 ir4 Fr4 Gr4 _ locs hp hH hS => ?_)
    obtain ⟨honr4, hT, h32r4, h47r4, hrbr4, e98r4, e99r4, e102r4⟩ := hp
    have hT : TMm ir4 Fr4 := hT
    have h32r4 : (ir4 78 32).toInt = Int32.toInt (ir2 78 32) + 1 := h32r4
    have h47r4 : Int32.toInt (ir2 78 47) ≤ (ir4 78 47).toInt ∧ (ir4 78 47).toInt ≤ Int32.toInt (ir2 78 47) + 1 := h47r4
    have hrIr4 : Int32.toInt r4 = Int32.toInt (ir2 78 32) := congrArg Int32.toInt hrbr4
    have hTL := TMm.lin hT
    have hTK : TKm ir4 Fr4 := TKm.ro (i := ir2) (F := Fr2) hTK honr4 (by decide)
    have hPI : PLI ir4 := PLI.ro (i := ir2) (F := Fr2) hPI honr4 (by decide)
    have hBR : BR ir4 := BR.ro (i := ir2) (F := Fr2) hBR honr4 (by decide)
    have hCB : CB Fr4 := CB.ro (F := Fr2) hCB honr4 (by decide)
    have hi_78_17 : ir4 78 17 = nI 86 := (honr4.1 78 17 (Or.inr (by decide))).trans hi_78_17
    have ek_40r4 : Int32.toInt (ir4 78 40) = Int32.toInt (ir2 78 40) := congrArg Int32.toInt (honr4.1 78 40 (Or.inr (by decide)))
    have ek_51r4 : Int32.toInt (ir4 78 51) = Int32.toInt (ir2 78 51) := congrArg Int32.toInt (honr4.1 78 51 (Or.inr (by decide)))
    have ek_19r4 : Int32.toInt (ir4 78 19) = Int32.toInt (ir2 78 19) := congrArg Int32.toInt (honr4.1 78 19 (Or.inr (by decide)))
    have ek_18r4 : Int32.toInt (ir4 78 18) = Int32.toInt (ir2 78 18) := congrArg Int32.toInt (honr4.1 78 18 (Or.inr (by decide)))
    have ek_30r4 : Int32.toInt (ir4 78 30) = Int32.toInt (ir2 78 30) := congrArg Int32.toInt (honr4.1 78 30 (Or.inr (by decide)))
    have hTKl := hTK.1
    have : Int32.toInt 0 = 0 := rfl
    refine xiast (pc := 64) (N := 1202) C0 (Nat.le_of_ble_eq_true rfl) hH hS 113 ⟨Nat.le_of_ble_eq_true rfl, Nat.le_of_ble_eq_true rfl⟩ ⟨rfl, rfl⟩ (vI (by omega) (by omega)) dX10_readAll_64 (fun _ locs hH hS _ => ?_)
    have hH : Hd D tA b 78 52 zz ir4 (va_up Fr4 113 (upd (Fr4 113) (Int32.toNatClampNeg 0) r4)) Gr4 _ := hH
    refine lv_aload_n (pc := 65) C0.1 C0.2.1 dX10_readAll_65 rfl (lv_at hl 0 rfl) ?_
    refine lv_iconst (pc := 66) (v := 1) C0.1 C0.2.1 dX10_readAll_66 (by decide) ?_
    refine xputI (pc := 67) C0 (Nat.le_of_ble_eq_true rfl) hH hS 78 51 clX10 ⟨Nat.le_of_ble_eq_true rfl, Nat.le_of_ble_eq_true rfl⟩ ⟨rfl, rfl⟩ ⟨Nat.le_of_ble_eq_true rfl, rfl, rfl⟩ fl_X10_293 (x := 1) ⟨rfl, rfl⟩ dX10_readAll_67 (fun _ locs hH hS _ => ?_)
    have hH : Hd D tA b 78 52 zz (up2 ir4 78 51 1) (va_up Fr4 113 (upd (Fr4 113) (Int32.toNatClampNeg 0) r4)) Gr4 _ := hH
    refine lv_aload_n (pc := 70) C0.1 C0.2.1 dX10_readAll_70 rfl (lv_at hl 0 rfl) ?_
    refine lv_iconst (pc := 71) (v := (-1)) C0.1 C0.2.1 dX10_readAll_71 (by decide) ?_
    refine xputI (pc := 72) C0 (Nat.le_of_ble_eq_true rfl) hH hS 78 52 clX10 ⟨Nat.le_of_ble_eq_true rfl, Nat.le_of_ble_eq_true rfl⟩ ⟨rfl, rfl⟩ ⟨Nat.le_of_ble_eq_true rfl, rfl, rfl⟩ fl_X10_313 (x := (-1)) ⟨rfl, rfl⟩ dX10_readAll_72 (fun _ locs hH hS _ => ?_)
    have hH : Hd D tA b 78 52 zz (up2 (up2 ir4 78 51 1) 78 52 (-1)) (va_up Fr4 113 (upd (Fr4 113) (Int32.toNatClampNeg 0) r4)) Gr4 _ := hH
    refine lv_iconst (pc := 75) (v := 0) C0.1 C0.2.1 dX10_readAll_75 (by decide) ?_
    refine lv_istore_n (pc := 76) (lv' := [(3, .int 0), (0, .ref (b + 78)), (1, .ref (b + 86)), (2, .int y)]) C0.1 C0.2.1 dX10_readAll_76 rfl hl (by decide) rfl (fun ls hl => ?_)
    refine lv_iconst (pc := 77) (v := 0) C0.1 C0.2.1 dX10_readAll_77 (by decide) ?_
    refine lv_istore (pc := 78) (lv' := [(4, .int 0), (3, .int 0), (0, .ref (b + 78)), (1, .ref (b + 86)), (2, .int y)]) C0.1 C0.2.1 dX10_readAll_78 hl (by decide) rfl (fun ls hl => ?_)
    exact L80 600 0 0 (up2 (up2 ir4 78 51 1) 78 52 (-1)) (va_up Fr4 113 (upd (Fr4 113) (Int32.toNatClampNeg 0) r4)) Gr4 _ _ _ (RO.f (RO.i (RO.i (RO.tr (RO.tr (RO.tr (RO.i (RO.i (RO.i (RO.i (RO.i (RO.i (RO.i RO.rf (by decide)) (by decide)) (by decide)) (by decide)) (by decide)) (by decide)) (by decide)) honr1 (by decide) (by decide)) honr2 (by decide) (by decide)) honr4 (by decide) (by decide)) (by decide)) (by decide)) (by decide)) hT hTK hPI hCB (show (ir4 78 18).toInt = _ from by omega) hi_78_17 (fun _ => PMm.start rfl (show (ir4 78 32).toInt = 1 from by have : Int32.toInt 0 = 0 := rfl; have z1 := congrArg Int32.toInt z32; have z2 := congrArg Int32.toInt z40; have z3 := congrArg Int32.toInt z47; omega) (show upd (Fr4 113) (Int32.toNatClampNeg 0) r4 0 = 0 from (upd_s (n := 0)).trans (hrbr4.trans z32)) (show Fr4 98 0 = 0 from (congrFun e98r4 0).trans (by rw [z32]; exact upd_s (n := 0))) (show Fr4 99 0 = 0 from (congrFun e99r4 0).trans (by rw [z32]; exact upd_s (n := 0)))) (show 0 ≤ Int32.toInt 0 ∧ Int32.toInt 0 ≤ Int32.toInt (ir4 78 19) from by have : Int32.toInt 0 = 0 := rfl; have z1 := congrArg Int32.toInt z32; have z2 := congrArg Int32.toInt z40; have z3 := congrArg Int32.toInt z47; omega) (show Int32.toInt (ir4 78 19) - Int32.toInt 0 ≤ 600 from by have : Int32.toInt 0 = 0 := rfl; have z1 := congrArg Int32.toInt z32; have z2 := congrArg Int32.toInt z40; have z3 := congrArg Int32.toInt z47; omega) (fun w => absurd w (by decide)) (show (1 ≤ Int32.toInt (ir4 78 32) ∧ Int32.toInt (ir4 78 32) ≤ 1 + 2 * Int32.toInt 0) ∧ Int32.toInt (ir4 78 40) ≤ 2 * Int32.toInt 0 ∧ Int32.toInt (ir4 78 47) ≤ 3 * Int32.toInt 0 + 1 from by have : Int32.toInt 0 = 0 := rfl; have z1 := congrArg Int32.toInt z32; have z2 := congrArg Int32.toInt z40; have z3 := congrArg Int32.toInt z47; omega) (fun _ w => (congrFun (honr4.2 93 (by decide)).1 0).trans (hHD (by have w : 0 < Int32.toInt (ir4 78 19) := w; omega))) (Or.inr (fun _ => rfl)) hH hS (lv_sub hl [0, 1, 2, 4] rfl)
  · have : Int32.toInt 0 = 0 := rfl
    have c3 := congrArg Int32.toInt c3
    refine lv_iconst (pc := 47) (v := 0) C0.1 C0.2.1 dX10_readAll_47 (by decide) ?_
    exact xzret (pc := 48) C0 hr hH hS dX10_readAll_48 (by decide) ⟨(RO.tr (RO.tr (RO.i (RO.i (RO.i (RO.i (RO.i (RO.i (RO.i RO.rf (by decide)) (by decide)) (by decide)) (by decide)) (by decide)) (by decide)) (by decide)) honr1 (by decide) (by decide)) honr2 (by decide) (by decide)), hTK, hT, hCB, Or.inl rfl, (fun _ => hplr2 (by first | assumption | exact Int32.toInt_inj.mp (by assumption))), hi_78_17, Or.inr ⟨rfl, (congrArg Int32.toInt z32).trans rfl, (congrArg Int32.toInt z40).trans rfl, fun k h1 h2 => ((honr2.2 k (fun q => by simp only [List.mem_cons, List.not_mem_nil, or_false] at q; omega)).1.trans (honr1.2 k (fun q => by simp only [List.mem_cons, List.not_mem_nil, or_false] at q; omega)).1)⟩⟩
