set_option maxRecDepth 20000 in
theorem ac_long : Cond.arrayClass (newarray.typeOf .long) ∈ WALL := wm 62 (by decide +kernel) rfl
set_option maxRecDepth 20000 in
theorem ac_int : Cond.arrayClass (newarray.typeOf .int) ∈ WALL := wm 63 (by decide +kernel) rfl
set_option maxRecDepth 20000 in
theorem ac_byte : Cond.arrayClass (newarray.typeOf .byte) ∈ WALL := wm 80 (by decide +kernel) rfl
set_option maxRecDepth 20000 in
theorem ac_boolean : Cond.arrayClass (newarray.typeOf .boolean) ∈ WALL := wm 152 (by decide +kernel) rfl
set_option maxRecDepth 20000 in
theorem im_obj : Cond.instanceMethod objectInit ∈ WALL := wm 26 (by decide +kernel) rfl
set_option maxRecDepth 20000 in
theorem cd_obj : Cond.code objectInit ⟨#[0xb1]⟩ 1 none ∈ WALL := wm 27 rfl rfl
set_option maxRecDepth 20000 in
theorem ml_X9_3 : Cond.methodLink RX9 3 objectInit ∈ WALL := wm 25 (by decide +kernel) rfl
set_option maxRecDepth 20000 in
theorem cl_X9_9 : Cond.classLink RX9 9 RX1 ∈ WALL := wm 28 (by decide +kernel) rfl
set_option maxRecDepth 20000 in
theorem in_X1 : Cond.instantiable RX1 8 ∈ WALL := wm 29 (by decide +kernel) rfl
set_option maxRecDepth 20000 in
theorem it_X1 : Cond.initialized RX1 ∈ WALL := wm 2 (by decide +kernel) rfl
set_option maxRecDepth 20000 in
theorem clX1 : Cl 1 RX1 TX1 tyX1 8 := ⟨⟨rfl, inWs [45, 47, 49, 51, 53, 55, 57, 59] (by decide +kernel) (by decide +kernel)⟩, tyX1_ok, nmX1, by decide⟩
set_option maxRecDepth 20000 in
theorem cw_X9_11 : CwN RX9 "IndentReader" 11 yX1_init cX1_init 1 none 0 := ⟨nm_ 30 (by decide +kernel) rfl, wm 2 (by decide +kernel) rfl, wm 32 rfl rfl, by decide +kernel⟩
set_option maxRecDepth 20000 in
theorem im_X1_init : Cond.instanceMethod yX1_init ∈ WALL := wm 31 (by decide +kernel) rfl
set_option maxRecDepth 20000 in
theorem ml_X1_3 : Cond.methodLink RX1 3 objectInit ∈ WALL := wm 33 (by decide +kernel) rfl
set_option maxRecDepth 20000 in
theorem fl_X1_9 : Cond.fieldLink RX1 9 (TX1 0).1 (TX1 0).2.1 (TX1 0).2.2.1 ∈ WALL := wm 34 (by decide +kernel) rfl
set_option maxRecDepth 20000 in
theorem fl_X1_15 : Cond.fieldLink RX1 15 (TX1 1).1 (TX1 1).2.1 (TX1 1).2.2.1 ∈ WALL := wm 35 (by decide +kernel) rfl
set_option maxRecDepth 20000 in
theorem fl_X9_12 : Cond.fieldLink RX9 12 (TX9 0).1 (TX9 0).2.1 (TX9 0).2.2.1 ∈ WALL := wm 374 (by decide +kernel) rfl
set_option maxRecDepth 20000 in
theorem clX9 : Cl 9 RX9 TX9 tyX9 14 := ⟨⟨rfl, inWs [388, 390, 392, 394, 396, 398, 400, 402, 404, 406, 408, 410, 412, 414] (by decide +kernel) (by decide +kernel)⟩, tyX9_ok, nmX9, by decide⟩
set_option maxRecDepth 20000 in
theorem cl_X9_16 : Cond.classLink RX9 16 RX6 ∈ WALL := wm 64 (by decide +kernel) rfl
set_option maxRecDepth 20000 in
theorem in_X6 : Cond.instantiable RX6 2 ∈ WALL := wm 65 (by decide +kernel) rfl
set_option maxRecDepth 20000 in
theorem it_X6 : Cond.initialized RX6 ∈ WALL := wm 3 (by decide +kernel) rfl
set_option maxRecDepth 20000 in
theorem clX6 : Cl 6 RX6 TX6 tyX6 2 := ⟨⟨rfl, inWs [75, 77] (by decide +kernel) (by decide +kernel)⟩, tyX6_ok, nmX6, by decide⟩
set_option maxRecDepth 20000 in
theorem cw_X9_18 : CwN RX9 "IndentReader" 18 yX6_init cX6_init 1 none 0 := ⟨nm_ 66 (by decide +kernel) rfl, wm 3 (by decide +kernel) rfl, wm 68 rfl rfl, by decide +kernel⟩
set_option maxRecDepth 20000 in
theorem im_X6_init : Cond.instanceMethod yX6_init ∈ WALL := wm 67 (by decide +kernel) rfl
set_option maxRecDepth 20000 in
theorem ml_X6_3 : Cond.methodLink RX6 3 objectInit ∈ WALL := wm 69 (by decide +kernel) rfl
set_option maxRecDepth 20000 in
theorem fl_X6_9 : Cond.fieldLink RX6 9 (TX6 0).1 (TX6 0).2.1 (TX6 0).2.2.1 ∈ WALL := wm 70 (by decide +kernel) rfl
set_option maxRecDepth 20000 in
theorem fl_X9_19 : Cond.fieldLink RX9 19 (TX9 1).1 (TX9 1).2.1 (TX9 1).2.2.1 ∈ WALL := wm 375 (by decide +kernel) rfl
set_option maxRecDepth 20000 in
theorem fl_X9_23 : Cond.fieldLink RX9 23 (TX9 2).1 (TX9 2).2.1 (TX9 2).2.2.1 ∈ WALL := wm 376 (by decide +kernel) rfl
set_option maxRecDepth 20000 in
theorem cl_X9_26 : Cond.classLink RX9 26 RX4 ∈ WALL := wm 81 (by decide +kernel) rfl
set_option maxRecDepth 20000 in
theorem in_X4 : Cond.instantiable RX4 6 ∈ WALL := wm 82 (by decide +kernel) rfl
set_option maxRecDepth 20000 in
theorem it_X4 : Cond.initialized RX4 ∈ WALL := wm 4 (by decide +kernel) rfl
set_option maxRecDepth 20000 in
theorem clX4 : Cl 4 RX4 TX4 tyX4 6 := ⟨⟨rfl, inWs [323, 325, 327, 329, 331, 333] (by decide +kernel) (by decide +kernel)⟩, tyX4_ok, nmX4, by decide⟩
set_option maxRecDepth 20000 in
theorem cw_X9_28 : CwN RX9 "IndentReader" 28 yX4_init cX4_init 1 none 0 := ⟨nm_ 83 (by decide +kernel) rfl, wm 4 (by decide +kernel) rfl, wm 85 rfl rfl, by decide +kernel⟩
set_option maxRecDepth 20000 in
theorem im_X4_init : Cond.instanceMethod yX4_init ∈ WALL := wm 84 (by decide +kernel) rfl
set_option maxRecDepth 20000 in
theorem ml_X4_3 : Cond.methodLink RX4 3 objectInit ∈ WALL := wm 86 (by decide +kernel) rfl
set_option maxRecDepth 20000 in
theorem cl_X4_9 : Cond.classLink RX4 9 RX7 ∈ WALL := wm 87 (by decide +kernel) rfl
set_option maxRecDepth 20000 in
theorem in_X7 : Cond.instantiable RX7 14 ∈ WALL := wm 88 (by decide +kernel) rfl
set_option maxRecDepth 20000 in
theorem it_X7 : Cond.initialized RX7 ∈ WALL := wm 5 (by decide +kernel) rfl
set_option maxRecDepth 20000 in
theorem clX7 : Cl 7 RX7 TX7 tyX7 14 := ⟨⟨rfl, inWs [123, 125, 127, 129, 131, 133, 135, 137, 139, 141, 143, 145, 147, 149] (by decide +kernel) (by decide +kernel)⟩, tyX7_ok, nmX7, by decide⟩
set_option maxRecDepth 20000 in
theorem cw_X4_11 : CwN RX4 "IndentReader" 11 yX7_init cX7_init 1 none 0 := ⟨nm_ 89 (by decide +kernel) rfl, wm 5 (by decide +kernel) rfl, wm 91 rfl rfl, by decide +kernel⟩
set_option maxRecDepth 20000 in
theorem im_X7_init : Cond.instanceMethod yX7_init ∈ WALL := wm 90 (by decide +kernel) rfl
set_option maxRecDepth 20000 in
theorem ml_X7_3 : Cond.methodLink RX7 3 objectInit ∈ WALL := wm 92 (by decide +kernel) rfl
set_option maxRecDepth 20000 in
theorem fl_X7_9 : Cond.fieldLink RX7 9 (TX7 0).1 (TX7 0).2.1 (TX7 0).2.2.1 ∈ WALL := wm 93 (by decide +kernel) rfl
set_option maxRecDepth 20000 in
theorem fl_X7_15 : Cond.fieldLink RX7 15 (TX7 1).1 (TX7 1).2.1 (TX7 1).2.2.1 ∈ WALL := wm 95 (by decide +kernel) rfl
set_option maxRecDepth 20000 in
theorem fl_X7_18 : Cond.fieldLink RX7 18 (TX7 2).1 (TX7 2).2.1 (TX7 2).2.2.1 ∈ WALL := wm 99 (by decide +kernel) rfl
set_option maxRecDepth 20000 in
theorem fl_X7_21 : Cond.fieldLink RX7 21 (TX7 3).1 (TX7 3).2.1 (TX7 3).2.2.1 ∈ WALL := wm 102 (by decide +kernel) rfl
set_option maxRecDepth 20000 in
theorem fl_X7_24 : Cond.fieldLink RX7 24 (TX7 4).1 (TX7 4).2.1 (TX7 4).2.2.1 ∈ WALL := wm 104 (by decide +kernel) rfl
set_option maxRecDepth 20000 in
theorem fl_X7_27 : Cond.fieldLink RX7 27 (TX7 5).1 (TX7 5).2.1 (TX7 5).2.2.1 ∈ WALL := wm 107 (by decide +kernel) rfl
set_option maxRecDepth 20000 in
theorem fl_X7_30 : Cond.fieldLink RX7 30 (TX7 6).1 (TX7 6).2.1 (TX7 6).2.2.1 ∈ WALL := wm 110 (by decide +kernel) rfl
set_option maxRecDepth 20000 in
theorem fl_X4_12 : Cond.fieldLink RX4 12 (TX4 0).1 (TX4 0).2.1 (TX4 0).2.2.1 ∈ WALL := wm 309 (by decide +kernel) rfl
set_option maxRecDepth 20000 in
theorem cl_X4_18 : Cond.classLink RX4 18 RX8 ∈ WALL := wm 153 (by decide +kernel) rfl
set_option maxRecDepth 20000 in
theorem in_X8 : Cond.instantiable RX8 10 ∈ WALL := wm 154 (by decide +kernel) rfl
set_option maxRecDepth 20000 in
theorem it_X8 : Cond.initialized RX8 ∈ WALL := wm 6 (by decide +kernel) rfl
set_option maxRecDepth 20000 in
theorem clX8 : Cl 8 RX8 TX8 tyX8 10 := ⟨⟨rfl, inWs [288, 290, 292, 294, 296, 298, 300, 302, 304, 306] (by decide +kernel) (by decide +kernel)⟩, tyX8_ok, nmX8, by decide⟩
set_option maxRecDepth 20000 in
theorem cw_X4_20 : CwN RX4 "IndentReader" 20 yX8_init cX8_init 1 none 0 := ⟨nm_ 155 (by decide +kernel) rfl, wm 6 (by decide +kernel) rfl, wm 157 rfl rfl, by decide +kernel⟩
set_option maxRecDepth 20000 in
theorem im_X8_init : Cond.instanceMethod yX8_init ∈ WALL := wm 156 (by decide +kernel) rfl
set_option maxRecDepth 20000 in
theorem ml_X8_3 : Cond.methodLink RX8 3 objectInit ∈ WALL := wm 158 (by decide +kernel) rfl
set_option maxRecDepth 20000 in
theorem cl_X8_9 : Cond.classLink RX8 9 RX0 ∈ WALL := wm 159 (by decide +kernel) rfl
set_option maxRecDepth 20000 in
theorem in_X0 : Cond.instantiable RX0 10 ∈ WALL := wm 160 (by decide +kernel) rfl
set_option maxRecDepth 20000 in
theorem it_X0 : Cond.initialized RX0 ∈ WALL := wm 7 (by decide +kernel) rfl
set_option maxRecDepth 20000 in
theorem clX0 : Cl 0 RX0 TX0 tyX0 10 := ⟨⟨rfl, inWs [196, 198, 200, 202, 204, 206, 208, 210, 212, 214] (by decide +kernel) (by decide +kernel)⟩, tyX0_ok, nmX0, by decide⟩
set_option maxRecDepth 20000 in
theorem cw_X8_11 : CwN RX8 "IndentReader" 11 yX0_init cX0_init 1 none 0 := ⟨nm_ 161 (by decide +kernel) rfl, wm 7 (by decide +kernel) rfl, wm 163 rfl rfl, by decide +kernel⟩
set_option maxRecDepth 20000 in
theorem im_X0_init : Cond.instanceMethod yX0_init ∈ WALL := wm 162 (by decide +kernel) rfl
set_option maxRecDepth 20000 in
theorem ml_X0_3 : Cond.methodLink RX0 3 objectInit ∈ WALL := wm 164 (by decide +kernel) rfl
set_option maxRecDepth 20000 in
theorem fl_X0_9 : Cond.fieldLink RX0 9 (TX0 0).1 (TX0 0).2.1 (TX0 0).2.2.1 ∈ WALL := wm 165 (by decide +kernel) rfl
set_option maxRecDepth 20000 in
theorem fl_X0_15 : Cond.fieldLink RX0 15 (TX0 1).1 (TX0 1).2.1 (TX0 1).2.2.1 ∈ WALL := wm 169 (by decide +kernel) rfl
set_option maxRecDepth 20000 in
theorem fl_X0_18 : Cond.fieldLink RX0 18 (TX0 2).1 (TX0 2).2.1 (TX0 2).2.2.1 ∈ WALL := wm 172 (by decide +kernel) rfl
set_option maxRecDepth 20000 in
theorem fl_X0_21 : Cond.fieldLink RX0 21 (TX0 3).1 (TX0 3).2.1 (TX0 3).2.2.1 ∈ WALL := wm 175 (by decide +kernel) rfl
set_option maxRecDepth 20000 in
theorem fl_X0_24 : Cond.fieldLink RX0 24 (TX0 4).1 (TX0 4).2.1 (TX0 4).2.2.1 ∈ WALL := wm 179 (by decide +kernel) rfl
set_option maxRecDepth 20000 in
theorem fl_X0_27 : Cond.fieldLink RX0 27 (TX0 5).1 (TX0 5).2.1 (TX0 5).2.2.1 ∈ WALL := wm 182 (by decide +kernel) rfl
set_option maxRecDepth 20000 in
theorem fl_X0_30 : Cond.fieldLink RX0 30 (TX0 6).1 (TX0 6).2.1 (TX0 6).2.2.1 ∈ WALL := wm 185 (by decide +kernel) rfl
set_option maxRecDepth 20000 in
theorem fl_X0_33 : Cond.fieldLink RX0 33 (TX0 7).1 (TX0 7).2.1 (TX0 7).2.2.1 ∈ WALL := wm 188 (by decide +kernel) rfl
set_option maxRecDepth 20000 in
theorem fl_X0_36 : Cond.fieldLink RX0 36 (TX0 8).1 (TX0 8).2.1 (TX0 8).2.2.1 ∈ WALL := wm 191 (by decide +kernel) rfl
set_option maxRecDepth 20000 in
theorem fl_X8_12 : Cond.fieldLink RX8 12 (TX8 0).1 (TX8 0).2.1 (TX8 0).2.2.1 ∈ WALL := wm 268 (by decide +kernel) rfl
set_option maxRecDepth 20000 in
theorem cl_X8_18 : Cond.classLink RX8 18 RX2 ∈ WALL := wm 217 (by decide +kernel) rfl
set_option maxRecDepth 20000 in
theorem in_X2 : Cond.instantiable RX2 9 ∈ WALL := wm 218 (by decide +kernel) rfl
set_option maxRecDepth 20000 in
theorem it_X2 : Cond.initialized RX2 ∈ WALL := wm 8 (by decide +kernel) rfl
set_option maxRecDepth 20000 in
theorem clX2 : Cl 2 RX2 TX2 tyX2 9 := ⟨⟨rfl, inWs [249, 251, 253, 255, 257, 259, 261, 263, 265] (by decide +kernel) (by decide +kernel)⟩, tyX2_ok, nmX2, by decide⟩
set_option maxRecDepth 20000 in
theorem cw_X8_20 : CwN RX8 "IndentReader" 20 yX2_init cX2_init 1 none 0 := ⟨nm_ 219 (by decide +kernel) rfl, wm 8 (by decide +kernel) rfl, wm 221 rfl rfl, by decide +kernel⟩
set_option maxRecDepth 20000 in
theorem im_X2_init : Cond.instanceMethod yX2_init ∈ WALL := wm 220 (by decide +kernel) rfl
set_option maxRecDepth 20000 in
theorem ml_X2_3 : Cond.methodLink RX2 3 objectInit ∈ WALL := wm 222 (by decide +kernel) rfl
set_option maxRecDepth 20000 in
theorem fl_X2_9 : Cond.fieldLink RX2 9 (TX2 0).1 (TX2 0).2.1 (TX2 0).2.2.1 ∈ WALL := wm 223 (by decide +kernel) rfl
set_option maxRecDepth 20000 in
theorem fl_X2_15 : Cond.fieldLink RX2 15 (TX2 1).1 (TX2 1).2.1 (TX2 1).2.2.1 ∈ WALL := wm 227 (by decide +kernel) rfl
set_option maxRecDepth 20000 in
theorem fl_X2_18 : Cond.fieldLink RX2 18 (TX2 2).1 (TX2 2).2.1 (TX2 2).2.2.1 ∈ WALL := wm 230 (by decide +kernel) rfl
set_option maxRecDepth 20000 in
theorem fl_X2_21 : Cond.fieldLink RX2 21 (TX2 3).1 (TX2 3).2.1 (TX2 3).2.2.1 ∈ WALL := wm 234 (by decide +kernel) rfl
set_option maxRecDepth 20000 in
theorem fl_X2_24 : Cond.fieldLink RX2 24 (TX2 4).1 (TX2 4).2.1 (TX2 4).2.2.1 ∈ WALL := wm 237 (by decide +kernel) rfl
set_option maxRecDepth 20000 in
theorem fl_X2_27 : Cond.fieldLink RX2 27 (TX2 6).1 (TX2 6).2.1 (TX2 6).2.2.1 ∈ WALL := wm 242 (by decide +kernel) rfl
set_option maxRecDepth 20000 in
theorem fl_X2_30 : Cond.fieldLink RX2 30 (TX2 7).1 (TX2 7).2.1 (TX2 7).2.2.1 ∈ WALL := wm 244 (by decide +kernel) rfl
set_option maxRecDepth 20000 in
theorem fl_X8_21 : Cond.fieldLink RX8 21 (TX8 1).1 (TX8 1).2.1 (TX8 1).2.2.1 ∈ WALL := wm 271 (by decide +kernel) rfl
set_option maxRecDepth 20000 in
theorem fl_X8_25 : Cond.fieldLink RX8 25 (TX8 2).1 (TX8 2).2.1 (TX8 2).2.2.1 ∈ WALL := wm 274 (by decide +kernel) rfl
set_option maxRecDepth 20000 in
theorem fl_X8_29 : Cond.fieldLink RX8 29 (TX8 3).1 (TX8 3).2.1 (TX8 3).2.2.1 ∈ WALL := wm 277 (by decide +kernel) rfl
set_option maxRecDepth 20000 in
theorem fl_X8_33 : Cond.fieldLink RX8 33 (TX8 6).1 (TX8 6).2.1 (TX8 6).2.2.1 ∈ WALL := wm 284 (by decide +kernel) rfl
set_option maxRecDepth 20000 in
theorem fl_X4_21 : Cond.fieldLink RX4 21 (TX4 1).1 (TX4 1).2.1 (TX4 1).2.2.1 ∈ WALL := wm 312 (by decide +kernel) rfl
set_option maxRecDepth 20000 in
theorem fl_X4_25 : Cond.fieldLink RX4 25 (TX4 2).1 (TX4 2).2.1 (TX4 2).2.2.1 ∈ WALL := wm 315 (by decide +kernel) rfl
set_option maxRecDepth 20000 in
theorem fl_X4_29 : Cond.fieldLink RX4 29 (TX4 3).1 (TX4 3).2.1 (TX4 3).2.2.1 ∈ WALL := wm 317 (by decide +kernel) rfl
set_option maxRecDepth 20000 in
theorem fl_X4_32 : Cond.fieldLink RX4 32 (TX4 4).1 (TX4 4).2.1 (TX4 4).2.2.1 ∈ WALL := wm 319 (by decide +kernel) rfl
set_option maxRecDepth 20000 in
theorem fl_X4_35 : Cond.fieldLink RX4 35 (TX4 5).1 (TX4 5).2.1 (TX4 5).2.2.1 ∈ WALL := wm 321 (by decide +kernel) rfl
set_option maxRecDepth 20000 in
theorem fl_X9_29 : Cond.fieldLink RX9 29 (TX9 3).1 (TX9 3).2.1 (TX9 3).2.2.1 ∈ WALL := wm 377 (by decide +kernel) rfl
set_option maxRecDepth 20000 in
theorem fl_X9_33 : Cond.fieldLink RX9 33 (TX9 4).1 (TX9 4).2.1 (TX9 4).2.2.1 ∈ WALL := wm 378 (by decide +kernel) rfl
set_option maxRecDepth 20000 in
theorem cl_X9_36 : Cond.classLink RX9 36 RX5 ∈ WALL := wm 336 (by decide +kernel) rfl
set_option maxRecDepth 20000 in
theorem in_X5 : Cond.instantiable RX5 4 ∈ WALL := wm 337 (by decide +kernel) rfl
set_option maxRecDepth 20000 in
theorem it_X5 : Cond.initialized RX5 ∈ WALL := wm 9 (by decide +kernel) rfl
set_option maxRecDepth 20000 in
theorem clX5 : Cl 5 RX5 TX5 tyX5 4 := ⟨⟨rfl, inWs [346, 348, 350, 352] (by decide +kernel) (by decide +kernel)⟩, tyX5_ok, nmX5, by decide⟩
set_option maxRecDepth 20000 in
theorem cw_X9_38 : CwN RX9 "IndentReader" 38 yX5_init cX5_init 1 none 0 := ⟨nm_ 338 (by decide +kernel) rfl, wm 9 (by decide +kernel) rfl, wm 340 rfl rfl, by decide +kernel⟩
set_option maxRecDepth 20000 in
theorem im_X5_init : Cond.instanceMethod yX5_init ∈ WALL := wm 339 (by decide +kernel) rfl
set_option maxRecDepth 20000 in
theorem ml_X5_3 : Cond.methodLink RX5 3 objectInit ∈ WALL := wm 341 (by decide +kernel) rfl
set_option maxRecDepth 20000 in
theorem fl_X5_9 : Cond.fieldLink RX5 9 (TX5 0).1 (TX5 0).2.1 (TX5 0).2.2.1 ∈ WALL := wm 342 (by decide +kernel) rfl
set_option maxRecDepth 20000 in
theorem fl_X5_15 : Cond.fieldLink RX5 15 (TX5 1).1 (TX5 1).2.1 (TX5 1).2.2.1 ∈ WALL := wm 343 (by decide +kernel) rfl
set_option maxRecDepth 20000 in
theorem fl_X9_39 : Cond.fieldLink RX9 39 (TX9 5).1 (TX9 5).2.1 (TX9 5).2.2.1 ∈ WALL := wm 379 (by decide +kernel) rfl
set_option maxRecDepth 20000 in
theorem cl_X9_43 : Cond.classLink RX9 43 RX3 ∈ WALL := wm 355 (by decide +kernel) rfl
set_option maxRecDepth 20000 in
theorem in_X3 : Cond.instantiable RX3 3 ∈ WALL := wm 356 (by decide +kernel) rfl
set_option maxRecDepth 20000 in
theorem it_X3 : Cond.initialized RX3 ∈ WALL := wm 10 (by decide +kernel) rfl
set_option maxRecDepth 20000 in
theorem clX3 : Cl 3 RX3 TX3 tyX3 3 := ⟨⟨rfl, inWs [367, 369, 371] (by decide +kernel) (by decide +kernel)⟩, tyX3_ok, nmX3, by decide⟩
set_option maxRecDepth 20000 in
theorem cw_X9_45 : CwN RX9 "IndentReader" 45 yX3_init cX3_init 1 none 0 := ⟨nm_ 357 (by decide +kernel) rfl, wm 10 (by decide +kernel) rfl, wm 359 rfl rfl, by decide +kernel⟩
set_option maxRecDepth 20000 in
theorem im_X3_init : Cond.instanceMethod yX3_init ∈ WALL := wm 358 (by decide +kernel) rfl
set_option maxRecDepth 20000 in
theorem ml_X3_3 : Cond.methodLink RX3 3 objectInit ∈ WALL := wm 360 (by decide +kernel) rfl
set_option maxRecDepth 20000 in
theorem fl_X3_9 : Cond.fieldLink RX3 9 (TX3 0).1 (TX3 0).2.1 (TX3 0).2.2.1 ∈ WALL := wm 361 (by decide +kernel) rfl
set_option maxRecDepth 20000 in
theorem fl_X9_46 : Cond.fieldLink RX9 46 (TX9 6).1 (TX9 6).2.1 (TX9 6).2.2.1 ∈ WALL := wm 380 (by decide +kernel) rfl
set_option maxRecDepth 20000 in
theorem fl_X9_50 : Cond.fieldLink RX9 50 (TX9 7).1 (TX9 7).2.1 (TX9 7).2.2.1 ∈ WALL := wm 381 (by decide +kernel) rfl
set_option maxRecDepth 20000 in
theorem fl_X9_53 : Cond.fieldLink RX9 53 (TX9 8).1 (TX9 8).2.1 (TX9 8).2.2.1 ∈ WALL := wm 382 (by decide +kernel) rfl
set_option maxRecDepth 20000 in
theorem fl_X9_57 : Cond.fieldLink RX9 57 (TX9 10).1 (TX9 10).2.1 (TX9 10).2.2.1 ∈ WALL := wm 384 (by decide +kernel) rfl
set_option maxRecDepth 20000 in
theorem fl_X9_60 : Cond.fieldLink RX9 60 (TX9 11).1 (TX9 11).2.1 (TX9 11).2.2.1 ∈ WALL := wm 385 (by decide +kernel) rfl
set_option maxRecDepth 20000 in
theorem fl_X9_63 : Cond.fieldLink RX9 63 (TX9 12).1 (TX9 12).2.1 (TX9 12).2.2.1 ∈ WALL := wm 386 (by decide +kernel) rfl
set_option maxRecDepth 20000 in
theorem ml_X10_1 : Cond.methodLink RX10 1 objectInit ∈ WALL := wm 1023 (by decide +kernel) rfl
set_option maxRecDepth 20000 in
theorem fl_X10_7 : Cond.fieldLink RX10 7 (TX10 1).1 (TX10 1).2.1 (TX10 1).2.2.1 ∈ WALL := wm 1025 (by decide +kernel) rfl
set_option maxRecDepth 20000 in
theorem clX10 : Cl 10 RX10 TX10 tyX10 79 := ⟨⟨rfl, inWs [1103, 1105, 1107, 1109, 1111, 1113, 1115, 1117, 1119, 1121, 1123, 1125, 1127, 1129, 1131, 1133, 1135, 1137, 1139, 1141, 1143, 1145, 1147, 1149, 1151, 1153, 1155, 1157, 1159, 1161, 1163, 1165, 1167, 1169, 1171, 1173, 1175, 1177, 1179, 1181, 1183, 1185, 1187, 1189, 1191, 1193, 1195, 1197, 1199, 1201, 1203, 1205, 1207, 1209, 1211, 1213, 1215, 1217, 1219, 1221, 1223, 1225, 1227, 1229, 1231, 1233, 1235, 1237, 1239, 1241, 1243, 1245, 1247, 1249, 1251, 1253, 1255, 1257, 1259] (by decide +kernel) (by decide +kernel)⟩, tyX10_ok, nmX10, by decide⟩
set_option maxRecDepth 20000 in
theorem fl_X10_13 : Cond.fieldLink RX10 13 (TX10 2).1 (TX10 2).2.1 (TX10 2).2.2.1 ∈ WALL := wm 1026 (by decide +kernel) rfl
set_option maxRecDepth 20000 in
theorem fl_X10_17 : Cond.fieldLink RX10 17 (TX10 4).1 (TX10 4).2.1 (TX10 4).2.2.1 ∈ WALL := wm 1028 (by decide +kernel) rfl
set_option maxRecDepth 20000 in
theorem fl_X10_20 : Cond.fieldLink RX10 20 (TX10 5).1 (TX10 5).2.1 (TX10 5).2.2.1 ∈ WALL := wm 1029 (by decide +kernel) rfl
set_option maxRecDepth 20000 in
theorem fl_X10_23 : Cond.fieldLink RX10 23 (TX10 7).1 (TX10 7).2.1 (TX10 7).2.2.1 ∈ WALL := wm 1031 (by decide +kernel) rfl
set_option maxRecDepth 20000 in
theorem fl_X10_26 : Cond.fieldLink RX10 26 (TX10 9).1 (TX10 9).2.1 (TX10 9).2.2.1 ∈ WALL := wm 1033 (by decide +kernel) rfl
set_option maxRecDepth 20000 in
theorem fl_X10_29 : Cond.fieldLink RX10 29 (TX10 11).1 (TX10 11).2.1 (TX10 11).2.2.1 ∈ WALL := wm 1035 (by decide +kernel) rfl
set_option maxRecDepth 20000 in
theorem fl_X10_33 : Cond.fieldLink RX10 33 (TX10 13).1 (TX10 13).2.1 (TX10 13).2.2.1 ∈ WALL := wm 1037 (by decide +kernel) rfl
set_option maxRecDepth 20000 in
theorem fl_X10_36 : Cond.fieldLink RX10 36 (TX10 16).1 (TX10 16).2.1 (TX10 16).2.2.1 ∈ WALL := wm 1040 (by decide +kernel) rfl
set_option maxRecDepth 20000 in
theorem fl_X10_39 : Cond.fieldLink RX10 39 (TX10 17).1 (TX10 17).2.1 (TX10 17).2.2.1 ∈ WALL := wm 1041 (by decide +kernel) rfl
set_option maxRecDepth 20000 in
theorem fl_X10_42 : Cond.fieldLink RX10 42 (TX10 20).1 (TX10 20).2.1 (TX10 20).2.2.1 ∈ WALL := wm 1044 (by decide +kernel) rfl
set_option maxRecDepth 20000 in
theorem fl_X10_45 : Cond.fieldLink RX10 45 (TX10 21).1 (TX10 21).2.1 (TX10 21).2.2.1 ∈ WALL := wm 1045 (by decide +kernel) rfl
set_option maxRecDepth 20000 in
theorem fl_X10_48 : Cond.fieldLink RX10 48 (TX10 22).1 (TX10 22).2.1 (TX10 22).2.2.1 ∈ WALL := wm 1046 (by decide +kernel) rfl
set_option maxRecDepth 20000 in
theorem fl_X10_51 : Cond.fieldLink RX10 51 (TX10 23).1 (TX10 23).2.1 (TX10 23).2.2.1 ∈ WALL := wm 1047 (by decide +kernel) rfl
set_option maxRecDepth 20000 in
theorem fl_X10_54 : Cond.fieldLink RX10 54 (TX10 24).1 (TX10 24).2.1 (TX10 24).2.2.1 ∈ WALL := wm 1048 (by decide +kernel) rfl
set_option maxRecDepth 20000 in
theorem fl_X10_57 : Cond.fieldLink RX10 57 (TX10 25).1 (TX10 25).2.1 (TX10 25).2.2.1 ∈ WALL := wm 1049 (by decide +kernel) rfl
set_option maxRecDepth 20000 in
theorem fl_X10_61 : Cond.fieldLink RX10 61 (TX10 26).1 (TX10 26).2.1 (TX10 26).2.2.1 ∈ WALL := wm 1050 (by decide +kernel) rfl
set_option maxRecDepth 20000 in
theorem fl_X10_64 : Cond.fieldLink RX10 64 (TX10 27).1 (TX10 27).2.1 (TX10 27).2.2.1 ∈ WALL := wm 1051 (by decide +kernel) rfl
set_option maxRecDepth 20000 in
theorem fl_X10_67 : Cond.fieldLink RX10 67 (TX10 28).1 (TX10 28).2.1 (TX10 28).2.2.1 ∈ WALL := wm 1052 (by decide +kernel) rfl
set_option maxRecDepth 20000 in
theorem fl_X10_70 : Cond.fieldLink RX10 70 (TX10 29).1 (TX10 29).2.1 (TX10 29).2.2.1 ∈ WALL := wm 1053 (by decide +kernel) rfl
set_option maxRecDepth 20000 in
theorem fl_X10_73 : Cond.fieldLink RX10 73 (TX10 33).1 (TX10 33).2.1 (TX10 33).2.2.1 ∈ WALL := wm 1057 (by decide +kernel) rfl
set_option maxRecDepth 20000 in
theorem fl_X10_76 : Cond.fieldLink RX10 76 (TX10 34).1 (TX10 34).2.1 (TX10 34).2.2.1 ∈ WALL := wm 1058 (by decide +kernel) rfl
set_option maxRecDepth 20000 in
theorem fl_X10_79 : Cond.fieldLink RX10 79 (TX10 35).1 (TX10 35).2.1 (TX10 35).2.2.1 ∈ WALL := wm 1059 (by decide +kernel) rfl
set_option maxRecDepth 20000 in
theorem fl_X10_82 : Cond.fieldLink RX10 82 (TX10 36).1 (TX10 36).2.1 (TX10 36).2.2.1 ∈ WALL := wm 1060 (by decide +kernel) rfl
set_option maxRecDepth 20000 in
theorem fl_X10_85 : Cond.fieldLink RX10 85 (TX10 37).1 (TX10 37).2.1 (TX10 37).2.2.1 ∈ WALL := wm 1061 (by decide +kernel) rfl
set_option maxRecDepth 20000 in
theorem fl_X10_88 : Cond.fieldLink RX10 88 (TX10 38).1 (TX10 38).2.1 (TX10 38).2.2.1 ∈ WALL := wm 1062 (by decide +kernel) rfl
set_option maxRecDepth 20000 in
theorem fl_X10_91 : Cond.fieldLink RX10 91 (TX10 39).1 (TX10 39).2.1 (TX10 39).2.2.1 ∈ WALL := wm 1063 (by decide +kernel) rfl
set_option maxRecDepth 20000 in
theorem fl_X10_94 : Cond.fieldLink RX10 94 (TX10 41).1 (TX10 41).2.1 (TX10 41).2.2.1 ∈ WALL := wm 1065 (by decide +kernel) rfl
set_option maxRecDepth 20000 in
theorem fl_X10_97 : Cond.fieldLink RX10 97 (TX10 42).1 (TX10 42).2.1 (TX10 42).2.2.1 ∈ WALL := wm 1066 (by decide +kernel) rfl
set_option maxRecDepth 20000 in
theorem fl_X10_100 : Cond.fieldLink RX10 100 (TX10 43).1 (TX10 43).2.1 (TX10 43).2.2.1 ∈ WALL := wm 1067 (by decide +kernel) rfl
set_option maxRecDepth 20000 in
theorem fl_X10_103 : Cond.fieldLink RX10 103 (TX10 44).1 (TX10 44).2.1 (TX10 44).2.2.1 ∈ WALL := wm 1068 (by decide +kernel) rfl
set_option maxRecDepth 20000 in
theorem fl_X10_106 : Cond.fieldLink RX10 106 (TX10 45).1 (TX10 45).2.1 (TX10 45).2.2.1 ∈ WALL := wm 1069 (by decide +kernel) rfl
set_option maxRecDepth 20000 in
theorem fl_X10_109 : Cond.fieldLink RX10 109 (TX10 46).1 (TX10 46).2.1 (TX10 46).2.2.1 ∈ WALL := wm 1070 (by decide +kernel) rfl
set_option maxRecDepth 20000 in
theorem fl_X10_112 : Cond.fieldLink RX10 112 (TX10 48).1 (TX10 48).2.1 (TX10 48).2.2.1 ∈ WALL := wm 1072 (by decide +kernel) rfl
set_option maxRecDepth 20000 in
theorem fl_X10_115 : Cond.fieldLink RX10 115 (TX10 49).1 (TX10 49).2.1 (TX10 49).2.2.1 ∈ WALL := wm 1073 (by decide +kernel) rfl
set_option maxRecDepth 20000 in
theorem fl_X10_118 : Cond.fieldLink RX10 118 (TX10 50).1 (TX10 50).2.1 (TX10 50).2.2.1 ∈ WALL := wm 1074 (by decide +kernel) rfl
set_option maxRecDepth 20000 in
theorem fl_X10_121 : Cond.fieldLink RX10 121 (TX10 53).1 (TX10 53).2.1 (TX10 53).2.2.1 ∈ WALL := wm 1077 (by decide +kernel) rfl
set_option maxRecDepth 20000 in
theorem fl_X10_124 : Cond.fieldLink RX10 124 (TX10 55).1 (TX10 55).2.1 (TX10 55).2.2.1 ∈ WALL := wm 1079 (by decide +kernel) rfl
set_option maxRecDepth 20000 in
theorem fl_X10_127 : Cond.fieldLink RX10 127 (TX10 57).1 (TX10 57).2.1 (TX10 57).2.2.1 ∈ WALL := wm 1081 (by decide +kernel) rfl
set_option maxRecDepth 20000 in
theorem fl_X10_130 : Cond.fieldLink RX10 130 (TX10 58).1 (TX10 58).2.1 (TX10 58).2.2.1 ∈ WALL := wm 1082 (by decide +kernel) rfl
set_option maxRecDepth 20000 in
theorem fl_X10_133 : Cond.fieldLink RX10 133 (TX10 59).1 (TX10 59).2.1 (TX10 59).2.2.1 ∈ WALL := wm 1083 (by decide +kernel) rfl
set_option maxRecDepth 20000 in
theorem fl_X10_136 : Cond.fieldLink RX10 136 (TX10 60).1 (TX10 60).2.1 (TX10 60).2.2.1 ∈ WALL := wm 1084 (by decide +kernel) rfl
set_option maxRecDepth 20000 in
theorem fl_X10_139 : Cond.fieldLink RX10 139 (TX10 61).1 (TX10 61).2.1 (TX10 61).2.2.1 ∈ WALL := wm 1085 (by decide +kernel) rfl
set_option maxRecDepth 20000 in
theorem fl_X10_142 : Cond.fieldLink RX10 142 (TX10 62).1 (TX10 62).2.1 (TX10 62).2.2.1 ∈ WALL := wm 1086 (by decide +kernel) rfl
set_option maxRecDepth 20000 in
theorem fl_X10_145 : Cond.fieldLink RX10 145 (TX10 69).1 (TX10 69).2.1 (TX10 69).2.2.1 ∈ WALL := wm 1093 (by decide +kernel) rfl
set_option maxRecDepth 20000 in
theorem fl_X10_148 : Cond.fieldLink RX10 148 (TX10 70).1 (TX10 70).2.1 (TX10 70).2.2.1 ∈ WALL := wm 1094 (by decide +kernel) rfl
set_option maxRecDepth 20000 in
theorem fl_X10_151 : Cond.fieldLink RX10 151 (TX10 71).1 (TX10 71).2.1 (TX10 71).2.2.1 ∈ WALL := wm 1095 (by decide +kernel) rfl
set_option maxRecDepth 20000 in
theorem fl_X10_154 : Cond.fieldLink RX10 154 (TX10 72).1 (TX10 72).2.1 (TX10 72).2.2.1 ∈ WALL := wm 1096 (by decide +kernel) rfl
set_option maxRecDepth 20000 in
theorem fl_X10_157 : Cond.fieldLink RX10 157 (TX10 73).1 (TX10 73).2.1 (TX10 73).2.2.1 ∈ WALL := wm 1097 (by decide +kernel) rfl
set_option maxRecDepth 20000 in
theorem fl_X10_160 : Cond.fieldLink RX10 160 (TX10 74).1 (TX10 74).2.1 (TX10 74).2.2.1 ∈ WALL := wm 1098 (by decide +kernel) rfl
set_option maxRecDepth 20000 in
theorem fl_X10_163 : Cond.fieldLink RX10 163 (TX10 75).1 (TX10 75).2.1 (TX10 75).2.2.1 ∈ WALL := wm 1099 (by decide +kernel) rfl
set_option maxRecDepth 20000 in
theorem fl_X10_166 : Cond.fieldLink RX10 166 (TX10 77).1 (TX10 77).2.1 (TX10 77).2.2.1 ∈ WALL := wm 1101 (by decide +kernel) rfl
theorem dX9_init_0 : decode cX9_init 0 = .ok (.aload_n 0, 1) := by decide +kernel
theorem dX9_init_1 : decode cX9_init 1 = .ok (.invokespecial 3, 3) := by decide +kernel
theorem dX9_init_4 : decode cX9_init 4 = .ok (.aload_n 0, 1) := by decide +kernel
theorem dX9_init_5 : decode cX9_init 5 = .ok (.new 9, 3) := by decide +kernel
theorem dX9_init_8 : decode cX9_init 8 = .ok (.dup, 1) := by decide +kernel
theorem dX9_init_9 : decode cX9_init 9 = .ok (.invokespecial 11, 3) := by decide +kernel
theorem dX9_init_12 : decode cX9_init 12 = .ok (.putfield 12, 3) := by decide +kernel
theorem dX9_init_15 : decode cX9_init 15 = .ok (.aload_n 0, 1) := by decide +kernel
theorem dX9_init_16 : decode cX9_init 16 = .ok (.new 16, 3) := by decide +kernel
theorem dX9_init_19 : decode cX9_init 19 = .ok (.dup, 1) := by decide +kernel
theorem dX9_init_20 : decode cX9_init 20 = .ok (.invokespecial 18, 3) := by decide +kernel
theorem dX9_init_23 : decode cX9_init 23 = .ok (.putfield 19, 3) := by decide +kernel
theorem dX9_init_26 : decode cX9_init 26 = .ok (.aload_n 0, 1) := by decide +kernel
theorem dX9_init_27 : decode cX9_init 27 = .ok (.new 16, 3) := by decide +kernel
theorem dX9_init_30 : decode cX9_init 30 = .ok (.dup, 1) := by decide +kernel
theorem dX9_init_31 : decode cX9_init 31 = .ok (.invokespecial 18, 3) := by decide +kernel
theorem dX9_init_34 : decode cX9_init 34 = .ok (.putfield 23, 3) := by decide +kernel
theorem dX9_init_37 : decode cX9_init 37 = .ok (.aload_n 0, 1) := by decide +kernel
theorem dX9_init_38 : decode cX9_init 38 = .ok (.new 26, 3) := by decide +kernel
theorem dX9_init_41 : decode cX9_init 41 = .ok (.dup, 1) := by decide +kernel
theorem dX9_init_42 : decode cX9_init 42 = .ok (.invokespecial 28, 3) := by decide +kernel
theorem dX9_init_45 : decode cX9_init 45 = .ok (.putfield 29, 3) := by decide +kernel
theorem dX9_init_48 : decode cX9_init 48 = .ok (.aload_n 0, 1) := by decide +kernel
theorem dX9_init_49 : decode cX9_init 49 = .ok (.new 26, 3) := by decide +kernel
theorem dX9_init_52 : decode cX9_init 52 = .ok (.dup, 1) := by decide +kernel
theorem dX9_init_53 : decode cX9_init 53 = .ok (.invokespecial 28, 3) := by decide +kernel
theorem dX9_init_56 : decode cX9_init 56 = .ok (.putfield 33, 3) := by decide +kernel
theorem dX9_init_59 : decode cX9_init 59 = .ok (.aload_n 0, 1) := by decide +kernel
theorem dX9_init_60 : decode cX9_init 60 = .ok (.new 36, 3) := by decide +kernel
theorem dX9_init_63 : decode cX9_init 63 = .ok (.dup, 1) := by decide +kernel
theorem dX9_init_64 : decode cX9_init 64 = .ok (.invokespecial 38, 3) := by decide +kernel
theorem dX9_init_67 : decode cX9_init 67 = .ok (.putfield 39, 3) := by decide +kernel
theorem dX9_init_70 : decode cX9_init 70 = .ok (.aload_n 0, 1) := by decide +kernel
theorem dX9_init_71 : decode cX9_init 71 = .ok (.new 43, 3) := by decide +kernel
theorem dX9_init_74 : decode cX9_init 74 = .ok (.dup, 1) := by decide +kernel
theorem dX9_init_75 : decode cX9_init 75 = .ok (.invokespecial 45, 3) := by decide +kernel
theorem dX9_init_78 : decode cX9_init 78 = .ok (.putfield 46, 3) := by decide +kernel
theorem dX9_init_81 : decode cX9_init 81 = .ok (.aload_n 0, 1) := by decide +kernel
theorem dX9_init_82 : decode cX9_init 82 = .ok (.new 43, 3) := by decide +kernel
theorem dX9_init_85 : decode cX9_init 85 = .ok (.dup, 1) := by decide +kernel
theorem dX9_init_86 : decode cX9_init 86 = .ok (.invokespecial 45, 3) := by decide +kernel
theorem dX9_init_89 : decode cX9_init 89 = .ok (.putfield 50, 3) := by decide +kernel
theorem dX9_init_92 : decode cX9_init 92 = .ok (.aload_n 0, 1) := by decide +kernel
theorem dX9_init_93 : decode cX9_init 93 = .ok (.iconst 0, 1) := by decide +kernel
theorem dX9_init_94 : decode cX9_init 94 = .ok (.putfield 53, 3) := by decide +kernel
theorem dX9_init_97 : decode cX9_init 97 = .ok (.aload_n 0, 1) := by decide +kernel
theorem dX9_init_98 : decode cX9_init 98 = .ok (.bipush (-9), 2) := by decide +kernel
theorem dX9_init_100 : decode cX9_init 100 = .ok (.putfield 57, 3) := by decide +kernel
theorem dX9_init_103 : decode cX9_init 103 = .ok (.aload_n 0, 1) := by decide +kernel
theorem dX9_init_104 : decode cX9_init 104 = .ok (.bipush (-9), 2) := by decide +kernel
theorem dX9_init_106 : decode cX9_init 106 = .ok (.putfield 60, 3) := by decide +kernel
theorem dX9_init_109 : decode cX9_init 109 = .ok (.aload_n 0, 1) := by decide +kernel
theorem dX9_init_110 : decode cX9_init 110 = .ok (.sipush 200, 3) := by decide +kernel
theorem dX9_init_113 : decode cX9_init 113 = .ok (.newarray .int, 2) := by decide +kernel
theorem dX9_init_115 : decode cX9_init 115 = .ok (.putfield 63, 3) := by decide +kernel
theorem dX9_init_118 : decode cX9_init 118 = .ok (.return_, 1) := by decide +kernel
theorem dX1_init_0 : decode cX1_init 0 = .ok (.aload_n 0, 1) := by decide +kernel
theorem dX1_init_1 : decode cX1_init 1 = .ok (.invokespecial 3, 3) := by decide +kernel
theorem dX1_init_4 : decode cX1_init 4 = .ok (.aload_n 0, 1) := by decide +kernel
theorem dX1_init_5 : decode cX1_init 5 = .ok (.bipush 24, 2) := by decide +kernel
theorem dX1_init_7 : decode cX1_init 7 = .ok (.newarray .long, 2) := by decide +kernel
theorem dX1_init_9 : decode cX1_init 9 = .ok (.putfield 9, 3) := by decide +kernel
theorem dX1_init_12 : decode cX1_init 12 = .ok (.aload_n 0, 1) := by decide +kernel
theorem dX1_init_13 : decode cX1_init 13 = .ok (.bipush 24, 2) := by decide +kernel
theorem dX1_init_15 : decode cX1_init 15 = .ok (.newarray .int, 2) := by decide +kernel
theorem dX1_init_17 : decode cX1_init 17 = .ok (.putfield 15, 3) := by decide +kernel
theorem dX1_init_20 : decode cX1_init 20 = .ok (.return_, 1) := by decide +kernel
theorem dX6_init_0 : decode cX6_init 0 = .ok (.aload_n 0, 1) := by decide +kernel
theorem dX6_init_1 : decode cX6_init 1 = .ok (.invokespecial 3, 3) := by decide +kernel
theorem dX6_init_4 : decode cX6_init 4 = .ok (.aload_n 0, 1) := by decide +kernel
theorem dX6_init_5 : decode cX6_init 5 = .ok (.sipush 600, 3) := by decide +kernel
theorem dX6_init_8 : decode cX6_init 8 = .ok (.newarray .byte, 2) := by decide +kernel
theorem dX6_init_10 : decode cX6_init 10 = .ok (.putfield 9, 3) := by decide +kernel
theorem dX6_init_13 : decode cX6_init 13 = .ok (.return_, 1) := by decide +kernel
theorem dX4_init_0 : decode cX4_init 0 = .ok (.aload_n 0, 1) := by decide +kernel
theorem dX4_init_1 : decode cX4_init 1 = .ok (.invokespecial 3, 3) := by decide +kernel
theorem dX4_init_4 : decode cX4_init 4 = .ok (.aload_n 0, 1) := by decide +kernel
theorem dX4_init_5 : decode cX4_init 5 = .ok (.new 9, 3) := by decide +kernel
theorem dX4_init_8 : decode cX4_init 8 = .ok (.dup, 1) := by decide +kernel
theorem dX4_init_9 : decode cX4_init 9 = .ok (.invokespecial 11, 3) := by decide +kernel
theorem dX4_init_12 : decode cX4_init 12 = .ok (.putfield 12, 3) := by decide +kernel
theorem dX4_init_15 : decode cX4_init 15 = .ok (.aload_n 0, 1) := by decide +kernel
theorem dX4_init_16 : decode cX4_init 16 = .ok (.new 18, 3) := by decide +kernel
theorem dX4_init_19 : decode cX4_init 19 = .ok (.dup, 1) := by decide +kernel
theorem dX4_init_20 : decode cX4_init 20 = .ok (.invokespecial 20, 3) := by decide +kernel
theorem dX4_init_23 : decode cX4_init 23 = .ok (.putfield 21, 3) := by decide +kernel
theorem dX4_init_26 : decode cX4_init 26 = .ok (.aload_n 0, 1) := by decide +kernel
theorem dX4_init_27 : decode cX4_init 27 = .ok (.iconst 0, 1) := by decide +kernel
theorem dX4_init_28 : decode cX4_init 28 = .ok (.putfield 25, 3) := by decide +kernel
theorem dX4_init_31 : decode cX4_init 31 = .ok (.aload_n 0, 1) := by decide +kernel
theorem dX4_init_32 : decode cX4_init 32 = .ok (.bipush (-9), 2) := by decide +kernel
theorem dX4_init_34 : decode cX4_init 34 = .ok (.putfield 29, 3) := by decide +kernel
theorem dX4_init_37 : decode cX4_init 37 = .ok (.aload_n 0, 1) := by decide +kernel
theorem dX4_init_38 : decode cX4_init 38 = .ok (.bipush (-9), 2) := by decide +kernel
theorem dX4_init_40 : decode cX4_init 40 = .ok (.putfield 32, 3) := by decide +kernel
theorem dX4_init_43 : decode cX4_init 43 = .ok (.aload_n 0, 1) := by decide +kernel
theorem dX4_init_44 : decode cX4_init 44 = .ok (.bipush (-9), 2) := by decide +kernel
theorem dX4_init_46 : decode cX4_init 46 = .ok (.putfield 35, 3) := by decide +kernel
theorem dX4_init_49 : decode cX4_init 49 = .ok (.return_, 1) := by decide +kernel
theorem dX7_init_0 : decode cX7_init 0 = .ok (.aload_n 0, 1) := by decide +kernel
theorem dX7_init_1 : decode cX7_init 1 = .ok (.invokespecial 3, 3) := by decide +kernel
theorem dX7_init_4 : decode cX7_init 4 = .ok (.aload_n 0, 1) := by decide +kernel
theorem dX7_init_5 : decode cX7_init 5 = .ok (.sipush 600, 3) := by decide +kernel
theorem dX7_init_8 : decode cX7_init 8 = .ok (.newarray .int, 2) := by decide +kernel
theorem dX7_init_10 : decode cX7_init 10 = .ok (.putfield 9, 3) := by decide +kernel
theorem dX7_init_13 : decode cX7_init 13 = .ok (.aload_n 0, 1) := by decide +kernel
theorem dX7_init_14 : decode cX7_init 14 = .ok (.sipush 600, 3) := by decide +kernel
theorem dX7_init_17 : decode cX7_init 17 = .ok (.newarray .int, 2) := by decide +kernel
theorem dX7_init_19 : decode cX7_init 19 = .ok (.putfield 15, 3) := by decide +kernel
theorem dX7_init_22 : decode cX7_init 22 = .ok (.aload_n 0, 1) := by decide +kernel
theorem dX7_init_23 : decode cX7_init 23 = .ok (.sipush 600, 3) := by decide +kernel
theorem dX7_init_26 : decode cX7_init 26 = .ok (.newarray .int, 2) := by decide +kernel
theorem dX7_init_28 : decode cX7_init 28 = .ok (.putfield 18, 3) := by decide +kernel
theorem dX7_init_31 : decode cX7_init 31 = .ok (.aload_n 0, 1) := by decide +kernel
theorem dX7_init_32 : decode cX7_init 32 = .ok (.sipush 600, 3) := by decide +kernel
theorem dX7_init_35 : decode cX7_init 35 = .ok (.newarray .int, 2) := by decide +kernel
theorem dX7_init_37 : decode cX7_init 37 = .ok (.putfield 21, 3) := by decide +kernel
theorem dX7_init_40 : decode cX7_init 40 = .ok (.aload_n 0, 1) := by decide +kernel
theorem dX7_init_41 : decode cX7_init 41 = .ok (.sipush 600, 3) := by decide +kernel
theorem dX7_init_44 : decode cX7_init 44 = .ok (.newarray .int, 2) := by decide +kernel
theorem dX7_init_46 : decode cX7_init 46 = .ok (.putfield 24, 3) := by decide +kernel
theorem dX7_init_49 : decode cX7_init 49 = .ok (.aload_n 0, 1) := by decide +kernel
theorem dX7_init_50 : decode cX7_init 50 = .ok (.sipush 600, 3) := by decide +kernel
theorem dX7_init_53 : decode cX7_init 53 = .ok (.newarray .int, 2) := by decide +kernel
theorem dX7_init_55 : decode cX7_init 55 = .ok (.putfield 27, 3) := by decide +kernel
theorem dX7_init_58 : decode cX7_init 58 = .ok (.aload_n 0, 1) := by decide +kernel
theorem dX7_init_59 : decode cX7_init 59 = .ok (.sipush 600, 3) := by decide +kernel
theorem dX7_init_62 : decode cX7_init 62 = .ok (.newarray .boolean, 2) := by decide +kernel
theorem dX7_init_64 : decode cX7_init 64 = .ok (.putfield 30, 3) := by decide +kernel
theorem dX7_init_67 : decode cX7_init 67 = .ok (.return_, 1) := by decide +kernel
theorem dX8_init_0 : decode cX8_init 0 = .ok (.aload_n 0, 1) := by decide +kernel
theorem dX8_init_1 : decode cX8_init 1 = .ok (.invokespecial 3, 3) := by decide +kernel
theorem dX8_init_4 : decode cX8_init 4 = .ok (.aload_n 0, 1) := by decide +kernel
theorem dX8_init_5 : decode cX8_init 5 = .ok (.new 9, 3) := by decide +kernel
theorem dX8_init_8 : decode cX8_init 8 = .ok (.dup, 1) := by decide +kernel
theorem dX8_init_9 : decode cX8_init 9 = .ok (.invokespecial 11, 3) := by decide +kernel
theorem dX8_init_12 : decode cX8_init 12 = .ok (.putfield 12, 3) := by decide +kernel
theorem dX8_init_15 : decode cX8_init 15 = .ok (.aload_n 0, 1) := by decide +kernel
theorem dX8_init_16 : decode cX8_init 16 = .ok (.new 18, 3) := by decide +kernel
theorem dX8_init_19 : decode cX8_init 19 = .ok (.dup, 1) := by decide +kernel
theorem dX8_init_20 : decode cX8_init 20 = .ok (.invokespecial 20, 3) := by decide +kernel
theorem dX8_init_23 : decode cX8_init 23 = .ok (.putfield 21, 3) := by decide +kernel
theorem dX8_init_26 : decode cX8_init 26 = .ok (.aload_n 0, 1) := by decide +kernel
theorem dX8_init_27 : decode cX8_init 27 = .ok (.sipush 600, 3) := by decide +kernel
theorem dX8_init_30 : decode cX8_init 30 = .ok (.newarray .int, 2) := by decide +kernel
theorem dX8_init_32 : decode cX8_init 32 = .ok (.putfield 25, 3) := by decide +kernel
theorem dX8_init_35 : decode cX8_init 35 = .ok (.aload_n 0, 1) := by decide +kernel
theorem dX8_init_36 : decode cX8_init 36 = .ok (.sipush 600, 3) := by decide +kernel
theorem dX8_init_39 : decode cX8_init 39 = .ok (.newarray .boolean, 2) := by decide +kernel
theorem dX8_init_41 : decode cX8_init 41 = .ok (.putfield 29, 3) := by decide +kernel
theorem dX8_init_44 : decode cX8_init 44 = .ok (.aload_n 0, 1) := by decide +kernel
theorem dX8_init_45 : decode cX8_init 45 = .ok (.sipush 601, 3) := by decide +kernel
theorem dX8_init_48 : decode cX8_init 48 = .ok (.newarray .int, 2) := by decide +kernel
theorem dX8_init_50 : decode cX8_init 50 = .ok (.putfield 33, 3) := by decide +kernel
theorem dX8_init_53 : decode cX8_init 53 = .ok (.return_, 1) := by decide +kernel
theorem dX0_init_0 : decode cX0_init 0 = .ok (.aload_n 0, 1) := by decide +kernel
theorem dX0_init_1 : decode cX0_init 1 = .ok (.invokespecial 3, 3) := by decide +kernel
theorem dX0_init_4 : decode cX0_init 4 = .ok (.aload_n 0, 1) := by decide +kernel
theorem dX0_init_5 : decode cX0_init 5 = .ok (.sipush 601, 3) := by decide +kernel
theorem dX0_init_8 : decode cX0_init 8 = .ok (.newarray .int, 2) := by decide +kernel
theorem dX0_init_10 : decode cX0_init 10 = .ok (.putfield 9, 3) := by decide +kernel
theorem dX0_init_13 : decode cX0_init 13 = .ok (.aload_n 0, 1) := by decide +kernel
theorem dX0_init_14 : decode cX0_init 14 = .ok (.sipush 601, 3) := by decide +kernel
theorem dX0_init_17 : decode cX0_init 17 = .ok (.newarray .int, 2) := by decide +kernel
theorem dX0_init_19 : decode cX0_init 19 = .ok (.putfield 15, 3) := by decide +kernel
theorem dX0_init_22 : decode cX0_init 22 = .ok (.aload_n 0, 1) := by decide +kernel
theorem dX0_init_23 : decode cX0_init 23 = .ok (.sipush 601, 3) := by decide +kernel
theorem dX0_init_26 : decode cX0_init 26 = .ok (.newarray .int, 2) := by decide +kernel
theorem dX0_init_28 : decode cX0_init 28 = .ok (.putfield 18, 3) := by decide +kernel
theorem dX0_init_31 : decode cX0_init 31 = .ok (.aload_n 0, 1) := by decide +kernel
theorem dX0_init_32 : decode cX0_init 32 = .ok (.sipush 601, 3) := by decide +kernel
theorem dX0_init_35 : decode cX0_init 35 = .ok (.newarray .int, 2) := by decide +kernel
theorem dX0_init_37 : decode cX0_init 37 = .ok (.putfield 21, 3) := by decide +kernel
theorem dX0_init_40 : decode cX0_init 40 = .ok (.aload_n 0, 1) := by decide +kernel
theorem dX0_init_41 : decode cX0_init 41 = .ok (.sipush 601, 3) := by decide +kernel
theorem dX0_init_44 : decode cX0_init 44 = .ok (.newarray .int, 2) := by decide +kernel
theorem dX0_init_46 : decode cX0_init 46 = .ok (.putfield 24, 3) := by decide +kernel
theorem dX0_init_49 : decode cX0_init 49 = .ok (.aload_n 0, 1) := by decide +kernel
theorem dX0_init_50 : decode cX0_init 50 = .ok (.sipush 601, 3) := by decide +kernel
theorem dX0_init_53 : decode cX0_init 53 = .ok (.newarray .int, 2) := by decide +kernel
theorem dX0_init_55 : decode cX0_init 55 = .ok (.putfield 27, 3) := by decide +kernel
theorem dX0_init_58 : decode cX0_init 58 = .ok (.aload_n 0, 1) := by decide +kernel
theorem dX0_init_59 : decode cX0_init 59 = .ok (.sipush 601, 3) := by decide +kernel
theorem dX0_init_62 : decode cX0_init 62 = .ok (.newarray .int, 2) := by decide +kernel
theorem dX0_init_64 : decode cX0_init 64 = .ok (.putfield 30, 3) := by decide +kernel
theorem dX0_init_67 : decode cX0_init 67 = .ok (.aload_n 0, 1) := by decide +kernel
theorem dX0_init_68 : decode cX0_init 68 = .ok (.sipush 601, 3) := by decide +kernel
theorem dX0_init_71 : decode cX0_init 71 = .ok (.newarray .int, 2) := by decide +kernel
theorem dX0_init_73 : decode cX0_init 73 = .ok (.putfield 33, 3) := by decide +kernel
theorem dX0_init_76 : decode cX0_init 76 = .ok (.aload_n 0, 1) := by decide +kernel
theorem dX0_init_77 : decode cX0_init 77 = .ok (.sipush 601, 3) := by decide +kernel
theorem dX0_init_80 : decode cX0_init 80 = .ok (.newarray .int, 2) := by decide +kernel
theorem dX0_init_82 : decode cX0_init 82 = .ok (.putfield 36, 3) := by decide +kernel
theorem dX0_init_85 : decode cX0_init 85 = .ok (.return_, 1) := by decide +kernel
theorem dX2_init_0 : decode cX2_init 0 = .ok (.aload_n 0, 1) := by decide +kernel
theorem dX2_init_1 : decode cX2_init 1 = .ok (.invokespecial 3, 3) := by decide +kernel
theorem dX2_init_4 : decode cX2_init 4 = .ok (.aload_n 0, 1) := by decide +kernel
theorem dX2_init_5 : decode cX2_init 5 = .ok (.sipush 1200, 3) := by decide +kernel
theorem dX2_init_8 : decode cX2_init 8 = .ok (.newarray .int, 2) := by decide +kernel
theorem dX2_init_10 : decode cX2_init 10 = .ok (.putfield 9, 3) := by decide +kernel
theorem dX2_init_13 : decode cX2_init 13 = .ok (.aload_n 0, 1) := by decide +kernel
theorem dX2_init_14 : decode cX2_init 14 = .ok (.sipush 1200, 3) := by decide +kernel
theorem dX2_init_17 : decode cX2_init 17 = .ok (.newarray .int, 2) := by decide +kernel
theorem dX2_init_19 : decode cX2_init 19 = .ok (.putfield 15, 3) := by decide +kernel
theorem dX2_init_22 : decode cX2_init 22 = .ok (.aload_n 0, 1) := by decide +kernel
theorem dX2_init_23 : decode cX2_init 23 = .ok (.sipush 1200, 3) := by decide +kernel
theorem dX2_init_26 : decode cX2_init 26 = .ok (.newarray .int, 2) := by decide +kernel
theorem dX2_init_28 : decode cX2_init 28 = .ok (.putfield 18, 3) := by decide +kernel
theorem dX2_init_31 : decode cX2_init 31 = .ok (.aload_n 0, 1) := by decide +kernel
theorem dX2_init_32 : decode cX2_init 32 = .ok (.sipush 1200, 3) := by decide +kernel
theorem dX2_init_35 : decode cX2_init 35 = .ok (.newarray .int, 2) := by decide +kernel
theorem dX2_init_37 : decode cX2_init 37 = .ok (.putfield 21, 3) := by decide +kernel
theorem dX2_init_40 : decode cX2_init 40 = .ok (.aload_n 0, 1) := by decide +kernel
theorem dX2_init_41 : decode cX2_init 41 = .ok (.sipush 1200, 3) := by decide +kernel
theorem dX2_init_44 : decode cX2_init 44 = .ok (.newarray .int, 2) := by decide +kernel
theorem dX2_init_46 : decode cX2_init 46 = .ok (.putfield 24, 3) := by decide +kernel
theorem dX2_init_49 : decode cX2_init 49 = .ok (.aload_n 0, 1) := by decide +kernel
theorem dX2_init_50 : decode cX2_init 50 = .ok (.sipush 1201, 3) := by decide +kernel
theorem dX2_init_53 : decode cX2_init 53 = .ok (.newarray .int, 2) := by decide +kernel
theorem dX2_init_55 : decode cX2_init 55 = .ok (.putfield 27, 3) := by decide +kernel
theorem dX2_init_58 : decode cX2_init 58 = .ok (.aload_n 0, 1) := by decide +kernel
theorem dX2_init_59 : decode cX2_init 59 = .ok (.sipush 1201, 3) := by decide +kernel
theorem dX2_init_62 : decode cX2_init 62 = .ok (.newarray .int, 2) := by decide +kernel
theorem dX2_init_64 : decode cX2_init 64 = .ok (.putfield 30, 3) := by decide +kernel
theorem dX2_init_67 : decode cX2_init 67 = .ok (.return_, 1) := by decide +kernel
theorem dX5_init_0 : decode cX5_init 0 = .ok (.aload_n 0, 1) := by decide +kernel
theorem dX5_init_1 : decode cX5_init 1 = .ok (.invokespecial 3, 3) := by decide +kernel
theorem dX5_init_4 : decode cX5_init 4 = .ok (.aload_n 0, 1) := by decide +kernel
theorem dX5_init_5 : decode cX5_init 5 = .ok (.sipush 601, 3) := by decide +kernel
theorem dX5_init_8 : decode cX5_init 8 = .ok (.newarray .int, 2) := by decide +kernel
theorem dX5_init_10 : decode cX5_init 10 = .ok (.putfield 9, 3) := by decide +kernel
theorem dX5_init_13 : decode cX5_init 13 = .ok (.aload_n 0, 1) := by decide +kernel
theorem dX5_init_14 : decode cX5_init 14 = .ok (.sipush 1200, 3) := by decide +kernel
theorem dX5_init_17 : decode cX5_init 17 = .ok (.newarray .int, 2) := by decide +kernel
theorem dX5_init_19 : decode cX5_init 19 = .ok (.putfield 15, 3) := by decide +kernel
theorem dX5_init_22 : decode cX5_init 22 = .ok (.return_, 1) := by decide +kernel
theorem dX3_init_0 : decode cX3_init 0 = .ok (.aload_n 0, 1) := by decide +kernel
theorem dX3_init_1 : decode cX3_init 1 = .ok (.invokespecial 3, 3) := by decide +kernel
theorem dX3_init_4 : decode cX3_init 4 = .ok (.aload_n 0, 1) := by decide +kernel
theorem dX3_init_5 : decode cX3_init 5 = .ok (.sipush 4000, 3) := by decide +kernel
theorem dX3_init_8 : decode cX3_init 8 = .ok (.newarray .byte, 2) := by decide +kernel
theorem dX3_init_10 : decode cX3_init 10 = .ok (.putfield 9, 3) := by decide +kernel
theorem dX3_init_13 : decode cX3_init 13 = .ok (.return_, 1) := by decide +kernel
theorem dX10_init_0 : decode cX10_init 0 = .ok (.aload_n 0, 1) := by decide +kernel
theorem dX10_init_1 : decode cX10_init 1 = .ok (.invokespecial 1, 3) := by decide +kernel
theorem dX10_init_4 : decode cX10_init 4 = .ok (.aload_n 0, 1) := by decide +kernel
theorem dX10_init_5 : decode cX10_init 5 = .ok (.bipush 8, 2) := by decide +kernel
theorem dX10_init_7 : decode cX10_init 7 = .ok (.newarray .long, 2) := by decide +kernel
theorem dX10_init_9 : decode cX10_init 9 = .ok (.putfield 7, 3) := by decide +kernel
theorem dX10_init_12 : decode cX10_init 12 = .ok (.aload_n 0, 1) := by decide +kernel
theorem dX10_init_13 : decode cX10_init 13 = .ok (.bipush 8, 2) := by decide +kernel
theorem dX10_init_15 : decode cX10_init 15 = .ok (.newarray .int, 2) := by decide +kernel
theorem dX10_init_17 : decode cX10_init 17 = .ok (.putfield 13, 3) := by decide +kernel
theorem dX10_init_20 : decode cX10_init 20 = .ok (.aload_n 0, 1) := by decide +kernel
theorem dX10_init_21 : decode cX10_init 21 = .ok (.iconst 4, 1) := by decide +kernel
theorem dX10_init_22 : decode cX10_init 22 = .ok (.newarray .int, 2) := by decide +kernel
theorem dX10_init_24 : decode cX10_init 24 = .ok (.putfield 17, 3) := by decide +kernel
theorem dX10_init_27 : decode cX10_init 27 = .ok (.aload_n 0, 1) := by decide +kernel
theorem dX10_init_28 : decode cX10_init 28 = .ok (.iconst 4, 1) := by decide +kernel
theorem dX10_init_29 : decode cX10_init 29 = .ok (.newarray .int, 2) := by decide +kernel
theorem dX10_init_31 : decode cX10_init 31 = .ok (.putfield 20, 3) := by decide +kernel
theorem dX10_init_34 : decode cX10_init 34 = .ok (.aload_n 0, 1) := by decide +kernel
theorem dX10_init_35 : decode cX10_init 35 = .ok (.iconst 4, 1) := by decide +kernel
theorem dX10_init_36 : decode cX10_init 36 = .ok (.newarray .long, 2) := by decide +kernel
theorem dX10_init_38 : decode cX10_init 38 = .ok (.putfield 23, 3) := by decide +kernel
theorem dX10_init_41 : decode cX10_init 41 = .ok (.aload_n 0, 1) := by decide +kernel
theorem dX10_init_42 : decode cX10_init 42 = .ok (.iconst 4, 1) := by decide +kernel
theorem dX10_init_43 : decode cX10_init 43 = .ok (.newarray .int, 2) := by decide +kernel
theorem dX10_init_45 : decode cX10_init 45 = .ok (.putfield 26, 3) := by decide +kernel
theorem dX10_init_48 : decode cX10_init 48 = .ok (.aload_n 0, 1) := by decide +kernel
theorem dX10_init_49 : decode cX10_init 49 = .ok (.sipush 600, 3) := by decide +kernel
theorem dX10_init_52 : decode cX10_init 52 = .ok (.newarray .byte, 2) := by decide +kernel
theorem dX10_init_54 : decode cX10_init 54 = .ok (.putfield 29, 3) := by decide +kernel
theorem dX10_init_57 : decode cX10_init 57 = .ok (.aload_n 0, 1) := by decide +kernel
theorem dX10_init_58 : decode cX10_init 58 = .ok (.sipush 600, 3) := by decide +kernel
theorem dX10_init_61 : decode cX10_init 61 = .ok (.newarray .byte, 2) := by decide +kernel
theorem dX10_init_63 : decode cX10_init 63 = .ok (.putfield 33, 3) := by decide +kernel
theorem dX10_init_66 : decode cX10_init 66 = .ok (.aload_n 0, 1) := by decide +kernel
theorem dX10_init_67 : decode cX10_init 67 = .ok (.iconst 4, 1) := by decide +kernel
theorem dX10_init_68 : decode cX10_init 68 = .ok (.newarray .int, 2) := by decide +kernel
theorem dX10_init_70 : decode cX10_init 70 = .ok (.putfield 36, 3) := by decide +kernel
theorem dX10_init_73 : decode cX10_init 73 = .ok (.aload_n 0, 1) := by decide +kernel
theorem dX10_init_74 : decode cX10_init 74 = .ok (.aload_n 0, 1) := by decide +kernel
theorem dX10_init_75 : decode cX10_init 75 = .ok (.getfield 29, 3) := by decide +kernel
theorem dX10_init_78 : decode cX10_init 78 = .ok (.putfield 39, 3) := by decide +kernel
theorem dX10_init_81 : decode cX10_init 81 = .ok (.aload_n 0, 1) := by decide +kernel
theorem dX10_init_82 : decode cX10_init 82 = .ok (.sipush 600, 3) := by decide +kernel
theorem dX10_init_85 : decode cX10_init 85 = .ok (.newarray .int, 2) := by decide +kernel
theorem dX10_init_87 : decode cX10_init 87 = .ok (.putfield 42, 3) := by decide +kernel
theorem dX10_init_90 : decode cX10_init 90 = .ok (.aload_n 0, 1) := by decide +kernel
theorem dX10_init_91 : decode cX10_init 91 = .ok (.sipush 600, 3) := by decide +kernel
theorem dX10_init_94 : decode cX10_init 94 = .ok (.newarray .int, 2) := by decide +kernel
theorem dX10_init_96 : decode cX10_init 96 = .ok (.putfield 45, 3) := by decide +kernel
theorem dX10_init_99 : decode cX10_init 99 = .ok (.aload_n 0, 1) := by decide +kernel
theorem dX10_init_100 : decode cX10_init 100 = .ok (.sipush 600, 3) := by decide +kernel
theorem dX10_init_103 : decode cX10_init 103 = .ok (.newarray .int, 2) := by decide +kernel
theorem dX10_init_105 : decode cX10_init 105 = .ok (.putfield 48, 3) := by decide +kernel
theorem dX10_init_108 : decode cX10_init 108 = .ok (.aload_n 0, 1) := by decide +kernel
theorem dX10_init_109 : decode cX10_init 109 = .ok (.sipush 600, 3) := by decide +kernel
theorem dX10_init_112 : decode cX10_init 112 = .ok (.newarray .int, 2) := by decide +kernel
theorem dX10_init_114 : decode cX10_init 114 = .ok (.putfield 51, 3) := by decide +kernel
theorem dX10_init_117 : decode cX10_init 117 = .ok (.aload_n 0, 1) := by decide +kernel
theorem dX10_init_118 : decode cX10_init 118 = .ok (.sipush 600, 3) := by decide +kernel
theorem dX10_init_121 : decode cX10_init 121 = .ok (.newarray .int, 2) := by decide +kernel
theorem dX10_init_123 : decode cX10_init 123 = .ok (.putfield 54, 3) := by decide +kernel
theorem dX10_init_126 : decode cX10_init 126 = .ok (.aload_n 0, 1) := by decide +kernel
theorem dX10_init_127 : decode cX10_init 127 = .ok (.sipush 600, 3) := by decide +kernel
theorem dX10_init_130 : decode cX10_init 130 = .ok (.newarray .boolean, 2) := by decide +kernel
theorem dX10_init_132 : decode cX10_init 132 = .ok (.putfield 57, 3) := by decide +kernel
theorem dX10_init_135 : decode cX10_init 135 = .ok (.aload_n 0, 1) := by decide +kernel
theorem dX10_init_136 : decode cX10_init 136 = .ok (.sipush 600, 3) := by decide +kernel
theorem dX10_init_139 : decode cX10_init 139 = .ok (.newarray .long, 2) := by decide +kernel
theorem dX10_init_141 : decode cX10_init 141 = .ok (.putfield 61, 3) := by decide +kernel
theorem dX10_init_144 : decode cX10_init 144 = .ok (.aload_n 0, 1) := by decide +kernel
theorem dX10_init_145 : decode cX10_init 145 = .ok (.sipush 600, 3) := by decide +kernel
theorem dX10_init_148 : decode cX10_init 148 = .ok (.newarray .int, 2) := by decide +kernel
theorem dX10_init_150 : decode cX10_init 150 = .ok (.putfield 64, 3) := by decide +kernel
theorem dX10_init_153 : decode cX10_init 153 = .ok (.aload_n 0, 1) := by decide +kernel
theorem dX10_init_154 : decode cX10_init 154 = .ok (.sipush 601, 3) := by decide +kernel
theorem dX10_init_157 : decode cX10_init 157 = .ok (.newarray .int, 2) := by decide +kernel
theorem dX10_init_159 : decode cX10_init 159 = .ok (.putfield 67, 3) := by decide +kernel
theorem dX10_init_162 : decode cX10_init 162 = .ok (.aload_n 0, 1) := by decide +kernel
theorem dX10_init_163 : decode cX10_init 163 = .ok (.sipush 601, 3) := by decide +kernel
theorem dX10_init_166 : decode cX10_init 166 = .ok (.newarray .int, 2) := by decide +kernel
theorem dX10_init_168 : decode cX10_init 168 = .ok (.putfield 70, 3) := by decide +kernel
theorem dX10_init_171 : decode cX10_init 171 = .ok (.aload_n 0, 1) := by decide +kernel
theorem dX10_init_172 : decode cX10_init 172 = .ok (.sipush 1202, 3) := by decide +kernel
theorem dX10_init_175 : decode cX10_init 175 = .ok (.newarray .int, 2) := by decide +kernel
theorem dX10_init_177 : decode cX10_init 177 = .ok (.putfield 73, 3) := by decide +kernel
theorem dX10_init_180 : decode cX10_init 180 = .ok (.aload_n 0, 1) := by decide +kernel
theorem dX10_init_181 : decode cX10_init 181 = .ok (.sipush 1202, 3) := by decide +kernel
theorem dX10_init_184 : decode cX10_init 184 = .ok (.newarray .int, 2) := by decide +kernel
theorem dX10_init_186 : decode cX10_init 186 = .ok (.putfield 76, 3) := by decide +kernel
theorem dX10_init_189 : decode cX10_init 189 = .ok (.aload_n 0, 1) := by decide +kernel
theorem dX10_init_190 : decode cX10_init 190 = .ok (.sipush 1202, 3) := by decide +kernel
theorem dX10_init_193 : decode cX10_init 193 = .ok (.newarray .int, 2) := by decide +kernel
theorem dX10_init_195 : decode cX10_init 195 = .ok (.putfield 79, 3) := by decide +kernel
theorem dX10_init_198 : decode cX10_init 198 = .ok (.aload_n 0, 1) := by decide +kernel
theorem dX10_init_199 : decode cX10_init 199 = .ok (.sipush 1202, 3) := by decide +kernel
theorem dX10_init_202 : decode cX10_init 202 = .ok (.newarray .int, 2) := by decide +kernel
theorem dX10_init_204 : decode cX10_init 204 = .ok (.putfield 82, 3) := by decide +kernel
theorem dX10_init_207 : decode cX10_init 207 = .ok (.aload_n 0, 1) := by decide +kernel
theorem dX10_init_208 : decode cX10_init 208 = .ok (.sipush 1202, 3) := by decide +kernel
theorem dX10_init_211 : decode cX10_init 211 = .ok (.newarray .int, 2) := by decide +kernel
theorem dX10_init_213 : decode cX10_init 213 = .ok (.putfield 85, 3) := by decide +kernel
theorem dX10_init_216 : decode cX10_init 216 = .ok (.aload_n 0, 1) := by decide +kernel
theorem dX10_init_217 : decode cX10_init 217 = .ok (.sipush 1202, 3) := by decide +kernel
theorem dX10_init_220 : decode cX10_init 220 = .ok (.newarray .int, 2) := by decide +kernel
theorem dX10_init_222 : decode cX10_init 222 = .ok (.putfield 88, 3) := by decide +kernel
theorem dX10_init_225 : decode cX10_init 225 = .ok (.aload_n 0, 1) := by decide +kernel
theorem dX10_init_226 : decode cX10_init 226 = .ok (.sipush 1202, 3) := by decide +kernel
theorem dX10_init_229 : decode cX10_init 229 = .ok (.newarray .int, 2) := by decide +kernel
theorem dX10_init_231 : decode cX10_init 231 = .ok (.putfield 91, 3) := by decide +kernel
theorem dX10_init_234 : decode cX10_init 234 = .ok (.aload_n 0, 1) := by decide +kernel
theorem dX10_init_235 : decode cX10_init 235 = .ok (.sipush 1202, 3) := by decide +kernel
theorem dX10_init_238 : decode cX10_init 238 = .ok (.newarray .int, 2) := by decide +kernel
theorem dX10_init_240 : decode cX10_init 240 = .ok (.putfield 94, 3) := by decide +kernel
theorem dX10_init_243 : decode cX10_init 243 = .ok (.aload_n 0, 1) := by decide +kernel
theorem dX10_init_244 : decode cX10_init 244 = .ok (.sipush 1202, 3) := by decide +kernel
theorem dX10_init_247 : decode cX10_init 247 = .ok (.newarray .int, 2) := by decide +kernel
theorem dX10_init_249 : decode cX10_init 249 = .ok (.putfield 97, 3) := by decide +kernel
theorem dX10_init_252 : decode cX10_init 252 = .ok (.aload_n 0, 1) := by decide +kernel
theorem dX10_init_253 : decode cX10_init 253 = .ok (.sipush 1202, 3) := by decide +kernel
theorem dX10_init_256 : decode cX10_init 256 = .ok (.newarray .int, 2) := by decide +kernel
theorem dX10_init_258 : decode cX10_init 258 = .ok (.putfield 100, 3) := by decide +kernel
theorem dX10_init_261 : decode cX10_init 261 = .ok (.aload_n 0, 1) := by decide +kernel
theorem dX10_init_262 : decode cX10_init 262 = .ok (.sipush 1202, 3) := by decide +kernel
theorem dX10_init_265 : decode cX10_init 265 = .ok (.newarray .int, 2) := by decide +kernel
theorem dX10_init_267 : decode cX10_init 267 = .ok (.putfield 103, 3) := by decide +kernel
theorem dX10_init_270 : decode cX10_init 270 = .ok (.aload_n 0, 1) := by decide +kernel
theorem dX10_init_271 : decode cX10_init 271 = .ok (.sipush 1202, 3) := by decide +kernel
theorem dX10_init_274 : decode cX10_init 274 = .ok (.newarray .int, 2) := by decide +kernel
theorem dX10_init_276 : decode cX10_init 276 = .ok (.putfield 106, 3) := by decide +kernel
theorem dX10_init_279 : decode cX10_init 279 = .ok (.aload_n 0, 1) := by decide +kernel
theorem dX10_init_280 : decode cX10_init 280 = .ok (.sipush 1202, 3) := by decide +kernel
theorem dX10_init_283 : decode cX10_init 283 = .ok (.newarray .int, 2) := by decide +kernel
theorem dX10_init_285 : decode cX10_init 285 = .ok (.putfield 109, 3) := by decide +kernel
theorem dX10_init_288 : decode cX10_init 288 = .ok (.aload_n 0, 1) := by decide +kernel
theorem dX10_init_289 : decode cX10_init 289 = .ok (.sipush 1802, 3) := by decide +kernel
theorem dX10_init_292 : decode cX10_init 292 = .ok (.newarray .int, 2) := by decide +kernel
theorem dX10_init_294 : decode cX10_init 294 = .ok (.putfield 112, 3) := by decide +kernel
theorem dX10_init_297 : decode cX10_init 297 = .ok (.aload_n 0, 1) := by decide +kernel
theorem dX10_init_298 : decode cX10_init 298 = .ok (.sipush 1802, 3) := by decide +kernel
theorem dX10_init_301 : decode cX10_init 301 = .ok (.newarray .int, 2) := by decide +kernel
theorem dX10_init_303 : decode cX10_init 303 = .ok (.putfield 115, 3) := by decide +kernel
theorem dX10_init_306 : decode cX10_init 306 = .ok (.aload_n 0, 1) := by decide +kernel
theorem dX10_init_307 : decode cX10_init 307 = .ok (.sipush 1202, 3) := by decide +kernel
theorem dX10_init_310 : decode cX10_init 310 = .ok (.newarray .int, 2) := by decide +kernel
theorem dX10_init_312 : decode cX10_init 312 = .ok (.putfield 118, 3) := by decide +kernel
theorem dX10_init_315 : decode cX10_init 315 = .ok (.aload_n 0, 1) := by decide +kernel
theorem dX10_init_316 : decode cX10_init 316 = .ok (.sipush 4000, 3) := by decide +kernel
theorem dX10_init_319 : decode cX10_init 319 = .ok (.newarray .byte, 2) := by decide +kernel
theorem dX10_init_321 : decode cX10_init 321 = .ok (.putfield 121, 3) := by decide +kernel
theorem dX10_init_324 : decode cX10_init 324 = .ok (.aload_n 0, 1) := by decide +kernel
theorem dX10_init_325 : decode cX10_init 325 = .ok (.sipush 4000, 3) := by decide +kernel
theorem dX10_init_328 : decode cX10_init 328 = .ok (.newarray .byte, 2) := by decide +kernel
theorem dX10_init_330 : decode cX10_init 330 = .ok (.putfield 124, 3) := by decide +kernel
theorem dX10_init_333 : decode cX10_init 333 = .ok (.aload_n 0, 1) := by decide +kernel
theorem dX10_init_334 : decode cX10_init 334 = .ok (.sipush 1202, 3) := by decide +kernel
theorem dX10_init_337 : decode cX10_init 337 = .ok (.newarray .int, 2) := by decide +kernel
theorem dX10_init_339 : decode cX10_init 339 = .ok (.putfield 127, 3) := by decide +kernel
theorem dX10_init_342 : decode cX10_init 342 = .ok (.aload_n 0, 1) := by decide +kernel
theorem dX10_init_343 : decode cX10_init 343 = .ok (.sipush 1202, 3) := by decide +kernel
theorem dX10_init_346 : decode cX10_init 346 = .ok (.newarray .int, 2) := by decide +kernel
theorem dX10_init_348 : decode cX10_init 348 = .ok (.putfield 130, 3) := by decide +kernel
theorem dX10_init_351 : decode cX10_init 351 = .ok (.aload_n 0, 1) := by decide +kernel
theorem dX10_init_352 : decode cX10_init 352 = .ok (.sipush 1202, 3) := by decide +kernel
theorem dX10_init_355 : decode cX10_init 355 = .ok (.newarray .int, 2) := by decide +kernel
theorem dX10_init_357 : decode cX10_init 357 = .ok (.putfield 133, 3) := by decide +kernel
theorem dX10_init_360 : decode cX10_init 360 = .ok (.aload_n 0, 1) := by decide +kernel
theorem dX10_init_361 : decode cX10_init 361 = .ok (.sipush 1202, 3) := by decide +kernel
theorem dX10_init_364 : decode cX10_init 364 = .ok (.newarray .int, 2) := by decide +kernel
theorem dX10_init_366 : decode cX10_init 366 = .ok (.putfield 136, 3) := by decide +kernel
theorem dX10_init_369 : decode cX10_init 369 = .ok (.aload_n 0, 1) := by decide +kernel
theorem dX10_init_370 : decode cX10_init 370 = .ok (.sipush 1202, 3) := by decide +kernel
theorem dX10_init_373 : decode cX10_init 373 = .ok (.newarray .int, 2) := by decide +kernel
theorem dX10_init_375 : decode cX10_init 375 = .ok (.putfield 139, 3) := by decide +kernel
theorem dX10_init_378 : decode cX10_init 378 = .ok (.aload_n 0, 1) := by decide +kernel
theorem dX10_init_379 : decode cX10_init 379 = .ok (.sipush 1202, 3) := by decide +kernel
theorem dX10_init_382 : decode cX10_init 382 = .ok (.newarray .boolean, 2) := by decide +kernel
theorem dX10_init_384 : decode cX10_init 384 = .ok (.putfield 142, 3) := by decide +kernel
theorem dX10_init_387 : decode cX10_init 387 = .ok (.aload_n 0, 1) := by decide +kernel
theorem dX10_init_388 : decode cX10_init 388 = .ok (.sipush 600, 3) := by decide +kernel
theorem dX10_init_391 : decode cX10_init 391 = .ok (.newarray .int, 2) := by decide +kernel
theorem dX10_init_393 : decode cX10_init 393 = .ok (.putfield 145, 3) := by decide +kernel
theorem dX10_init_396 : decode cX10_init 396 = .ok (.aload_n 0, 1) := by decide +kernel
theorem dX10_init_397 : decode cX10_init 397 = .ok (.sipush 600, 3) := by decide +kernel
theorem dX10_init_400 : decode cX10_init 400 = .ok (.newarray .int, 2) := by decide +kernel
theorem dX10_init_402 : decode cX10_init 402 = .ok (.putfield 148, 3) := by decide +kernel
theorem dX10_init_405 : decode cX10_init 405 = .ok (.aload_n 0, 1) := by decide +kernel
theorem dX10_init_406 : decode cX10_init 406 = .ok (.sipush 600, 3) := by decide +kernel
theorem dX10_init_409 : decode cX10_init 409 = .ok (.newarray .int, 2) := by decide +kernel
theorem dX10_init_411 : decode cX10_init 411 = .ok (.putfield 151, 3) := by decide +kernel
theorem dX10_init_414 : decode cX10_init 414 = .ok (.aload_n 0, 1) := by decide +kernel
theorem dX10_init_415 : decode cX10_init 415 = .ok (.sipush 1202, 3) := by decide +kernel
theorem dX10_init_418 : decode cX10_init 418 = .ok (.newarray .int, 2) := by decide +kernel
theorem dX10_init_420 : decode cX10_init 420 = .ok (.putfield 154, 3) := by decide +kernel
theorem dX10_init_423 : decode cX10_init 423 = .ok (.aload_n 0, 1) := by decide +kernel
theorem dX10_init_424 : decode cX10_init 424 = .ok (.sipush 1202, 3) := by decide +kernel
theorem dX10_init_427 : decode cX10_init 427 = .ok (.newarray .int, 2) := by decide +kernel
theorem dX10_init_429 : decode cX10_init 429 = .ok (.putfield 157, 3) := by decide +kernel
theorem dX10_init_432 : decode cX10_init 432 = .ok (.aload_n 0, 1) := by decide +kernel
theorem dX10_init_433 : decode cX10_init 433 = .ok (.sipush 1202, 3) := by decide +kernel
theorem dX10_init_436 : decode cX10_init 436 = .ok (.newarray .int, 2) := by decide +kernel
theorem dX10_init_438 : decode cX10_init 438 = .ok (.putfield 160, 3) := by decide +kernel
theorem dX10_init_441 : decode cX10_init 441 = .ok (.aload_n 0, 1) := by decide +kernel
theorem dX10_init_442 : decode cX10_init 442 = .ok (.iconst 2, 1) := by decide +kernel
theorem dX10_init_443 : decode cX10_init 443 = .ok (.newarray .int, 2) := by decide +kernel
theorem dX10_init_445 : decode cX10_init 445 = .ok (.putfield 163, 3) := by decide +kernel
theorem dX10_init_448 : decode cX10_init 448 = .ok (.aload_n 0, 1) := by decide +kernel
theorem dX10_init_449 : decode cX10_init 449 = .ok (.sipush 200, 3) := by decide +kernel
theorem dX10_init_452 : decode cX10_init 452 = .ok (.newarray .int, 2) := by decide +kernel
theorem dX10_init_454 : decode cX10_init 454 = .ok (.putfield 166, 3) := by decide +kernel
theorem dX10_init_457 : decode cX10_init 457 = .ok (.aload_n 0, 1) := by decide +kernel
theorem dX10_init_458 : decode cX10_init 458 = .ok (.getfield 36, 3) := by decide +kernel
theorem dX10_init_461 : decode cX10_init 461 = .ok (.iconst 1, 1) := by decide +kernel
theorem dX10_init_462 : decode cX10_init 462 = .ok (.bipush (-9), 2) := by decide +kernel
theorem dX10_init_464 : decode cX10_init 464 = .ok (.iastore, 1) := by decide +kernel
theorem dX10_init_465 : decode cX10_init 465 = .ok (.aload_n 0, 1) := by decide +kernel
theorem dX10_init_466 : decode cX10_init 466 = .ok (.getfield 36, 3) := by decide +kernel
theorem dX10_init_469 : decode cX10_init 469 = .ok (.iconst 2, 1) := by decide +kernel
theorem dX10_init_470 : decode cX10_init 470 = .ok (.bipush (-9), 2) := by decide +kernel
theorem dX10_init_472 : decode cX10_init 472 = .ok (.iastore, 1) := by decide +kernel
theorem dX10_init_473 : decode cX10_init 473 = .ok (.aload_n 0, 1) := by decide +kernel
theorem dX10_init_474 : decode cX10_init 474 = .ok (.getfield 36, 3) := by decide +kernel
theorem dX10_init_477 : decode cX10_init 477 = .ok (.iconst 3, 1) := by decide +kernel
theorem dX10_init_478 : decode cX10_init 478 = .ok (.bipush (-9), 2) := by decide +kernel
theorem dX10_init_480 : decode cX10_init 480 = .ok (.iastore, 1) := by decide +kernel
theorem dX10_init_481 : decode cX10_init 481 = .ok (.aload_n 0, 1) := by decide +kernel
theorem dX10_init_482 : decode cX10_init 482 = .ok (.getfield 163, 3) := by decide +kernel
theorem dX10_init_485 : decode cX10_init 485 = .ok (.iconst 0, 1) := by decide +kernel
theorem dX10_init_486 : decode cX10_init 486 = .ok (.bipush (-9), 2) := by decide +kernel
theorem dX10_init_488 : decode cX10_init 488 = .ok (.iastore, 1) := by decide +kernel
theorem dX10_init_489 : decode cX10_init 489 = .ok (.aload_n 0, 1) := by decide +kernel
theorem dX10_init_490 : decode cX10_init 490 = .ok (.getfield 163, 3) := by decide +kernel
theorem dX10_init_493 : decode cX10_init 493 = .ok (.iconst 1, 1) := by decide +kernel
theorem dX10_init_494 : decode cX10_init 494 = .ok (.bipush (-9), 2) := by decide +kernel
theorem dX10_init_496 : decode cX10_init 496 = .ok (.iastore, 1) := by decide +kernel
theorem dX10_init_497 : decode cX10_init 497 = .ok (.return_, 1) := by decide +kernel
theorem f_X1_init_1 {z : Nat → Nat → Bool} {i F : Nat → Nat → Int32} {G : Nat → Nat → Int64} (hF : Fr 2 z i F G) : Fr 4 (upz (upz z 1 0) 1 1) i F G := ((((hF.up (n2 := 3) (Nat.le_of_ble_eq_true rfl)).z (a := 1) (c := 0) (Nat.le_of_ble_eq_true rfl)).up (n2 := 4) (Nat.le_of_ble_eq_true rfl)).z (a := 1) (c := 1) (Nat.le_of_ble_eq_true rfl))
set_option maxHeartbeats 4000000 in
set_option maxRecDepth 100000 in
theorem c_X1_init_1 (l : Launch) (D : va_G) (tA : Nat → ClassId) (b : Nat) (z : Nat → Nat → Bool) (i F : Nat → Nat → Int32) (G : Nat → Nat → Int64) (hF : Fr 2 z i F G) : xMC l yX1_init cX1_init 1 1 12 2 48 D tA b 0 2 z i F G 1 4 (upz (upz z 1 0) 1 1) i F := by
  refine xstart0 (n0 := 4) (o := 0) RX1 rfl (by decide) (Nat.le_of_ble_eq_true rfl) (fun _ h => h.2.2) ?_
  intro p e s m below meth c ls C0 hr hnm h0 hS hl
  obtain ⟨hH, hz, -⟩ := h0
  have hl : lv_has ls 1 [(0, .ref (b + 1))] := hl
  refine lv_aload_n (pc := 0) C0.1 C0.2.1 dX1_init_0 rfl (lv_at hl 0 rfl) ?_
  refine xobj (pc := 1) C0 ml_X1_3 im_obj cd_obj hl.1 dX1_init_1 ⟨Nat.le_of_ble_eq_true rfl, Nat.le_of_ble_eq_true rfl⟩ ?_
  refine lv_aload_n (pc := 4) C0.1 C0.2.1 dX1_init_4 rfl (lv_at hl 0 rfl) ?_
  refine lv_bipush (pc := 5) (v := 24) C0.1 C0.2.1 dX1_init_5 (by decide) ?_
  refine xnewa (pc := 7) (N := 24) (t := 3) (ty := .long) C0 (Nat.le_of_ble_eq_true rfl) hH hz hS ac_long rfl ⟨rfl, rfl⟩ ⟨rfl, by decide, trivial⟩ (hF.aJ) ⟨by decide, by decide⟩ (by decide) ⟨Nat.le_of_ble_eq_true rfl, Nat.le_of_ble_eq_true rfl⟩ (by decide) dX1_init_7 (fun _ hH hz hS => ?_)
  have hF := hF.up (n2 := 3) (Nat.le_of_ble_eq_true rfl)
  refine xputF (pc := 9) C0 (Nat.le_of_ble_eq_true rfl) hnm hH hS 1 0 2 clX1 ⟨Nat.le_of_ble_eq_true rfl, Nat.le_of_ble_eq_true rfl⟩ ⟨rfl, rfl⟩ ⟨Nat.le_of_ble_eq_true rfl, rfl, by decide, by decide, rfl, rfl⟩ fl_X1_9 (fun q => ⟨rfl, rfl⟩) dX1_init_9 (fun _ locs hH hS hsz => ?_)
  have hF := hF.z (a := 1) (c := 0) (Nat.le_of_ble_eq_true rfl)
  have hz := hsz.trans hz
  refine lv_aload_n (pc := 12) C0.1 C0.2.1 dX1_init_12 rfl (lv_at hl 0 rfl) ?_
  refine lv_bipush (pc := 13) (v := 24) C0.1 C0.2.1 dX1_init_13 (by decide) ?_
  refine xnewa (pc := 15) (N := 24) (t := 0) (ty := .int) C0 (Nat.le_of_ble_eq_true rfl) hH hz hS ac_int rfl ⟨rfl, rfl⟩ ⟨rfl, by decide, trivial⟩ (hF.aI (by decide) rfl) ⟨by decide, by decide⟩ (by decide) ⟨Nat.le_of_ble_eq_true rfl, Nat.le_of_ble_eq_true rfl⟩ (by decide) dX1_init_15 (fun _ hH hz hS => ?_)
  have hF := hF.up (n2 := 4) (Nat.le_of_ble_eq_true rfl)
  refine xputF (pc := 17) C0 (Nat.le_of_ble_eq_true rfl) hnm hH hS 1 1 3 clX1 ⟨Nat.le_of_ble_eq_true rfl, Nat.le_of_ble_eq_true rfl⟩ ⟨rfl, rfl⟩ ⟨Nat.le_of_ble_eq_true rfl, rfl, by decide, by decide, rfl, rfl⟩ fl_X1_15 (fun q => ⟨rfl, rfl⟩) dX1_init_17 (fun _ locs hH hS hsz => ?_)
  have hF := hF.z (a := 1) (c := 1) (Nat.le_of_ble_eq_true rfl)
  have hz := hsz.trans hz
  refine W.widen (k := 2) (n := 48) (by decide) (by decide) ?_
  exact xcret C0 hr hH hz hS dX1_init_20
theorem f_X6_init_4 {z : Nat → Nat → Bool} {i F : Nat → Nat → Int32} {G : Nat → Nat → Int64} (hF : Fr 5 z i F G) : Fr 6 (upz z 4 0) i F G := ((hF.up (n2 := 6) (Nat.le_of_ble_eq_true rfl)).z (a := 4) (c := 0) (Nat.le_of_ble_eq_true rfl))
set_option maxHeartbeats 4000000 in
set_option maxRecDepth 100000 in
theorem c_X6_init_4 (l : Launch) (D : va_G) (tA : Nat → ClassId) (b : Nat) (z : Nat → Nat → Bool) (i F : Nat → Nat → Int32) (G : Nat → Nat → Int64) (hF : Fr 5 z i F G) : xMC l yX6_init cX6_init 1 1 12 1 600 D tA b 0 5 z i F G 4 6 (upz z 4 0) i F := by
  refine xstart0 (n0 := 6) (o := 0) RX6 rfl (by decide) (Nat.le_of_ble_eq_true rfl) (fun _ h => h.2.2) ?_
  intro p e s m below meth c ls C0 hr hnm h0 hS hl
  obtain ⟨hH, hz, -⟩ := h0
  have hl : lv_has ls 1 [(0, .ref (b + 4))] := hl
  refine lv_aload_n (pc := 0) C0.1 C0.2.1 dX6_init_0 rfl (lv_at hl 0 rfl) ?_
  refine xobj (pc := 1) C0 ml_X6_3 im_obj cd_obj hl.1 dX6_init_1 ⟨Nat.le_of_ble_eq_true rfl, Nat.le_of_ble_eq_true rfl⟩ ?_
  refine lv_aload_n (pc := 4) C0.1 C0.2.1 dX6_init_4 rfl (lv_at hl 0 rfl) ?_
  refine lv_sipush (pc := 5) (v := 600) C0.1 C0.2.1 dX6_init_5 (by decide) ?_
  refine xnewa (pc := 8) (N := 600) (t := 1) (ty := .byte) C0 (Nat.le_of_ble_eq_true rfl) hH hz hS ac_byte rfl ⟨rfl, rfl⟩ ⟨rfl, by decide, trivial⟩ (hF.aI (by decide) rfl) ⟨by decide, by decide⟩ (by decide) ⟨Nat.le_of_ble_eq_true rfl, Nat.le_of_ble_eq_true rfl⟩ (by decide) dX6_init_8 (fun _ hH hz hS => ?_)
  have hF := hF.up (n2 := 6) (Nat.le_of_ble_eq_true rfl)
  refine xputF (pc := 10) C0 (Nat.le_of_ble_eq_true rfl) hnm hH hS 4 0 5 clX6 ⟨Nat.le_of_ble_eq_true rfl, Nat.le_of_ble_eq_true rfl⟩ ⟨rfl, rfl⟩ ⟨Nat.le_of_ble_eq_true rfl, rfl, by decide, by decide, rfl, rfl⟩ fl_X6_9 (fun q => ⟨rfl, rfl⟩) dX6_init_10 (fun _ locs hH hS hsz => ?_)
  have hF := hF.z (a := 4) (c := 0) (Nat.le_of_ble_eq_true rfl)
  have hz := hsz.trans hz
  refine W.widen (k := 1) (n := 600) (by decide) (by decide) ?_
  exact xcret C0 hr hH hz hS dX6_init_13
theorem f_X6_init_6 {z : Nat → Nat → Bool} {i F : Nat → Nat → Int32} {G : Nat → Nat → Int64} (hF : Fr 7 z i F G) : Fr 8 (upz z 6 0) i F G := ((hF.up (n2 := 8) (Nat.le_of_ble_eq_true rfl)).z (a := 6) (c := 0) (Nat.le_of_ble_eq_true rfl))
set_option maxHeartbeats 4000000 in
set_option maxRecDepth 100000 in
theorem c_X6_init_6 (l : Launch) (D : va_G) (tA : Nat → ClassId) (b : Nat) (z : Nat → Nat → Bool) (i F : Nat → Nat → Int32) (G : Nat → Nat → Int64) (hF : Fr 7 z i F G) : xMC l yX6_init cX6_init 1 1 12 1 600 D tA b 0 7 z i F G 6 8 (upz z 6 0) i F := by
  refine xstart0 (n0 := 8) (o := 0) RX6 rfl (by decide) (Nat.le_of_ble_eq_true rfl) (fun _ h => h.2.2) ?_
  intro p e s m below meth c ls C0 hr hnm h0 hS hl
  obtain ⟨hH, hz, -⟩ := h0
  have hl : lv_has ls 1 [(0, .ref (b + 6))] := hl
  refine lv_aload_n (pc := 0) C0.1 C0.2.1 dX6_init_0 rfl (lv_at hl 0 rfl) ?_
  refine xobj (pc := 1) C0 ml_X6_3 im_obj cd_obj hl.1 dX6_init_1 ⟨Nat.le_of_ble_eq_true rfl, Nat.le_of_ble_eq_true rfl⟩ ?_
  refine lv_aload_n (pc := 4) C0.1 C0.2.1 dX6_init_4 rfl (lv_at hl 0 rfl) ?_
  refine lv_sipush (pc := 5) (v := 600) C0.1 C0.2.1 dX6_init_5 (by decide) ?_
  refine xnewa (pc := 8) (N := 600) (t := 1) (ty := .byte) C0 (Nat.le_of_ble_eq_true rfl) hH hz hS ac_byte rfl ⟨rfl, rfl⟩ ⟨rfl, by decide, trivial⟩ (hF.aI (by decide) rfl) ⟨by decide, by decide⟩ (by decide) ⟨Nat.le_of_ble_eq_true rfl, Nat.le_of_ble_eq_true rfl⟩ (by decide) dX6_init_8 (fun _ hH hz hS => ?_)
  have hF := hF.up (n2 := 8) (Nat.le_of_ble_eq_true rfl)
  refine xputF (pc := 10) C0 (Nat.le_of_ble_eq_true rfl) hnm hH hS 6 0 7 clX6 ⟨Nat.le_of_ble_eq_true rfl, Nat.le_of_ble_eq_true rfl⟩ ⟨rfl, rfl⟩ ⟨Nat.le_of_ble_eq_true rfl, rfl, by decide, by decide, rfl, rfl⟩ fl_X6_9 (fun q => ⟨rfl, rfl⟩) dX6_init_10 (fun _ locs hH hS hsz => ?_)
  have hF := hF.z (a := 6) (c := 0) (Nat.le_of_ble_eq_true rfl)
  have hz := hsz.trans hz
  refine W.widen (k := 1) (n := 600) (by decide) (by decide) ?_
  exact xcret C0 hr hH hz hS dX6_init_13
theorem f_X7_init_9 {z : Nat → Nat → Bool} {i F : Nat → Nat → Int32} {G : Nat → Nat → Int64} (hF : Fr 10 z i F G) : Fr 17 (upz (upz (upz (upz (upz (upz (upz z 9 0) 9 1) 9 2) 9 3) 9 4) 9 5) 9 6) i F G := ((((((((((((((hF.up (n2 := 11) (Nat.le_of_ble_eq_true rfl)).z (a := 9) (c := 0) (Nat.le_of_ble_eq_true rfl)).up (n2 := 12) (Nat.le_of_ble_eq_true rfl)).z (a := 9) (c := 1) (Nat.le_of_ble_eq_true rfl)).up (n2 := 13) (Nat.le_of_ble_eq_true rfl)).z (a := 9) (c := 2) (Nat.le_of_ble_eq_true rfl)).up (n2 := 14) (Nat.le_of_ble_eq_true rfl)).z (a := 9) (c := 3) (Nat.le_of_ble_eq_true rfl)).up (n2 := 15) (Nat.le_of_ble_eq_true rfl)).z (a := 9) (c := 4) (Nat.le_of_ble_eq_true rfl)).up (n2 := 16) (Nat.le_of_ble_eq_true rfl)).z (a := 9) (c := 5) (Nat.le_of_ble_eq_true rfl)).up (n2 := 17) (Nat.le_of_ble_eq_true rfl)).z (a := 9) (c := 6) (Nat.le_of_ble_eq_true rfl))
set_option maxHeartbeats 4000000 in
set_option maxRecDepth 100000 in
theorem c_X7_init_9 (l : Launch) (D : va_G) (tA : Nat → ClassId) (b : Nat) (z : Nat → Nat → Bool) (i F : Nat → Nat → Int32) (G : Nat → Nat → Int64) (hF : Fr 10 z i F G) : xMC l yX7_init cX7_init 1 1 12 7 4200 D tA b 0 10 z i F G 9 17 (upz (upz (upz (upz (upz (upz (upz z 9 0) 9 1) 9 2) 9 3) 9 4) 9 5) 9 6) i F := by
  refine xstart0 (n0 := 17) (o := 0) RX7 rfl (by decide) (Nat.le_of_ble_eq_true rfl) (fun _ h => h.2.2) ?_
  intro p e s m below meth c ls C0 hr hnm h0 hS hl
  obtain ⟨hH, hz, -⟩ := h0
  have hl : lv_has ls 1 [(0, .ref (b + 9))] := hl
  refine lv_aload_n (pc := 0) C0.1 C0.2.1 dX7_init_0 rfl (lv_at hl 0 rfl) ?_
  refine xobj (pc := 1) C0 ml_X7_3 im_obj cd_obj hl.1 dX7_init_1 ⟨Nat.le_of_ble_eq_true rfl, Nat.le_of_ble_eq_true rfl⟩ ?_
  refine lv_aload_n (pc := 4) C0.1 C0.2.1 dX7_init_4 rfl (lv_at hl 0 rfl) ?_
  refine lv_sipush (pc := 5) (v := 600) C0.1 C0.2.1 dX7_init_5 (by decide) ?_
  refine xnewa (pc := 8) (N := 600) (t := 0) (ty := .int) C0 (Nat.le_of_ble_eq_true rfl) hH hz hS ac_int rfl ⟨rfl, rfl⟩ ⟨rfl, by decide, trivial⟩ (hF.aI (by decide) rfl) ⟨by decide, by decide⟩ (by decide) ⟨Nat.le_of_ble_eq_true rfl, Nat.le_of_ble_eq_true rfl⟩ (by decide) dX7_init_8 (fun _ hH hz hS => ?_)
  have hF := hF.up (n2 := 11) (Nat.le_of_ble_eq_true rfl)
  refine xputF (pc := 10) C0 (Nat.le_of_ble_eq_true rfl) hnm hH hS 9 0 10 clX7 ⟨Nat.le_of_ble_eq_true rfl, Nat.le_of_ble_eq_true rfl⟩ ⟨rfl, rfl⟩ ⟨Nat.le_of_ble_eq_true rfl, rfl, by decide, by decide, rfl, rfl⟩ fl_X7_9 (fun q => ⟨rfl, rfl⟩) dX7_init_10 (fun _ locs hH hS hsz => ?_)
  have hF := hF.z (a := 9) (c := 0) (Nat.le_of_ble_eq_true rfl)
  have hz := hsz.trans hz
  refine lv_aload_n (pc := 13) C0.1 C0.2.1 dX7_init_13 rfl (lv_at hl 0 rfl) ?_
  refine lv_sipush (pc := 14) (v := 600) C0.1 C0.2.1 dX7_init_14 (by decide) ?_
  refine xnewa (pc := 17) (N := 600) (t := 0) (ty := .int) C0 (Nat.le_of_ble_eq_true rfl) hH hz hS ac_int rfl ⟨rfl, rfl⟩ ⟨rfl, by decide, trivial⟩ (hF.aI (by decide) rfl) ⟨by decide, by decide⟩ (by decide) ⟨Nat.le_of_ble_eq_true rfl, Nat.le_of_ble_eq_true rfl⟩ (by decide) dX7_init_17 (fun _ hH hz hS => ?_)
  have hF := hF.up (n2 := 12) (Nat.le_of_ble_eq_true rfl)
  refine xputF (pc := 19) C0 (Nat.le_of_ble_eq_true rfl) hnm hH hS 9 1 11 clX7 ⟨Nat.le_of_ble_eq_true rfl, Nat.le_of_ble_eq_true rfl⟩ ⟨rfl, rfl⟩ ⟨Nat.le_of_ble_eq_true rfl, rfl, by decide, by decide, rfl, rfl⟩ fl_X7_15 (fun q => ⟨rfl, rfl⟩) dX7_init_19 (fun _ locs hH hS hsz => ?_)
  have hF := hF.z (a := 9) (c := 1) (Nat.le_of_ble_eq_true rfl)
  have hz := hsz.trans hz
  refine lv_aload_n (pc := 22) C0.1 C0.2.1 dX7_init_22 rfl (lv_at hl 0 rfl) ?_
  refine lv_sipush (pc := 23) (v := 600) C0.1 C0.2.1 dX7_init_23 (by decide) ?_
  refine xnewa (pc := 26) (N := 600) (t := 0) (ty := .int) C0 (Nat.le_of_ble_eq_true rfl) hH hz hS ac_int rfl ⟨rfl, rfl⟩ ⟨rfl, by decide, trivial⟩ (hF.aI (by decide) rfl) ⟨by decide, by decide⟩ (by decide) ⟨Nat.le_of_ble_eq_true rfl, Nat.le_of_ble_eq_true rfl⟩ (by decide) dX7_init_26 (fun _ hH hz hS => ?_)
  have hF := hF.up (n2 := 13) (Nat.le_of_ble_eq_true rfl)
  refine xputF (pc := 28) C0 (Nat.le_of_ble_eq_true rfl) hnm hH hS 9 2 12 clX7 ⟨Nat.le_of_ble_eq_true rfl, Nat.le_of_ble_eq_true rfl⟩ ⟨rfl, rfl⟩ ⟨Nat.le_of_ble_eq_true rfl, rfl, by decide, by decide, rfl, rfl⟩ fl_X7_18 (fun q => ⟨rfl, rfl⟩) dX7_init_28 (fun _ locs hH hS hsz => ?_)
  have hF := hF.z (a := 9) (c := 2) (Nat.le_of_ble_eq_true rfl)
  have hz := hsz.trans hz
  refine lv_aload_n (pc := 31) C0.1 C0.2.1 dX7_init_31 rfl (lv_at hl 0 rfl) ?_
  refine lv_sipush (pc := 32) (v := 600) C0.1 C0.2.1 dX7_init_32 (by decide) ?_
  refine xnewa (pc := 35) (N := 600) (t := 0) (ty := .int) C0 (Nat.le_of_ble_eq_true rfl) hH hz hS ac_int rfl ⟨rfl, rfl⟩ ⟨rfl, by decide, trivial⟩ (hF.aI (by decide) rfl) ⟨by decide, by decide⟩ (by decide) ⟨Nat.le_of_ble_eq_true rfl, Nat.le_of_ble_eq_true rfl⟩ (by decide) dX7_init_35 (fun _ hH hz hS => ?_)
  have hF := hF.up (n2 := 14) (Nat.le_of_ble_eq_true rfl)
  refine xputF (pc := 37) C0 (Nat.le_of_ble_eq_true rfl) hnm hH hS 9 3 13 clX7 ⟨Nat.le_of_ble_eq_true rfl, Nat.le_of_ble_eq_true rfl⟩ ⟨rfl, rfl⟩ ⟨Nat.le_of_ble_eq_true rfl, rfl, by decide, by decide, rfl, rfl⟩ fl_X7_21 (fun q => ⟨rfl, rfl⟩) dX7_init_37 (fun _ locs hH hS hsz => ?_)
  have hF := hF.z (a := 9) (c := 3) (Nat.le_of_ble_eq_true rfl)
  have hz := hsz.trans hz
  refine lv_aload_n (pc := 40) C0.1 C0.2.1 dX7_init_40 rfl (lv_at hl 0 rfl) ?_
  refine lv_sipush (pc := 41) (v := 600) C0.1 C0.2.1 dX7_init_41 (by decide) ?_
  refine xnewa (pc := 44) (N := 600) (t := 0) (ty := .int) C0 (Nat.le_of_ble_eq_true rfl) hH hz hS ac_int rfl ⟨rfl, rfl⟩ ⟨rfl, by decide, trivial⟩ (hF.aI (by decide) rfl) ⟨by decide, by decide⟩ (by decide) ⟨Nat.le_of_ble_eq_true rfl, Nat.le_of_ble_eq_true rfl⟩ (by decide) dX7_init_44 (fun _ hH hz hS => ?_)
  have hF := hF.up (n2 := 15) (Nat.le_of_ble_eq_true rfl)
  refine xputF (pc := 46) C0 (Nat.le_of_ble_eq_true rfl) hnm hH hS 9 4 14 clX7 ⟨Nat.le_of_ble_eq_true rfl, Nat.le_of_ble_eq_true rfl⟩ ⟨rfl, rfl⟩ ⟨Nat.le_of_ble_eq_true rfl, rfl, by decide, by decide, rfl, rfl⟩ fl_X7_24 (fun q => ⟨rfl, rfl⟩) dX7_init_46 (fun _ locs hH hS hsz => ?_)
  have hF := hF.z (a := 9) (c := 4) (Nat.le_of_ble_eq_true rfl)
  have hz := hsz.trans hz
  refine lv_aload_n (pc := 49) C0.1 C0.2.1 dX7_init_49 rfl (lv_at hl 0 rfl) ?_
  refine lv_sipush (pc := 50) (v := 600) C0.1 C0.2.1 dX7_init_50 (by decide) ?_
  refine xnewa (pc := 53) (N := 600) (t := 0) (ty := .int) C0 (Nat.le_of_ble_eq_true rfl) hH hz hS ac_int rfl ⟨rfl, rfl⟩ ⟨rfl, by decide, trivial⟩ (hF.aI (by decide) rfl) ⟨by decide, by decide⟩ (by decide) ⟨Nat.le_of_ble_eq_true rfl, Nat.le_of_ble_eq_true rfl⟩ (by decide) dX7_init_53 (fun _ hH hz hS => ?_)
  have hF := hF.up (n2 := 16) (Nat.le_of_ble_eq_true rfl)
  refine xputF (pc := 55) C0 (Nat.le_of_ble_eq_true rfl) hnm hH hS 9 5 15 clX7 ⟨Nat.le_of_ble_eq_true rfl, Nat.le_of_ble_eq_true rfl⟩ ⟨rfl, rfl⟩ ⟨Nat.le_of_ble_eq_true rfl, rfl, by decide, by decide, rfl, rfl⟩ fl_X7_27 (fun q => ⟨rfl, rfl⟩) dX7_init_55 (fun _ locs hH hS hsz => ?_)
  have hF := hF.z (a := 9) (c := 5) (Nat.le_of_ble_eq_true rfl)
  have hz := hsz.trans hz
  refine lv_aload_n (pc := 58) C0.1 C0.2.1 dX7_init_58 rfl (lv_at hl 0 rfl) ?_
  refine lv_sipush (pc := 59) (v := 600) C0.1 C0.2.1 dX7_init_59 (by decide) ?_
  refine xnewa (pc := 62) (N := 600) (t := 2) (ty := .boolean) C0 (Nat.le_of_ble_eq_true rfl) hH hz hS ac_boolean rfl ⟨rfl, rfl⟩ ⟨rfl, by decide, trivial⟩ (hF.aI (by decide) rfl) ⟨by decide, by decide⟩ (by decide) ⟨Nat.le_of_ble_eq_true rfl, Nat.le_of_ble_eq_true rfl⟩ (by decide) dX7_init_62 (fun _ hH hz hS => ?_)
  have hF := hF.up (n2 := 17) (Nat.le_of_ble_eq_true rfl)
  refine xputF (pc := 64) C0 (Nat.le_of_ble_eq_true rfl) hnm hH hS 9 6 16 clX7 ⟨Nat.le_of_ble_eq_true rfl, Nat.le_of_ble_eq_true rfl⟩ ⟨rfl, rfl⟩ ⟨Nat.le_of_ble_eq_true rfl, rfl, by decide, by decide, rfl, rfl⟩ fl_X7_30 (fun q => ⟨rfl, rfl⟩) dX7_init_64 (fun _ locs hH hS hsz => ?_)
  have hF := hF.z (a := 9) (c := 6) (Nat.le_of_ble_eq_true rfl)
  have hz := hsz.trans hz
  refine W.widen (k := 7) (n := 4200) (by decide) (by decide) ?_
  exact xcret C0 hr hH hz hS dX7_init_67
theorem f_X0_init_18 {z : Nat → Nat → Bool} {i F : Nat → Nat → Int32} {G : Nat → Nat → Int64} (hF : Fr 19 z i F G) : Fr 28 (upz (upz (upz (upz (upz (upz (upz (upz (upz z 18 0) 18 1) 18 2) 18 3) 18 4) 18 5) 18 6) 18 7) 18 8) i F G := ((((((((((((((((((hF.up (n2 := 20) (Nat.le_of_ble_eq_true rfl)).z (a := 18) (c := 0) (Nat.le_of_ble_eq_true rfl)).up (n2 := 21) (Nat.le_of_ble_eq_true rfl)).z (a := 18) (c := 1) (Nat.le_of_ble_eq_true rfl)).up (n2 := 22) (Nat.le_of_ble_eq_true rfl)).z (a := 18) (c := 2) (Nat.le_of_ble_eq_true rfl)).up (n2 := 23) (Nat.le_of_ble_eq_true rfl)).z (a := 18) (c := 3) (Nat.le_of_ble_eq_true rfl)).up (n2 := 24) (Nat.le_of_ble_eq_true rfl)).z (a := 18) (c := 4) (Nat.le_of_ble_eq_true rfl)).up (n2 := 25) (Nat.le_of_ble_eq_true rfl)).z (a := 18) (c := 5) (Nat.le_of_ble_eq_true rfl)).up (n2 := 26) (Nat.le_of_ble_eq_true rfl)).z (a := 18) (c := 6) (Nat.le_of_ble_eq_true rfl)).up (n2 := 27) (Nat.le_of_ble_eq_true rfl)).z (a := 18) (c := 7) (Nat.le_of_ble_eq_true rfl)).up (n2 := 28) (Nat.le_of_ble_eq_true rfl)).z (a := 18) (c := 8) (Nat.le_of_ble_eq_true rfl))
set_option maxHeartbeats 4000000 in
set_option maxRecDepth 100000 in
theorem c_X0_init_18 (l : Launch) (D : va_G) (tA : Nat → ClassId) (b : Nat) (z : Nat → Nat → Bool) (i F : Nat → Nat → Int32) (G : Nat → Nat → Int64) (hF : Fr 19 z i F G) : xMC l yX0_init cX0_init 1 1 12 9 5409 D tA b 0 19 z i F G 18 28 (upz (upz (upz (upz (upz (upz (upz (upz (upz z 18 0) 18 1) 18 2) 18 3) 18 4) 18 5) 18 6) 18 7) 18 8) i F := by
  refine xstart0 (n0 := 28) (o := 0) RX0 rfl (by decide) (Nat.le_of_ble_eq_true rfl) (fun _ h => h.2.2) ?_
  intro p e s m below meth c ls C0 hr hnm h0 hS hl
  obtain ⟨hH, hz, -⟩ := h0
  have hl : lv_has ls 1 [(0, .ref (b + 18))] := hl
  refine lv_aload_n (pc := 0) C0.1 C0.2.1 dX0_init_0 rfl (lv_at hl 0 rfl) ?_
  refine xobj (pc := 1) C0 ml_X0_3 im_obj cd_obj hl.1 dX0_init_1 ⟨Nat.le_of_ble_eq_true rfl, Nat.le_of_ble_eq_true rfl⟩ ?_
  refine lv_aload_n (pc := 4) C0.1 C0.2.1 dX0_init_4 rfl (lv_at hl 0 rfl) ?_
  refine lv_sipush (pc := 5) (v := 601) C0.1 C0.2.1 dX0_init_5 (by decide) ?_
  refine xnewa (pc := 8) (N := 601) (t := 0) (ty := .int) C0 (Nat.le_of_ble_eq_true rfl) hH hz hS ac_int rfl ⟨rfl, rfl⟩ ⟨rfl, by decide, trivial⟩ (hF.aI (by decide) rfl) ⟨by decide, by decide⟩ (by decide) ⟨Nat.le_of_ble_eq_true rfl, Nat.le_of_ble_eq_true rfl⟩ (by decide) dX0_init_8 (fun _ hH hz hS => ?_)
  have hF := hF.up (n2 := 20) (Nat.le_of_ble_eq_true rfl)
  refine xputF (pc := 10) C0 (Nat.le_of_ble_eq_true rfl) hnm hH hS 18 0 19 clX0 ⟨Nat.le_of_ble_eq_true rfl, Nat.le_of_ble_eq_true rfl⟩ ⟨rfl, rfl⟩ ⟨Nat.le_of_ble_eq_true rfl, rfl, by decide, by decide, rfl, rfl⟩ fl_X0_9 (fun q => ⟨rfl, rfl⟩) dX0_init_10 (fun _ locs hH hS hsz => ?_)
  have hF := hF.z (a := 18) (c := 0) (Nat.le_of_ble_eq_true rfl)
  have hz := hsz.trans hz
  refine lv_aload_n (pc := 13) C0.1 C0.2.1 dX0_init_13 rfl (lv_at hl 0 rfl) ?_
  refine lv_sipush (pc := 14) (v := 601) C0.1 C0.2.1 dX0_init_14 (by decide) ?_
  refine xnewa (pc := 17) (N := 601) (t := 0) (ty := .int) C0 (Nat.le_of_ble_eq_true rfl) hH hz hS ac_int rfl ⟨rfl, rfl⟩ ⟨rfl, by decide, trivial⟩ (hF.aI (by decide) rfl) ⟨by decide, by decide⟩ (by decide) ⟨Nat.le_of_ble_eq_true rfl, Nat.le_of_ble_eq_true rfl⟩ (by decide) dX0_init_17 (fun _ hH hz hS => ?_)
  have hF := hF.up (n2 := 21) (Nat.le_of_ble_eq_true rfl)
  refine xputF (pc := 19) C0 (Nat.le_of_ble_eq_true rfl) hnm hH hS 18 1 20 clX0 ⟨Nat.le_of_ble_eq_true rfl, Nat.le_of_ble_eq_true rfl⟩ ⟨rfl, rfl⟩ ⟨Nat.le_of_ble_eq_true rfl, rfl, by decide, by decide, rfl, rfl⟩ fl_X0_15 (fun q => ⟨rfl, rfl⟩) dX0_init_19 (fun _ locs hH hS hsz => ?_)
  have hF := hF.z (a := 18) (c := 1) (Nat.le_of_ble_eq_true rfl)
  have hz := hsz.trans hz
  refine lv_aload_n (pc := 22) C0.1 C0.2.1 dX0_init_22 rfl (lv_at hl 0 rfl) ?_
  refine lv_sipush (pc := 23) (v := 601) C0.1 C0.2.1 dX0_init_23 (by decide) ?_
  refine xnewa (pc := 26) (N := 601) (t := 0) (ty := .int) C0 (Nat.le_of_ble_eq_true rfl) hH hz hS ac_int rfl ⟨rfl, rfl⟩ ⟨rfl, by decide, trivial⟩ (hF.aI (by decide) rfl) ⟨by decide, by decide⟩ (by decide) ⟨Nat.le_of_ble_eq_true rfl, Nat.le_of_ble_eq_true rfl⟩ (by decide) dX0_init_26 (fun _ hH hz hS => ?_)
  have hF := hF.up (n2 := 22) (Nat.le_of_ble_eq_true rfl)
  refine xputF (pc := 28) C0 (Nat.le_of_ble_eq_true rfl) hnm hH hS 18 2 21 clX0 ⟨Nat.le_of_ble_eq_true rfl, Nat.le_of_ble_eq_true rfl⟩ ⟨rfl, rfl⟩ ⟨Nat.le_of_ble_eq_true rfl, rfl, by decide, by decide, rfl, rfl⟩ fl_X0_18 (fun q => ⟨rfl, rfl⟩) dX0_init_28 (fun _ locs hH hS hsz => ?_)
  have hF := hF.z (a := 18) (c := 2) (Nat.le_of_ble_eq_true rfl)
  have hz := hsz.trans hz
  refine lv_aload_n (pc := 31) C0.1 C0.2.1 dX0_init_31 rfl (lv_at hl 0 rfl) ?_
  refine lv_sipush (pc := 32) (v := 601) C0.1 C0.2.1 dX0_init_32 (by decide) ?_
  refine xnewa (pc := 35) (N := 601) (t := 0) (ty := .int) C0 (Nat.le_of_ble_eq_true rfl) hH hz hS ac_int rfl ⟨rfl, rfl⟩ ⟨rfl, by decide, trivial⟩ (hF.aI (by decide) rfl) ⟨by decide, by decide⟩ (by decide) ⟨Nat.le_of_ble_eq_true rfl, Nat.le_of_ble_eq_true rfl⟩ (by decide) dX0_init_35 (fun _ hH hz hS => ?_)
  have hF := hF.up (n2 := 23) (Nat.le_of_ble_eq_true rfl)
  refine xputF (pc := 37) C0 (Nat.le_of_ble_eq_true rfl) hnm hH hS 18 3 22 clX0 ⟨Nat.le_of_ble_eq_true rfl, Nat.le_of_ble_eq_true rfl⟩ ⟨rfl, rfl⟩ ⟨Nat.le_of_ble_eq_true rfl, rfl, by decide, by decide, rfl, rfl⟩ fl_X0_21 (fun q => ⟨rfl, rfl⟩) dX0_init_37 (fun _ locs hH hS hsz => ?_)
  have hF := hF.z (a := 18) (c := 3) (Nat.le_of_ble_eq_true rfl)
  have hz := hsz.trans hz
  refine lv_aload_n (pc := 40) C0.1 C0.2.1 dX0_init_40 rfl (lv_at hl 0 rfl) ?_
  refine lv_sipush (pc := 41) (v := 601) C0.1 C0.2.1 dX0_init_41 (by decide) ?_
  refine xnewa (pc := 44) (N := 601) (t := 0) (ty := .int) C0 (Nat.le_of_ble_eq_true rfl) hH hz hS ac_int rfl ⟨rfl, rfl⟩ ⟨rfl, by decide, trivial⟩ (hF.aI (by decide) rfl) ⟨by decide, by decide⟩ (by decide) ⟨Nat.le_of_ble_eq_true rfl, Nat.le_of_ble_eq_true rfl⟩ (by decide) dX0_init_44 (fun _ hH hz hS => ?_)
  have hF := hF.up (n2 := 24) (Nat.le_of_ble_eq_true rfl)
  refine xputF (pc := 46) C0 (Nat.le_of_ble_eq_true rfl) hnm hH hS 18 4 23 clX0 ⟨Nat.le_of_ble_eq_true rfl, Nat.le_of_ble_eq_true rfl⟩ ⟨rfl, rfl⟩ ⟨Nat.le_of_ble_eq_true rfl, rfl, by decide, by decide, rfl, rfl⟩ fl_X0_24 (fun q => ⟨rfl, rfl⟩) dX0_init_46 (fun _ locs hH hS hsz => ?_)
  have hF := hF.z (a := 18) (c := 4) (Nat.le_of_ble_eq_true rfl)
  have hz := hsz.trans hz
  refine lv_aload_n (pc := 49) C0.1 C0.2.1 dX0_init_49 rfl (lv_at hl 0 rfl) ?_
  refine lv_sipush (pc := 50) (v := 601) C0.1 C0.2.1 dX0_init_50 (by decide) ?_
  refine xnewa (pc := 53) (N := 601) (t := 0) (ty := .int) C0 (Nat.le_of_ble_eq_true rfl) hH hz hS ac_int rfl ⟨rfl, rfl⟩ ⟨rfl, by decide, trivial⟩ (hF.aI (by decide) rfl) ⟨by decide, by decide⟩ (by decide) ⟨Nat.le_of_ble_eq_true rfl, Nat.le_of_ble_eq_true rfl⟩ (by decide) dX0_init_53 (fun _ hH hz hS => ?_)
  have hF := hF.up (n2 := 25) (Nat.le_of_ble_eq_true rfl)
  refine xputF (pc := 55) C0 (Nat.le_of_ble_eq_true rfl) hnm hH hS 18 5 24 clX0 ⟨Nat.le_of_ble_eq_true rfl, Nat.le_of_ble_eq_true rfl⟩ ⟨rfl, rfl⟩ ⟨Nat.le_of_ble_eq_true rfl, rfl, by decide, by decide, rfl, rfl⟩ fl_X0_27 (fun q => ⟨rfl, rfl⟩) dX0_init_55 (fun _ locs hH hS hsz => ?_)
  have hF := hF.z (a := 18) (c := 5) (Nat.le_of_ble_eq_true rfl)
  have hz := hsz.trans hz
  refine lv_aload_n (pc := 58) C0.1 C0.2.1 dX0_init_58 rfl (lv_at hl 0 rfl) ?_
  refine lv_sipush (pc := 59) (v := 601) C0.1 C0.2.1 dX0_init_59 (by decide) ?_
  refine xnewa (pc := 62) (N := 601) (t := 0) (ty := .int) C0 (Nat.le_of_ble_eq_true rfl) hH hz hS ac_int rfl ⟨rfl, rfl⟩ ⟨rfl, by decide, trivial⟩ (hF.aI (by decide) rfl) ⟨by decide, by decide⟩ (by decide) ⟨Nat.le_of_ble_eq_true rfl, Nat.le_of_ble_eq_true rfl⟩ (by decide) dX0_init_62 (fun _ hH hz hS => ?_)
  have hF := hF.up (n2 := 26) (Nat.le_of_ble_eq_true rfl)
  refine xputF (pc := 64) C0 (Nat.le_of_ble_eq_true rfl) hnm hH hS 18 6 25 clX0 ⟨Nat.le_of_ble_eq_true rfl, Nat.le_of_ble_eq_true rfl⟩ ⟨rfl, rfl⟩ ⟨Nat.le_of_ble_eq_true rfl, rfl, by decide, by decide, rfl, rfl⟩ fl_X0_30 (fun q => ⟨rfl, rfl⟩) dX0_init_64 (fun _ locs hH hS hsz => ?_)
  have hF := hF.z (a := 18) (c := 6) (Nat.le_of_ble_eq_true rfl)
  have hz := hsz.trans hz
  refine lv_aload_n (pc := 67) C0.1 C0.2.1 dX0_init_67 rfl (lv_at hl 0 rfl) ?_
  refine lv_sipush (pc := 68) (v := 601) C0.1 C0.2.1 dX0_init_68 (by decide) ?_
  refine xnewa (pc := 71) (N := 601) (t := 0) (ty := .int) C0 (Nat.le_of_ble_eq_true rfl) hH hz hS ac_int rfl ⟨rfl, rfl⟩ ⟨rfl, by decide, trivial⟩ (hF.aI (by decide) rfl) ⟨by decide, by decide⟩ (by decide) ⟨Nat.le_of_ble_eq_true rfl, Nat.le_of_ble_eq_true rfl⟩ (by decide) dX0_init_71 (fun _ hH hz hS => ?_)
  have hF := hF.up (n2 := 27) (Nat.le_of_ble_eq_true rfl)
  refine xputF (pc := 73) C0 (Nat.le_of_ble_eq_true rfl) hnm hH hS 18 7 26 clX0 ⟨Nat.le_of_ble_eq_true rfl, Nat.le_of_ble_eq_true rfl⟩ ⟨rfl, rfl⟩ ⟨Nat.le_of_ble_eq_true rfl, rfl, by decide, by decide, rfl, rfl⟩ fl_X0_33 (fun q => ⟨rfl, rfl⟩) dX0_init_73 (fun _ locs hH hS hsz => ?_)
  have hF := hF.z (a := 18) (c := 7) (Nat.le_of_ble_eq_true rfl)
  have hz := hsz.trans hz
  refine lv_aload_n (pc := 76) C0.1 C0.2.1 dX0_init_76 rfl (lv_at hl 0 rfl) ?_
  refine lv_sipush (pc := 77) (v := 601) C0.1 C0.2.1 dX0_init_77 (by decide) ?_
  refine xnewa (pc := 80) (N := 601) (t := 0) (ty := .int) C0 (Nat.le_of_ble_eq_true rfl) hH hz hS ac_int rfl ⟨rfl, rfl⟩ ⟨rfl, by decide, trivial⟩ (hF.aI (by decide) rfl) ⟨by decide, by decide⟩ (by decide) ⟨Nat.le_of_ble_eq_true rfl, Nat.le_of_ble_eq_true rfl⟩ (by decide) dX0_init_80 (fun _ hH hz hS => ?_)
  have hF := hF.up (n2 := 28) (Nat.le_of_ble_eq_true rfl)
  refine xputF (pc := 82) C0 (Nat.le_of_ble_eq_true rfl) hnm hH hS 18 8 27 clX0 ⟨Nat.le_of_ble_eq_true rfl, Nat.le_of_ble_eq_true rfl⟩ ⟨rfl, rfl⟩ ⟨Nat.le_of_ble_eq_true rfl, rfl, by decide, by decide, rfl, rfl⟩ fl_X0_36 (fun q => ⟨rfl, rfl⟩) dX0_init_82 (fun _ locs hH hS hsz => ?_)
  have hF := hF.z (a := 18) (c := 8) (Nat.le_of_ble_eq_true rfl)
  have hz := hsz.trans hz
  refine W.widen (k := 9) (n := 5409) (by decide) (by decide) ?_
  exact xcret C0 hr hH hz hS dX0_init_85
theorem f_X2_init_28 {z : Nat → Nat → Bool} {i F : Nat → Nat → Int32} {G : Nat → Nat → Int64} (hF : Fr 29 z i F G) : Fr 36 (upz (upz (upz (upz (upz (upz (upz z 28 0) 28 1) 28 2) 28 3) 28 4) 28 6) 28 7) i F G := ((((((((((((((hF.up (n2 := 30) (Nat.le_of_ble_eq_true rfl)).z (a := 28) (c := 0) (Nat.le_of_ble_eq_true rfl)).up (n2 := 31) (Nat.le_of_ble_eq_true rfl)).z (a := 28) (c := 1) (Nat.le_of_ble_eq_true rfl)).up (n2 := 32) (Nat.le_of_ble_eq_true rfl)).z (a := 28) (c := 2) (Nat.le_of_ble_eq_true rfl)).up (n2 := 33) (Nat.le_of_ble_eq_true rfl)).z (a := 28) (c := 3) (Nat.le_of_ble_eq_true rfl)).up (n2 := 34) (Nat.le_of_ble_eq_true rfl)).z (a := 28) (c := 4) (Nat.le_of_ble_eq_true rfl)).up (n2 := 35) (Nat.le_of_ble_eq_true rfl)).z (a := 28) (c := 6) (Nat.le_of_ble_eq_true rfl)).up (n2 := 36) (Nat.le_of_ble_eq_true rfl)).z (a := 28) (c := 7) (Nat.le_of_ble_eq_true rfl))
set_option maxHeartbeats 4000000 in
set_option maxRecDepth 100000 in
theorem c_X2_init_28 (l : Launch) (D : va_G) (tA : Nat → ClassId) (b : Nat) (z : Nat → Nat → Bool) (i F : Nat → Nat → Int32) (G : Nat → Nat → Int64) (hF : Fr 29 z i F G) : xMC l yX2_init cX2_init 1 1 12 7 8402 D tA b 0 29 z i F G 28 36 (upz (upz (upz (upz (upz (upz (upz z 28 0) 28 1) 28 2) 28 3) 28 4) 28 6) 28 7) i F := by
  refine xstart0 (n0 := 36) (o := 0) RX2 rfl (by decide) (Nat.le_of_ble_eq_true rfl) (fun _ h => h.2.2) ?_
  intro p e s m below meth c ls C0 hr hnm h0 hS hl
  obtain ⟨hH, hz, -⟩ := h0
  have hl : lv_has ls 1 [(0, .ref (b + 28))] := hl
  refine lv_aload_n (pc := 0) C0.1 C0.2.1 dX2_init_0 rfl (lv_at hl 0 rfl) ?_
  refine xobj (pc := 1) C0 ml_X2_3 im_obj cd_obj hl.1 dX2_init_1 ⟨Nat.le_of_ble_eq_true rfl, Nat.le_of_ble_eq_true rfl⟩ ?_
  refine lv_aload_n (pc := 4) C0.1 C0.2.1 dX2_init_4 rfl (lv_at hl 0 rfl) ?_
  refine lv_sipush (pc := 5) (v := 1200) C0.1 C0.2.1 dX2_init_5 (by decide) ?_
  refine xnewa (pc := 8) (N := 1200) (t := 0) (ty := .int) C0 (Nat.le_of_ble_eq_true rfl) hH hz hS ac_int rfl ⟨rfl, rfl⟩ ⟨rfl, by decide, trivial⟩ (hF.aI (by decide) rfl) ⟨by decide, by decide⟩ (by decide) ⟨Nat.le_of_ble_eq_true rfl, Nat.le_of_ble_eq_true rfl⟩ (by decide) dX2_init_8 (fun _ hH hz hS => ?_)
  have hF := hF.up (n2 := 30) (Nat.le_of_ble_eq_true rfl)
  refine xputF (pc := 10) C0 (Nat.le_of_ble_eq_true rfl) hnm hH hS 28 0 29 clX2 ⟨Nat.le_of_ble_eq_true rfl, Nat.le_of_ble_eq_true rfl⟩ ⟨rfl, rfl⟩ ⟨Nat.le_of_ble_eq_true rfl, rfl, by decide, by decide, rfl, rfl⟩ fl_X2_9 (fun q => ⟨rfl, rfl⟩) dX2_init_10 (fun _ locs hH hS hsz => ?_)
  have hF := hF.z (a := 28) (c := 0) (Nat.le_of_ble_eq_true rfl)
  have hz := hsz.trans hz
  refine lv_aload_n (pc := 13) C0.1 C0.2.1 dX2_init_13 rfl (lv_at hl 0 rfl) ?_
  refine lv_sipush (pc := 14) (v := 1200) C0.1 C0.2.1 dX2_init_14 (by decide) ?_
  refine xnewa (pc := 17) (N := 1200) (t := 0) (ty := .int) C0 (Nat.le_of_ble_eq_true rfl) hH hz hS ac_int rfl ⟨rfl, rfl⟩ ⟨rfl, by decide, trivial⟩ (hF.aI (by decide) rfl) ⟨by decide, by decide⟩ (by decide) ⟨Nat.le_of_ble_eq_true rfl, Nat.le_of_ble_eq_true rfl⟩ (by decide) dX2_init_17 (fun _ hH hz hS => ?_)
  have hF := hF.up (n2 := 31) (Nat.le_of_ble_eq_true rfl)
  refine xputF (pc := 19) C0 (Nat.le_of_ble_eq_true rfl) hnm hH hS 28 1 30 clX2 ⟨Nat.le_of_ble_eq_true rfl, Nat.le_of_ble_eq_true rfl⟩ ⟨rfl, rfl⟩ ⟨Nat.le_of_ble_eq_true rfl, rfl, by decide, by decide, rfl, rfl⟩ fl_X2_15 (fun q => ⟨rfl, rfl⟩) dX2_init_19 (fun _ locs hH hS hsz => ?_)
  have hF := hF.z (a := 28) (c := 1) (Nat.le_of_ble_eq_true rfl)
  have hz := hsz.trans hz
  refine lv_aload_n (pc := 22) C0.1 C0.2.1 dX2_init_22 rfl (lv_at hl 0 rfl) ?_
  refine lv_sipush (pc := 23) (v := 1200) C0.1 C0.2.1 dX2_init_23 (by decide) ?_
  refine xnewa (pc := 26) (N := 1200) (t := 0) (ty := .int) C0 (Nat.le_of_ble_eq_true rfl) hH hz hS ac_int rfl ⟨rfl, rfl⟩ ⟨rfl, by decide, trivial⟩ (hF.aI (by decide) rfl) ⟨by decide, by decide⟩ (by decide) ⟨Nat.le_of_ble_eq_true rfl, Nat.le_of_ble_eq_true rfl⟩ (by decide) dX2_init_26 (fun _ hH hz hS => ?_)
  have hF := hF.up (n2 := 32) (Nat.le_of_ble_eq_true rfl)
  refine xputF (pc := 28) C0 (Nat.le_of_ble_eq_true rfl) hnm hH hS 28 2 31 clX2 ⟨Nat.le_of_ble_eq_true rfl, Nat.le_of_ble_eq_true rfl⟩ ⟨rfl, rfl⟩ ⟨Nat.le_of_ble_eq_true rfl, rfl, by decide, by decide, rfl, rfl⟩ fl_X2_18 (fun q => ⟨rfl, rfl⟩) dX2_init_28 (fun _ locs hH hS hsz => ?_)
  have hF := hF.z (a := 28) (c := 2) (Nat.le_of_ble_eq_true rfl)
  have hz := hsz.trans hz
  refine lv_aload_n (pc := 31) C0.1 C0.2.1 dX2_init_31 rfl (lv_at hl 0 rfl) ?_
  refine lv_sipush (pc := 32) (v := 1200) C0.1 C0.2.1 dX2_init_32 (by decide) ?_
  refine xnewa (pc := 35) (N := 1200) (t := 0) (ty := .int) C0 (Nat.le_of_ble_eq_true rfl) hH hz hS ac_int rfl ⟨rfl, rfl⟩ ⟨rfl, by decide, trivial⟩ (hF.aI (by decide) rfl) ⟨by decide, by decide⟩ (by decide) ⟨Nat.le_of_ble_eq_true rfl, Nat.le_of_ble_eq_true rfl⟩ (by decide) dX2_init_35 (fun _ hH hz hS => ?_)
  have hF := hF.up (n2 := 33) (Nat.le_of_ble_eq_true rfl)
  refine xputF (pc := 37) C0 (Nat.le_of_ble_eq_true rfl) hnm hH hS 28 3 32 clX2 ⟨Nat.le_of_ble_eq_true rfl, Nat.le_of_ble_eq_true rfl⟩ ⟨rfl, rfl⟩ ⟨Nat.le_of_ble_eq_true rfl, rfl, by decide, by decide, rfl, rfl⟩ fl_X2_21 (fun q => ⟨rfl, rfl⟩) dX2_init_37 (fun _ locs hH hS hsz => ?_)
  have hF := hF.z (a := 28) (c := 3) (Nat.le_of_ble_eq_true rfl)
  have hz := hsz.trans hz
  refine lv_aload_n (pc := 40) C0.1 C0.2.1 dX2_init_40 rfl (lv_at hl 0 rfl) ?_
  refine lv_sipush (pc := 41) (v := 1200) C0.1 C0.2.1 dX2_init_41 (by decide) ?_
  refine xnewa (pc := 44) (N := 1200) (t := 0) (ty := .int) C0 (Nat.le_of_ble_eq_true rfl) hH hz hS ac_int rfl ⟨rfl, rfl⟩ ⟨rfl, by decide, trivial⟩ (hF.aI (by decide) rfl) ⟨by decide, by decide⟩ (by decide) ⟨Nat.le_of_ble_eq_true rfl, Nat.le_of_ble_eq_true rfl⟩ (by decide) dX2_init_44 (fun _ hH hz hS => ?_)
  have hF := hF.up (n2 := 34) (Nat.le_of_ble_eq_true rfl)
  refine xputF (pc := 46) C0 (Nat.le_of_ble_eq_true rfl) hnm hH hS 28 4 33 clX2 ⟨Nat.le_of_ble_eq_true rfl, Nat.le_of_ble_eq_true rfl⟩ ⟨rfl, rfl⟩ ⟨Nat.le_of_ble_eq_true rfl, rfl, by decide, by decide, rfl, rfl⟩ fl_X2_24 (fun q => ⟨rfl, rfl⟩) dX2_init_46 (fun _ locs hH hS hsz => ?_)
  have hF := hF.z (a := 28) (c := 4) (Nat.le_of_ble_eq_true rfl)
  have hz := hsz.trans hz
  refine lv_aload_n (pc := 49) C0.1 C0.2.1 dX2_init_49 rfl (lv_at hl 0 rfl) ?_
  refine lv_sipush (pc := 50) (v := 1201) C0.1 C0.2.1 dX2_init_50 (by decide) ?_
  refine xnewa (pc := 53) (N := 1201) (t := 0) (ty := .int) C0 (Nat.le_of_ble_eq_true rfl) hH hz hS ac_int rfl ⟨rfl, rfl⟩ ⟨rfl, by decide, trivial⟩ (hF.aI (by decide) rfl) ⟨by decide, by decide⟩ (by decide) ⟨Nat.le_of_ble_eq_true rfl, Nat.le_of_ble_eq_true rfl⟩ (by decide) dX2_init_53 (fun _ hH hz hS => ?_)
  have hF := hF.up (n2 := 35) (Nat.le_of_ble_eq_true rfl)
  refine xputF (pc := 55) C0 (Nat.le_of_ble_eq_true rfl) hnm hH hS 28 6 34 clX2 ⟨Nat.le_of_ble_eq_true rfl, Nat.le_of_ble_eq_true rfl⟩ ⟨rfl, rfl⟩ ⟨Nat.le_of_ble_eq_true rfl, rfl, by decide, by decide, rfl, rfl⟩ fl_X2_27 (fun q => ⟨rfl, rfl⟩) dX2_init_55 (fun _ locs hH hS hsz => ?_)
  have hF := hF.z (a := 28) (c := 6) (Nat.le_of_ble_eq_true rfl)
  have hz := hsz.trans hz
  refine lv_aload_n (pc := 58) C0.1 C0.2.1 dX2_init_58 rfl (lv_at hl 0 rfl) ?_
  refine lv_sipush (pc := 59) (v := 1201) C0.1 C0.2.1 dX2_init_59 (by decide) ?_
  refine xnewa (pc := 62) (N := 1201) (t := 0) (ty := .int) C0 (Nat.le_of_ble_eq_true rfl) hH hz hS ac_int rfl ⟨rfl, rfl⟩ ⟨rfl, by decide, trivial⟩ (hF.aI (by decide) rfl) ⟨by decide, by decide⟩ (by decide) ⟨Nat.le_of_ble_eq_true rfl, Nat.le_of_ble_eq_true rfl⟩ (by decide) dX2_init_62 (fun _ hH hz hS => ?_)
  have hF := hF.up (n2 := 36) (Nat.le_of_ble_eq_true rfl)
  refine xputF (pc := 64) C0 (Nat.le_of_ble_eq_true rfl) hnm hH hS 28 7 35 clX2 ⟨Nat.le_of_ble_eq_true rfl, Nat.le_of_ble_eq_true rfl⟩ ⟨rfl, rfl⟩ ⟨Nat.le_of_ble_eq_true rfl, rfl, by decide, by decide, rfl, rfl⟩ fl_X2_30 (fun q => ⟨rfl, rfl⟩) dX2_init_64 (fun _ locs hH hS hsz => ?_)
  have hF := hF.z (a := 28) (c := 7) (Nat.le_of_ble_eq_true rfl)
  have hz := hsz.trans hz
  refine W.widen (k := 7) (n := 8402) (by decide) (by decide) ?_
  exact xcret C0 hr hH hz hS dX2_init_67
theorem f_X8_init_17 {z : Nat → Nat → Bool} {i F : Nat → Nat → Int32} {G : Nat → Nat → Int64} (hF : Fr 18 z i F G) : Fr 39 (upz (upz (upz (upz (upz (upz (upz (upz (upz (upz (upz (upz (upz (upz (upz (upz (upz (upz (upz (upz (upz z 18 0) 18 1) 18 2) 18 3) 18 4) 18 5) 18 6) 18 7) 18 8) 17 0) 28 0) 28 1) 28 2) 28 3) 28 4) 28 6) 28 7) 17 1) 17 2) 17 3) 17 6) i F G := ((((((((f_X2_init_28 (((f_X0_init_18 (hF.up (n2 := 19) (Nat.le_of_ble_eq_true rfl))).z (a := 17) (c := 0) (Nat.le_of_ble_eq_true rfl)).up (n2 := 29) (Nat.le_of_ble_eq_true rfl))).z (a := 17) (c := 1) (Nat.le_of_ble_eq_true rfl)).up (n2 := 37) (Nat.le_of_ble_eq_true rfl)).z (a := 17) (c := 2) (Nat.le_of_ble_eq_true rfl)).up (n2 := 38) (Nat.le_of_ble_eq_true rfl)).z (a := 17) (c := 3) (Nat.le_of_ble_eq_true rfl)).up (n2 := 39) (Nat.le_of_ble_eq_true rfl)).z (a := 17) (c := 6) (Nat.le_of_ble_eq_true rfl))
set_option maxHeartbeats 4000000 in
set_option maxRecDepth 100000 in
theorem c_X8_init_17 (l : Launch) (D : va_G) (tA : Nat → ClassId) (b : Nat) (z : Nat → Nat → Bool) (i F : Nat → Nat → Int32) (G : Nat → Nat → Int64) (hF : Fr 18 z i F G) : xMC l yX8_init cX8_init 1 2 32 21 15631 D tA b 0 18 z i F G 17 39 (upz (upz (upz (upz (upz (upz (upz (upz (upz (upz (upz (upz (upz (upz (upz (upz (upz (upz (upz (upz (upz z 18 0) 18 1) 18 2) 18 3) 18 4) 18 5) 18 6) 18 7) 18 8) 17 0) 28 0) 28 1) 28 2) 28 3) 28 4) 28 6) 28 7) 17 1) 17 2) 17 3) 17 6) i F := by
  refine xstart0 (n0 := 39) (o := 0) RX8 rfl (by decide) (Nat.le_of_ble_eq_true rfl) (fun _ h => h.2.2) ?_
  intro p e s m below meth c ls C0 hr hnm h0 hS hl
  obtain ⟨hH, hz, -⟩ := h0
  have hl : lv_has ls 1 [(0, .ref (b + 17))] := hl
  refine lv_aload_n (pc := 0) C0.1 C0.2.1 dX8_init_0 rfl (lv_at hl 0 rfl) ?_
  refine xobj (pc := 1) C0 ml_X8_3 im_obj cd_obj hl.1 dX8_init_1 ⟨Nat.le_of_ble_eq_true rfl, Nat.le_of_ble_eq_true rfl⟩ ?_
  refine lv_aload_n (pc := 4) C0.1 C0.2.1 dX8_init_4 rfl (lv_at hl 0 rfl) ?_
  refine xnewo (pc := 5) C0 (Nat.le_of_ble_eq_true rfl) hH hz hS clX0 cl_X8_9 in_X0 it_X0 ⟨rfl, rfl⟩ (hF.o (by decide +kernel)) ⟨Nat.le_of_ble_eq_true rfl, Nat.le_of_ble_eq_true rfl⟩ dX8_init_5 (fun _ hH hz hS => ?_)
  have hF := hF.up (n2 := 19) (Nat.le_of_ble_eq_true rfl)
  refine lv_dup (pc := 8) C0.1 C0.2.1 dX8_init_8 rfl ?_
  refine xcIN (pc := 9) 18 (c_X0_init_18 l D tA b _ _ _ _ hF) C0 (Nat.le_of_ble_eq_true rfl) hH hz hS cw_X8_11 rfl im_X0_init ⟨Nat.le_of_ble_eq_true rfl, Nat.le_of_ble_eq_true rfl⟩ hl.1 rfl (Nat.le_of_ble_eq_true rfl) dX8_init_9 ⟨Nat.le_of_ble_eq_true rfl, Nat.le_of_ble_eq_true rfl⟩ (fun _ locs hH hz hS => ?_)
  have hF := f_X0_init_18 hF
  refine xputF (pc := 12) C0 (Nat.le_of_ble_eq_true rfl) hnm hH hS 17 0 18 clX8 ⟨Nat.le_of_ble_eq_true rfl, Nat.le_of_ble_eq_true rfl⟩ ⟨rfl, rfl⟩ ⟨Nat.le_of_ble_eq_true rfl, rfl, by decide, by decide, rfl, rfl⟩ fl_X8_12 (fun q => ⟨rfl, rfl⟩) dX8_init_12 (fun _ locs hH hS hsz => ?_)
  have hF := hF.z (a := 17) (c := 0) (Nat.le_of_ble_eq_true rfl)
  have hz := hsz.trans hz
  refine lv_aload_n (pc := 15) C0.1 C0.2.1 dX8_init_15 rfl (lv_at hl 0 rfl) ?_
  refine xnewo (pc := 16) C0 (Nat.le_of_ble_eq_true rfl) hH hz hS clX2 cl_X8_18 in_X2 it_X2 ⟨rfl, rfl⟩ (hF.o (by decide +kernel)) ⟨Nat.le_of_ble_eq_true rfl, Nat.le_of_ble_eq_true rfl⟩ dX8_init_16 (fun _ hH hz hS => ?_)
  have hF := hF.up (n2 := 29) (Nat.le_of_ble_eq_true rfl)
  refine lv_dup (pc := 19) C0.1 C0.2.1 dX8_init_19 rfl ?_
  refine xcIN (pc := 20) 28 (c_X2_init_28 l D tA b _ _ _ _ hF) C0 (Nat.le_of_ble_eq_true rfl) hH hz hS cw_X8_20 rfl im_X2_init ⟨Nat.le_of_ble_eq_true rfl, Nat.le_of_ble_eq_true rfl⟩ hl.1 rfl (Nat.le_of_ble_eq_true rfl) dX8_init_20 ⟨Nat.le_of_ble_eq_true rfl, Nat.le_of_ble_eq_true rfl⟩ (fun _ locs hH hz hS => ?_)
  have hF := f_X2_init_28 hF
  refine xputF (pc := 23) C0 (Nat.le_of_ble_eq_true rfl) hnm hH hS 17 1 28 clX8 ⟨Nat.le_of_ble_eq_true rfl, Nat.le_of_ble_eq_true rfl⟩ ⟨rfl, rfl⟩ ⟨Nat.le_of_ble_eq_true rfl, rfl, by decide, by decide, rfl, rfl⟩ fl_X8_21 (fun q => ⟨rfl, rfl⟩) dX8_init_23 (fun _ locs hH hS hsz => ?_)
  have hF := hF.z (a := 17) (c := 1) (Nat.le_of_ble_eq_true rfl)
  have hz := hsz.trans hz
  refine lv_aload_n (pc := 26) C0.1 C0.2.1 dX8_init_26 rfl (lv_at hl 0 rfl) ?_
  refine lv_sipush (pc := 27) (v := 600) C0.1 C0.2.1 dX8_init_27 (by decide) ?_
  refine xnewa (pc := 30) (N := 600) (t := 0) (ty := .int) C0 (Nat.le_of_ble_eq_true rfl) hH hz hS ac_int rfl ⟨rfl, rfl⟩ ⟨rfl, by decide, trivial⟩ (hF.aI (by decide) rfl) ⟨by decide, by decide⟩ (by decide) ⟨Nat.le_of_ble_eq_true rfl, Nat.le_of_ble_eq_true rfl⟩ (by decide) dX8_init_30 (fun _ hH hz hS => ?_)
  have hF := hF.up (n2 := 37) (Nat.le_of_ble_eq_true rfl)
  refine xputF (pc := 32) C0 (Nat.le_of_ble_eq_true rfl) hnm hH hS 17 2 36 clX8 ⟨Nat.le_of_ble_eq_true rfl, Nat.le_of_ble_eq_true rfl⟩ ⟨rfl, rfl⟩ ⟨Nat.le_of_ble_eq_true rfl, rfl, by decide, by decide, rfl, rfl⟩ fl_X8_25 (fun q => ⟨rfl, rfl⟩) dX8_init_32 (fun _ locs hH hS hsz => ?_)
  have hF := hF.z (a := 17) (c := 2) (Nat.le_of_ble_eq_true rfl)
  have hz := hsz.trans hz
  refine lv_aload_n (pc := 35) C0.1 C0.2.1 dX8_init_35 rfl (lv_at hl 0 rfl) ?_
  refine lv_sipush (pc := 36) (v := 600) C0.1 C0.2.1 dX8_init_36 (by decide) ?_
  refine xnewa (pc := 39) (N := 600) (t := 2) (ty := .boolean) C0 (Nat.le_of_ble_eq_true rfl) hH hz hS ac_boolean rfl ⟨rfl, rfl⟩ ⟨rfl, by decide, trivial⟩ (hF.aI (by decide) rfl) ⟨by decide, by decide⟩ (by decide) ⟨Nat.le_of_ble_eq_true rfl, Nat.le_of_ble_eq_true rfl⟩ (by decide) dX8_init_39 (fun _ hH hz hS => ?_)
  have hF := hF.up (n2 := 38) (Nat.le_of_ble_eq_true rfl)
  refine xputF (pc := 41) C0 (Nat.le_of_ble_eq_true rfl) hnm hH hS 17 3 37 clX8 ⟨Nat.le_of_ble_eq_true rfl, Nat.le_of_ble_eq_true rfl⟩ ⟨rfl, rfl⟩ ⟨Nat.le_of_ble_eq_true rfl, rfl, by decide, by decide, rfl, rfl⟩ fl_X8_29 (fun q => ⟨rfl, rfl⟩) dX8_init_41 (fun _ locs hH hS hsz => ?_)
  have hF := hF.z (a := 17) (c := 3) (Nat.le_of_ble_eq_true rfl)
  have hz := hsz.trans hz
  refine lv_aload_n (pc := 44) C0.1 C0.2.1 dX8_init_44 rfl (lv_at hl 0 rfl) ?_
  refine lv_sipush (pc := 45) (v := 601) C0.1 C0.2.1 dX8_init_45 (by decide) ?_
  refine xnewa (pc := 48) (N := 601) (t := 0) (ty := .int) C0 (Nat.le_of_ble_eq_true rfl) hH hz hS ac_int rfl ⟨rfl, rfl⟩ ⟨rfl, by decide, trivial⟩ (hF.aI (by decide) rfl) ⟨by decide, by decide⟩ (by decide) ⟨Nat.le_of_ble_eq_true rfl, Nat.le_of_ble_eq_true rfl⟩ (by decide) dX8_init_48 (fun _ hH hz hS => ?_)
  have hF := hF.up (n2 := 39) (Nat.le_of_ble_eq_true rfl)
  refine xputF (pc := 50) C0 (Nat.le_of_ble_eq_true rfl) hnm hH hS 17 6 38 clX8 ⟨Nat.le_of_ble_eq_true rfl, Nat.le_of_ble_eq_true rfl⟩ ⟨rfl, rfl⟩ ⟨Nat.le_of_ble_eq_true rfl, rfl, by decide, by decide, rfl, rfl⟩ fl_X8_33 (fun q => ⟨rfl, rfl⟩) dX8_init_50 (fun _ locs hH hS hsz => ?_)
  have hF := hF.z (a := 17) (c := 6) (Nat.le_of_ble_eq_true rfl)
  have hz := hsz.trans hz
  refine W.widen (k := 21) (n := 15631) (by decide) (by decide) ?_
  exact xcret C0 hr hH hz hS dX8_init_53
theorem f_X4_init_8 {z : Nat → Nat → Bool} {i F : Nat → Nat → Int32} {G : Nat → Nat → Int64} (hF : Fr 9 z i F G) : Fr 39 (upz (upz (upz (upz (upz (upz (upz (upz (upz (upz (upz (upz (upz (upz (upz (upz (upz (upz (upz (upz (upz (upz (upz (upz (upz (upz (upz (upz (upz (upz z 9 0) 9 1) 9 2) 9 3) 9 4) 9 5) 9 6) 8 0) 18 0) 18 1) 18 2) 18 3) 18 4) 18 5) 18 6) 18 7) 18 8) 17 0) 28 0) 28 1) 28 2) 28 3) 28 4) 28 6) 28 7) 17 1) 17 2) 17 3) 17 6) 8 1) (up2 (up2 (up2 (up2 i 8 2 0) 8 3 (-9)) 8 4 (-9)) 8 5 (-9)) F G := ((((((f_X8_init_17 (((f_X7_init_9 (hF.up (n2 := 10) (Nat.le_of_ble_eq_true rfl))).z (a := 8) (c := 0) (Nat.le_of_ble_eq_true rfl)).up (n2 := 18) (Nat.le_of_ble_eq_true rfl))).z (a := 8) (c := 1) (Nat.le_of_ble_eq_true rfl)).i (a := 8) (c := 2) (x := 0) (Nat.le_of_ble_eq_true rfl)).i (a := 8) (c := 3) (x := (-9)) (Nat.le_of_ble_eq_true rfl)).i (a := 8) (c := 4) (x := (-9)) (Nat.le_of_ble_eq_true rfl)).i (a := 8) (c := 5) (x := (-9)) (Nat.le_of_ble_eq_true rfl))
set_option maxHeartbeats 4000000 in
set_option maxRecDepth 100000 in
theorem c_X4_init_8 (l : Launch) (D : va_G) (tA : Nat → ClassId) (b : Nat) (z : Nat → Nat → Bool) (i F : Nat → Nat → Int32) (G : Nat → Nat → Int64) (hF : Fr 9 z i F G) : xMC l yX4_init cX4_init 1 3 52 30 19855 D tA b 0 9 z i F G 8 39 (upz (upz (upz (upz (upz (upz (upz (upz (upz (upz (upz (upz (upz (upz (upz (upz (upz (upz (upz (upz (upz (upz (upz (upz (upz (upz (upz (upz (upz (upz z 9 0) 9 1) 9 2) 9 3) 9 4) 9 5) 9 6) 8 0) 18 0) 18 1) 18 2) 18 3) 18 4) 18 5) 18 6) 18 7) 18 8) 17 0) 28 0) 28 1) 28 2) 28 3) 28 4) 28 6) 28 7) 17 1) 17 2) 17 3) 17 6) 8 1) (up2 (up2 (up2 (up2 i 8 2 0) 8 3 (-9)) 8 4 (-9)) 8 5 (-9)) F := by
  refine xstart0 (n0 := 39) (o := 0) RX4 rfl (by decide) (Nat.le_of_ble_eq_true rfl) (fun _ h => h.2.2) ?_
  intro p e s m below meth c ls C0 hr hnm h0 hS hl
  obtain ⟨hH, hz, -⟩ := h0
  have hl : lv_has ls 1 [(0, .ref (b + 8))] := hl
  refine lv_aload_n (pc := 0) C0.1 C0.2.1 dX4_init_0 rfl (lv_at hl 0 rfl) ?_
  refine xobj (pc := 1) C0 ml_X4_3 im_obj cd_obj hl.1 dX4_init_1 ⟨Nat.le_of_ble_eq_true rfl, Nat.le_of_ble_eq_true rfl⟩ ?_
  refine lv_aload_n (pc := 4) C0.1 C0.2.1 dX4_init_4 rfl (lv_at hl 0 rfl) ?_
  refine xnewo (pc := 5) C0 (Nat.le_of_ble_eq_true rfl) hH hz hS clX7 cl_X4_9 in_X7 it_X7 ⟨rfl, rfl⟩ (hF.o (by decide +kernel)) ⟨Nat.le_of_ble_eq_true rfl, Nat.le_of_ble_eq_true rfl⟩ dX4_init_5 (fun _ hH hz hS => ?_)
  have hF := hF.up (n2 := 10) (Nat.le_of_ble_eq_true rfl)
  refine lv_dup (pc := 8) C0.1 C0.2.1 dX4_init_8 rfl ?_
  refine xcIN (pc := 9) 9 (c_X7_init_9 l D tA b _ _ _ _ hF) C0 (Nat.le_of_ble_eq_true rfl) hH hz hS cw_X4_11 rfl im_X7_init ⟨Nat.le_of_ble_eq_true rfl, Nat.le_of_ble_eq_true rfl⟩ hl.1 rfl (Nat.le_of_ble_eq_true rfl) dX4_init_9 ⟨Nat.le_of_ble_eq_true rfl, Nat.le_of_ble_eq_true rfl⟩ (fun _ locs hH hz hS => ?_)
  have hF := f_X7_init_9 hF
  refine xputF (pc := 12) C0 (Nat.le_of_ble_eq_true rfl) hnm hH hS 8 0 9 clX4 ⟨Nat.le_of_ble_eq_true rfl, Nat.le_of_ble_eq_true rfl⟩ ⟨rfl, rfl⟩ ⟨Nat.le_of_ble_eq_true rfl, rfl, by decide, by decide, rfl, rfl⟩ fl_X4_12 (fun q => ⟨rfl, rfl⟩) dX4_init_12 (fun _ locs hH hS hsz => ?_)
  have hF := hF.z (a := 8) (c := 0) (Nat.le_of_ble_eq_true rfl)
  have hz := hsz.trans hz
  refine lv_aload_n (pc := 15) C0.1 C0.2.1 dX4_init_15 rfl (lv_at hl 0 rfl) ?_
  refine xnewo (pc := 16) C0 (Nat.le_of_ble_eq_true rfl) hH hz hS clX8 cl_X4_18 in_X8 it_X8 ⟨rfl, rfl⟩ (hF.o (by decide +kernel)) ⟨Nat.le_of_ble_eq_true rfl, Nat.le_of_ble_eq_true rfl⟩ dX4_init_16 (fun _ hH hz hS => ?_)
  have hF := hF.up (n2 := 18) (Nat.le_of_ble_eq_true rfl)
  refine lv_dup (pc := 19) C0.1 C0.2.1 dX4_init_19 rfl ?_
  refine xcIN (pc := 20) 17 (c_X8_init_17 l D tA b _ _ _ _ hF) C0 (Nat.le_of_ble_eq_true rfl) hH hz hS cw_X4_20 rfl im_X8_init ⟨Nat.le_of_ble_eq_true rfl, Nat.le_of_ble_eq_true rfl⟩ hl.1 rfl (Nat.le_of_ble_eq_true rfl) dX4_init_20 ⟨Nat.le_of_ble_eq_true rfl, Nat.le_of_ble_eq_true rfl⟩ (fun _ locs hH hz hS => ?_)
  have hF := f_X8_init_17 hF
  refine xputF (pc := 23) C0 (Nat.le_of_ble_eq_true rfl) hnm hH hS 8 1 17 clX4 ⟨Nat.le_of_ble_eq_true rfl, Nat.le_of_ble_eq_true rfl⟩ ⟨rfl, rfl⟩ ⟨Nat.le_of_ble_eq_true rfl, rfl, by decide, by decide, rfl, rfl⟩ fl_X4_21 (fun q => ⟨rfl, rfl⟩) dX4_init_23 (fun _ locs hH hS hsz => ?_)
  have hF := hF.z (a := 8) (c := 1) (Nat.le_of_ble_eq_true rfl)
  have hz := hsz.trans hz
  refine lv_aload_n (pc := 26) C0.1 C0.2.1 dX4_init_26 rfl (lv_at hl 0 rfl) ?_
  refine lv_iconst (pc := 27) (v := 0) C0.1 C0.2.1 dX4_init_27 (by decide) ?_
  refine xputI (pc := 28) C0 (Nat.le_of_ble_eq_true rfl) hH hS 8 2 clX4 ⟨Nat.le_of_ble_eq_true rfl, Nat.le_of_ble_eq_true rfl⟩ ⟨rfl, rfl⟩ ⟨Nat.le_of_ble_eq_true rfl, rfl, rfl⟩ fl_X4_25 (x := 0) ⟨rfl, rfl⟩ dX4_init_28 (fun _ locs hH hS hsz => ?_)
  have hF := hF.i (a := 8) (c := 2) (x := 0) (Nat.le_of_ble_eq_true rfl)
  have hz := hsz.trans hz
  refine lv_aload_n (pc := 31) C0.1 C0.2.1 dX4_init_31 rfl (lv_at hl 0 rfl) ?_
  refine lv_bipush (pc := 32) (v := (-9)) C0.1 C0.2.1 dX4_init_32 (by decide) ?_
  refine xputI (pc := 34) C0 (Nat.le_of_ble_eq_true rfl) hH hS 8 3 clX4 ⟨Nat.le_of_ble_eq_true rfl, Nat.le_of_ble_eq_true rfl⟩ ⟨rfl, rfl⟩ ⟨Nat.le_of_ble_eq_true rfl, rfl, rfl⟩ fl_X4_29 (x := (-9)) ⟨rfl, rfl⟩ dX4_init_34 (fun _ locs hH hS hsz => ?_)
  have hF := hF.i (a := 8) (c := 3) (x := (-9)) (Nat.le_of_ble_eq_true rfl)
  have hz := hsz.trans hz
  refine lv_aload_n (pc := 37) C0.1 C0.2.1 dX4_init_37 rfl (lv_at hl 0 rfl) ?_
  refine lv_bipush (pc := 38) (v := (-9)) C0.1 C0.2.1 dX4_init_38 (by decide) ?_
  refine xputI (pc := 40) C0 (Nat.le_of_ble_eq_true rfl) hH hS 8 4 clX4 ⟨Nat.le_of_ble_eq_true rfl, Nat.le_of_ble_eq_true rfl⟩ ⟨rfl, rfl⟩ ⟨Nat.le_of_ble_eq_true rfl, rfl, rfl⟩ fl_X4_32 (x := (-9)) ⟨rfl, rfl⟩ dX4_init_40 (fun _ locs hH hS hsz => ?_)
  have hF := hF.i (a := 8) (c := 4) (x := (-9)) (Nat.le_of_ble_eq_true rfl)
  have hz := hsz.trans hz
  refine lv_aload_n (pc := 43) C0.1 C0.2.1 dX4_init_43 rfl (lv_at hl 0 rfl) ?_
  refine lv_bipush (pc := 44) (v := (-9)) C0.1 C0.2.1 dX4_init_44 (by decide) ?_
  refine xputI (pc := 46) C0 (Nat.le_of_ble_eq_true rfl) hH hS 8 5 clX4 ⟨Nat.le_of_ble_eq_true rfl, Nat.le_of_ble_eq_true rfl⟩ ⟨rfl, rfl⟩ ⟨Nat.le_of_ble_eq_true rfl, rfl, rfl⟩ fl_X4_35 (x := (-9)) ⟨rfl, rfl⟩ dX4_init_46 (fun _ locs hH hS hsz => ?_)
  have hF := hF.i (a := 8) (c := 5) (x := (-9)) (Nat.le_of_ble_eq_true rfl)
  have hz := hsz.trans hz
  refine W.widen (k := 30) (n := 19855) (by decide) (by decide) ?_
  exact xcret C0 hr hH hz hS dX4_init_49
theorem f_X7_init_40 {z : Nat → Nat → Bool} {i F : Nat → Nat → Int32} {G : Nat → Nat → Int64} (hF : Fr 41 z i F G) : Fr 48 (upz (upz (upz (upz (upz (upz (upz z 40 0) 40 1) 40 2) 40 3) 40 4) 40 5) 40 6) i F G := ((((((((((((((hF.up (n2 := 42) (Nat.le_of_ble_eq_true rfl)).z (a := 40) (c := 0) (Nat.le_of_ble_eq_true rfl)).up (n2 := 43) (Nat.le_of_ble_eq_true rfl)).z (a := 40) (c := 1) (Nat.le_of_ble_eq_true rfl)).up (n2 := 44) (Nat.le_of_ble_eq_true rfl)).z (a := 40) (c := 2) (Nat.le_of_ble_eq_true rfl)).up (n2 := 45) (Nat.le_of_ble_eq_true rfl)).z (a := 40) (c := 3) (Nat.le_of_ble_eq_true rfl)).up (n2 := 46) (Nat.le_of_ble_eq_true rfl)).z (a := 40) (c := 4) (Nat.le_of_ble_eq_true rfl)).up (n2 := 47) (Nat.le_of_ble_eq_true rfl)).z (a := 40) (c := 5) (Nat.le_of_ble_eq_true rfl)).up (n2 := 48) (Nat.le_of_ble_eq_true rfl)).z (a := 40) (c := 6) (Nat.le_of_ble_eq_true rfl))
set_option maxHeartbeats 4000000 in
set_option maxRecDepth 100000 in
theorem c_X7_init_40 (l : Launch) (D : va_G) (tA : Nat → ClassId) (b : Nat) (z : Nat → Nat → Bool) (i F : Nat → Nat → Int32) (G : Nat → Nat → Int64) (hF : Fr 41 z i F G) : xMC l yX7_init cX7_init 1 1 12 7 4200 D tA b 0 41 z i F G 40 48 (upz (upz (upz (upz (upz (upz (upz z 40 0) 40 1) 40 2) 40 3) 40 4) 40 5) 40 6) i F := by
  refine xstart0 (n0 := 48) (o := 0) RX7 rfl (by decide) (Nat.le_of_ble_eq_true rfl) (fun _ h => h.2.2) ?_
  intro p e s m below meth c ls C0 hr hnm h0 hS hl
  obtain ⟨hH, hz, -⟩ := h0
  have hl : lv_has ls 1 [(0, .ref (b + 40))] := hl
  refine lv_aload_n (pc := 0) C0.1 C0.2.1 dX7_init_0 rfl (lv_at hl 0 rfl) ?_
  refine xobj (pc := 1) C0 ml_X7_3 im_obj cd_obj hl.1 dX7_init_1 ⟨Nat.le_of_ble_eq_true rfl, Nat.le_of_ble_eq_true rfl⟩ ?_
  refine lv_aload_n (pc := 4) C0.1 C0.2.1 dX7_init_4 rfl (lv_at hl 0 rfl) ?_
  refine lv_sipush (pc := 5) (v := 600) C0.1 C0.2.1 dX7_init_5 (by decide) ?_
  refine xnewa (pc := 8) (N := 600) (t := 0) (ty := .int) C0 (Nat.le_of_ble_eq_true rfl) hH hz hS ac_int rfl ⟨rfl, rfl⟩ ⟨rfl, by decide, trivial⟩ (hF.aI (by decide) rfl) ⟨by decide, by decide⟩ (by decide) ⟨Nat.le_of_ble_eq_true rfl, Nat.le_of_ble_eq_true rfl⟩ (by decide) dX7_init_8 (fun _ hH hz hS => ?_)
  have hF := hF.up (n2 := 42) (Nat.le_of_ble_eq_true rfl)
  refine xputF (pc := 10) C0 (Nat.le_of_ble_eq_true rfl) hnm hH hS 40 0 41 clX7 ⟨Nat.le_of_ble_eq_true rfl, Nat.le_of_ble_eq_true rfl⟩ ⟨rfl, rfl⟩ ⟨Nat.le_of_ble_eq_true rfl, rfl, by decide, by decide, rfl, rfl⟩ fl_X7_9 (fun q => ⟨rfl, rfl⟩) dX7_init_10 (fun _ locs hH hS hsz => ?_)
  have hF := hF.z (a := 40) (c := 0) (Nat.le_of_ble_eq_true rfl)
  have hz := hsz.trans hz
  refine lv_aload_n (pc := 13) C0.1 C0.2.1 dX7_init_13 rfl (lv_at hl 0 rfl) ?_
  refine lv_sipush (pc := 14) (v := 600) C0.1 C0.2.1 dX7_init_14 (by decide) ?_
  refine xnewa (pc := 17) (N := 600) (t := 0) (ty := .int) C0 (Nat.le_of_ble_eq_true rfl) hH hz hS ac_int rfl ⟨rfl, rfl⟩ ⟨rfl, by decide, trivial⟩ (hF.aI (by decide) rfl) ⟨by decide, by decide⟩ (by decide) ⟨Nat.le_of_ble_eq_true rfl, Nat.le_of_ble_eq_true rfl⟩ (by decide) dX7_init_17 (fun _ hH hz hS => ?_)
  have hF := hF.up (n2 := 43) (Nat.le_of_ble_eq_true rfl)
  refine xputF (pc := 19) C0 (Nat.le_of_ble_eq_true rfl) hnm hH hS 40 1 42 clX7 ⟨Nat.le_of_ble_eq_true rfl, Nat.le_of_ble_eq_true rfl⟩ ⟨rfl, rfl⟩ ⟨Nat.le_of_ble_eq_true rfl, rfl, by decide, by decide, rfl, rfl⟩ fl_X7_15 (fun q => ⟨rfl, rfl⟩) dX7_init_19 (fun _ locs hH hS hsz => ?_)
  have hF := hF.z (a := 40) (c := 1) (Nat.le_of_ble_eq_true rfl)
  have hz := hsz.trans hz
  refine lv_aload_n (pc := 22) C0.1 C0.2.1 dX7_init_22 rfl (lv_at hl 0 rfl) ?_
  refine lv_sipush (pc := 23) (v := 600) C0.1 C0.2.1 dX7_init_23 (by decide) ?_
  refine xnewa (pc := 26) (N := 600) (t := 0) (ty := .int) C0 (Nat.le_of_ble_eq_true rfl) hH hz hS ac_int rfl ⟨rfl, rfl⟩ ⟨rfl, by decide, trivial⟩ (hF.aI (by decide) rfl) ⟨by decide, by decide⟩ (by decide) ⟨Nat.le_of_ble_eq_true rfl, Nat.le_of_ble_eq_true rfl⟩ (by decide) dX7_init_26 (fun _ hH hz hS => ?_)
  have hF := hF.up (n2 := 44) (Nat.le_of_ble_eq_true rfl)
  refine xputF (pc := 28) C0 (Nat.le_of_ble_eq_true rfl) hnm hH hS 40 2 43 clX7 ⟨Nat.le_of_ble_eq_true rfl, Nat.le_of_ble_eq_true rfl⟩ ⟨rfl, rfl⟩ ⟨Nat.le_of_ble_eq_true rfl, rfl, by decide, by decide, rfl, rfl⟩ fl_X7_18 (fun q => ⟨rfl, rfl⟩) dX7_init_28 (fun _ locs hH hS hsz => ?_)
  have hF := hF.z (a := 40) (c := 2) (Nat.le_of_ble_eq_true rfl)
  have hz := hsz.trans hz
  refine lv_aload_n (pc := 31) C0.1 C0.2.1 dX7_init_31 rfl (lv_at hl 0 rfl) ?_
  refine lv_sipush (pc := 32) (v := 600) C0.1 C0.2.1 dX7_init_32 (by decide) ?_
  refine xnewa (pc := 35) (N := 600) (t := 0) (ty := .int) C0 (Nat.le_of_ble_eq_true rfl) hH hz hS ac_int rfl ⟨rfl, rfl⟩ ⟨rfl, by decide, trivial⟩ (hF.aI (by decide) rfl) ⟨by decide, by decide⟩ (by decide) ⟨Nat.le_of_ble_eq_true rfl, Nat.le_of_ble_eq_true rfl⟩ (by decide) dX7_init_35 (fun _ hH hz hS => ?_)
  have hF := hF.up (n2 := 45) (Nat.le_of_ble_eq_true rfl)
  refine xputF (pc := 37) C0 (Nat.le_of_ble_eq_true rfl) hnm hH hS 40 3 44 clX7 ⟨Nat.le_of_ble_eq_true rfl, Nat.le_of_ble_eq_true rfl⟩ ⟨rfl, rfl⟩ ⟨Nat.le_of_ble_eq_true rfl, rfl, by decide, by decide, rfl, rfl⟩ fl_X7_21 (fun q => ⟨rfl, rfl⟩) dX7_init_37 (fun _ locs hH hS hsz => ?_)
  have hF := hF.z (a := 40) (c := 3) (Nat.le_of_ble_eq_true rfl)
  have hz := hsz.trans hz
  refine lv_aload_n (pc := 40) C0.1 C0.2.1 dX7_init_40 rfl (lv_at hl 0 rfl) ?_
  refine lv_sipush (pc := 41) (v := 600) C0.1 C0.2.1 dX7_init_41 (by decide) ?_
  refine xnewa (pc := 44) (N := 600) (t := 0) (ty := .int) C0 (Nat.le_of_ble_eq_true rfl) hH hz hS ac_int rfl ⟨rfl, rfl⟩ ⟨rfl, by decide, trivial⟩ (hF.aI (by decide) rfl) ⟨by decide, by decide⟩ (by decide) ⟨Nat.le_of_ble_eq_true rfl, Nat.le_of_ble_eq_true rfl⟩ (by decide) dX7_init_44 (fun _ hH hz hS => ?_)
  have hF := hF.up (n2 := 46) (Nat.le_of_ble_eq_true rfl)
  refine xputF (pc := 46) C0 (Nat.le_of_ble_eq_true rfl) hnm hH hS 40 4 45 clX7 ⟨Nat.le_of_ble_eq_true rfl, Nat.le_of_ble_eq_true rfl⟩ ⟨rfl, rfl⟩ ⟨Nat.le_of_ble_eq_true rfl, rfl, by decide, by decide, rfl, rfl⟩ fl_X7_24 (fun q => ⟨rfl, rfl⟩) dX7_init_46 (fun _ locs hH hS hsz => ?_)
  have hF := hF.z (a := 40) (c := 4) (Nat.le_of_ble_eq_true rfl)
  have hz := hsz.trans hz
  refine lv_aload_n (pc := 49) C0.1 C0.2.1 dX7_init_49 rfl (lv_at hl 0 rfl) ?_
  refine lv_sipush (pc := 50) (v := 600) C0.1 C0.2.1 dX7_init_50 (by decide) ?_
  refine xnewa (pc := 53) (N := 600) (t := 0) (ty := .int) C0 (Nat.le_of_ble_eq_true rfl) hH hz hS ac_int rfl ⟨rfl, rfl⟩ ⟨rfl, by decide, trivial⟩ (hF.aI (by decide) rfl) ⟨by decide, by decide⟩ (by decide) ⟨Nat.le_of_ble_eq_true rfl, Nat.le_of_ble_eq_true rfl⟩ (by decide) dX7_init_53 (fun _ hH hz hS => ?_)
  have hF := hF.up (n2 := 47) (Nat.le_of_ble_eq_true rfl)
  refine xputF (pc := 55) C0 (Nat.le_of_ble_eq_true rfl) hnm hH hS 40 5 46 clX7 ⟨Nat.le_of_ble_eq_true rfl, Nat.le_of_ble_eq_true rfl⟩ ⟨rfl, rfl⟩ ⟨Nat.le_of_ble_eq_true rfl, rfl, by decide, by decide, rfl, rfl⟩ fl_X7_27 (fun q => ⟨rfl, rfl⟩) dX7_init_55 (fun _ locs hH hS hsz => ?_)
  have hF := hF.z (a := 40) (c := 5) (Nat.le_of_ble_eq_true rfl)
  have hz := hsz.trans hz
  refine lv_aload_n (pc := 58) C0.1 C0.2.1 dX7_init_58 rfl (lv_at hl 0 rfl) ?_
  refine lv_sipush (pc := 59) (v := 600) C0.1 C0.2.1 dX7_init_59 (by decide) ?_
  refine xnewa (pc := 62) (N := 600) (t := 2) (ty := .boolean) C0 (Nat.le_of_ble_eq_true rfl) hH hz hS ac_boolean rfl ⟨rfl, rfl⟩ ⟨rfl, by decide, trivial⟩ (hF.aI (by decide) rfl) ⟨by decide, by decide⟩ (by decide) ⟨Nat.le_of_ble_eq_true rfl, Nat.le_of_ble_eq_true rfl⟩ (by decide) dX7_init_62 (fun _ hH hz hS => ?_)
  have hF := hF.up (n2 := 48) (Nat.le_of_ble_eq_true rfl)
  refine xputF (pc := 64) C0 (Nat.le_of_ble_eq_true rfl) hnm hH hS 40 6 47 clX7 ⟨Nat.le_of_ble_eq_true rfl, Nat.le_of_ble_eq_true rfl⟩ ⟨rfl, rfl⟩ ⟨Nat.le_of_ble_eq_true rfl, rfl, by decide, by decide, rfl, rfl⟩ fl_X7_30 (fun q => ⟨rfl, rfl⟩) dX7_init_64 (fun _ locs hH hS hsz => ?_)
  have hF := hF.z (a := 40) (c := 6) (Nat.le_of_ble_eq_true rfl)
  have hz := hsz.trans hz
  refine W.widen (k := 7) (n := 4200) (by decide) (by decide) ?_
  exact xcret C0 hr hH hz hS dX7_init_67
theorem f_X0_init_49 {z : Nat → Nat → Bool} {i F : Nat → Nat → Int32} {G : Nat → Nat → Int64} (hF : Fr 50 z i F G) : Fr 59 (upz (upz (upz (upz (upz (upz (upz (upz (upz z 49 0) 49 1) 49 2) 49 3) 49 4) 49 5) 49 6) 49 7) 49 8) i F G := ((((((((((((((((((hF.up (n2 := 51) (Nat.le_of_ble_eq_true rfl)).z (a := 49) (c := 0) (Nat.le_of_ble_eq_true rfl)).up (n2 := 52) (Nat.le_of_ble_eq_true rfl)).z (a := 49) (c := 1) (Nat.le_of_ble_eq_true rfl)).up (n2 := 53) (Nat.le_of_ble_eq_true rfl)).z (a := 49) (c := 2) (Nat.le_of_ble_eq_true rfl)).up (n2 := 54) (Nat.le_of_ble_eq_true rfl)).z (a := 49) (c := 3) (Nat.le_of_ble_eq_true rfl)).up (n2 := 55) (Nat.le_of_ble_eq_true rfl)).z (a := 49) (c := 4) (Nat.le_of_ble_eq_true rfl)).up (n2 := 56) (Nat.le_of_ble_eq_true rfl)).z (a := 49) (c := 5) (Nat.le_of_ble_eq_true rfl)).up (n2 := 57) (Nat.le_of_ble_eq_true rfl)).z (a := 49) (c := 6) (Nat.le_of_ble_eq_true rfl)).up (n2 := 58) (Nat.le_of_ble_eq_true rfl)).z (a := 49) (c := 7) (Nat.le_of_ble_eq_true rfl)).up (n2 := 59) (Nat.le_of_ble_eq_true rfl)).z (a := 49) (c := 8) (Nat.le_of_ble_eq_true rfl))
set_option maxHeartbeats 4000000 in
set_option maxRecDepth 100000 in
theorem c_X0_init_49 (l : Launch) (D : va_G) (tA : Nat → ClassId) (b : Nat) (z : Nat → Nat → Bool) (i F : Nat → Nat → Int32) (G : Nat → Nat → Int64) (hF : Fr 50 z i F G) : xMC l yX0_init cX0_init 1 1 12 9 5409 D tA b 0 50 z i F G 49 59 (upz (upz (upz (upz (upz (upz (upz (upz (upz z 49 0) 49 1) 49 2) 49 3) 49 4) 49 5) 49 6) 49 7) 49 8) i F := by
  refine xstart0 (n0 := 59) (o := 0) RX0 rfl (by decide) (Nat.le_of_ble_eq_true rfl) (fun _ h => h.2.2) ?_
  intro p e s m below meth c ls C0 hr hnm h0 hS hl
  obtain ⟨hH, hz, -⟩ := h0
  have hl : lv_has ls 1 [(0, .ref (b + 49))] := hl
  refine lv_aload_n (pc := 0) C0.1 C0.2.1 dX0_init_0 rfl (lv_at hl 0 rfl) ?_
  refine xobj (pc := 1) C0 ml_X0_3 im_obj cd_obj hl.1 dX0_init_1 ⟨Nat.le_of_ble_eq_true rfl, Nat.le_of_ble_eq_true rfl⟩ ?_
  refine lv_aload_n (pc := 4) C0.1 C0.2.1 dX0_init_4 rfl (lv_at hl 0 rfl) ?_
  refine lv_sipush (pc := 5) (v := 601) C0.1 C0.2.1 dX0_init_5 (by decide) ?_
  refine xnewa (pc := 8) (N := 601) (t := 0) (ty := .int) C0 (Nat.le_of_ble_eq_true rfl) hH hz hS ac_int rfl ⟨rfl, rfl⟩ ⟨rfl, by decide, trivial⟩ (hF.aI (by decide) rfl) ⟨by decide, by decide⟩ (by decide) ⟨Nat.le_of_ble_eq_true rfl, Nat.le_of_ble_eq_true rfl⟩ (by decide) dX0_init_8 (fun _ hH hz hS => ?_)
  have hF := hF.up (n2 := 51) (Nat.le_of_ble_eq_true rfl)
  refine xputF (pc := 10) C0 (Nat.le_of_ble_eq_true rfl) hnm hH hS 49 0 50 clX0 ⟨Nat.le_of_ble_eq_true rfl, Nat.le_of_ble_eq_true rfl⟩ ⟨rfl, rfl⟩ ⟨Nat.le_of_ble_eq_true rfl, rfl, by decide, by decide, rfl, rfl⟩ fl_X0_9 (fun q => ⟨rfl, rfl⟩) dX0_init_10 (fun _ locs hH hS hsz => ?_)
  have hF := hF.z (a := 49) (c := 0) (Nat.le_of_ble_eq_true rfl)
  have hz := hsz.trans hz
  refine lv_aload_n (pc := 13) C0.1 C0.2.1 dX0_init_13 rfl (lv_at hl 0 rfl) ?_
  refine lv_sipush (pc := 14) (v := 601) C0.1 C0.2.1 dX0_init_14 (by decide) ?_
  refine xnewa (pc := 17) (N := 601) (t := 0) (ty := .int) C0 (Nat.le_of_ble_eq_true rfl) hH hz hS ac_int rfl ⟨rfl, rfl⟩ ⟨rfl, by decide, trivial⟩ (hF.aI (by decide) rfl) ⟨by decide, by decide⟩ (by decide) ⟨Nat.le_of_ble_eq_true rfl, Nat.le_of_ble_eq_true rfl⟩ (by decide) dX0_init_17 (fun _ hH hz hS => ?_)
  have hF := hF.up (n2 := 52) (Nat.le_of_ble_eq_true rfl)
  refine xputF (pc := 19) C0 (Nat.le_of_ble_eq_true rfl) hnm hH hS 49 1 51 clX0 ⟨Nat.le_of_ble_eq_true rfl, Nat.le_of_ble_eq_true rfl⟩ ⟨rfl, rfl⟩ ⟨Nat.le_of_ble_eq_true rfl, rfl, by decide, by decide, rfl, rfl⟩ fl_X0_15 (fun q => ⟨rfl, rfl⟩) dX0_init_19 (fun _ locs hH hS hsz => ?_)
  have hF := hF.z (a := 49) (c := 1) (Nat.le_of_ble_eq_true rfl)
  have hz := hsz.trans hz
  refine lv_aload_n (pc := 22) C0.1 C0.2.1 dX0_init_22 rfl (lv_at hl 0 rfl) ?_
  refine lv_sipush (pc := 23) (v := 601) C0.1 C0.2.1 dX0_init_23 (by decide) ?_
  refine xnewa (pc := 26) (N := 601) (t := 0) (ty := .int) C0 (Nat.le_of_ble_eq_true rfl) hH hz hS ac_int rfl ⟨rfl, rfl⟩ ⟨rfl, by decide, trivial⟩ (hF.aI (by decide) rfl) ⟨by decide, by decide⟩ (by decide) ⟨Nat.le_of_ble_eq_true rfl, Nat.le_of_ble_eq_true rfl⟩ (by decide) dX0_init_26 (fun _ hH hz hS => ?_)
  have hF := hF.up (n2 := 53) (Nat.le_of_ble_eq_true rfl)
  refine xputF (pc := 28) C0 (Nat.le_of_ble_eq_true rfl) hnm hH hS 49 2 52 clX0 ⟨Nat.le_of_ble_eq_true rfl, Nat.le_of_ble_eq_true rfl⟩ ⟨rfl, rfl⟩ ⟨Nat.le_of_ble_eq_true rfl, rfl, by decide, by decide, rfl, rfl⟩ fl_X0_18 (fun q => ⟨rfl, rfl⟩) dX0_init_28 (fun _ locs hH hS hsz => ?_)
  have hF := hF.z (a := 49) (c := 2) (Nat.le_of_ble_eq_true rfl)
  have hz := hsz.trans hz
  refine lv_aload_n (pc := 31) C0.1 C0.2.1 dX0_init_31 rfl (lv_at hl 0 rfl) ?_
  refine lv_sipush (pc := 32) (v := 601) C0.1 C0.2.1 dX0_init_32 (by decide) ?_
  refine xnewa (pc := 35) (N := 601) (t := 0) (ty := .int) C0 (Nat.le_of_ble_eq_true rfl) hH hz hS ac_int rfl ⟨rfl, rfl⟩ ⟨rfl, by decide, trivial⟩ (hF.aI (by decide) rfl) ⟨by decide, by decide⟩ (by decide) ⟨Nat.le_of_ble_eq_true rfl, Nat.le_of_ble_eq_true rfl⟩ (by decide) dX0_init_35 (fun _ hH hz hS => ?_)
  have hF := hF.up (n2 := 54) (Nat.le_of_ble_eq_true rfl)
  refine xputF (pc := 37) C0 (Nat.le_of_ble_eq_true rfl) hnm hH hS 49 3 53 clX0 ⟨Nat.le_of_ble_eq_true rfl, Nat.le_of_ble_eq_true rfl⟩ ⟨rfl, rfl⟩ ⟨Nat.le_of_ble_eq_true rfl, rfl, by decide, by decide, rfl, rfl⟩ fl_X0_21 (fun q => ⟨rfl, rfl⟩) dX0_init_37 (fun _ locs hH hS hsz => ?_)
  have hF := hF.z (a := 49) (c := 3) (Nat.le_of_ble_eq_true rfl)
  have hz := hsz.trans hz
  refine lv_aload_n (pc := 40) C0.1 C0.2.1 dX0_init_40 rfl (lv_at hl 0 rfl) ?_
  refine lv_sipush (pc := 41) (v := 601) C0.1 C0.2.1 dX0_init_41 (by decide) ?_
  refine xnewa (pc := 44) (N := 601) (t := 0) (ty := .int) C0 (Nat.le_of_ble_eq_true rfl) hH hz hS ac_int rfl ⟨rfl, rfl⟩ ⟨rfl, by decide, trivial⟩ (hF.aI (by decide) rfl) ⟨by decide, by decide⟩ (by decide) ⟨Nat.le_of_ble_eq_true rfl, Nat.le_of_ble_eq_true rfl⟩ (by decide) dX0_init_44 (fun _ hH hz hS => ?_)
  have hF := hF.up (n2 := 55) (Nat.le_of_ble_eq_true rfl)
  refine xputF (pc := 46) C0 (Nat.le_of_ble_eq_true rfl) hnm hH hS 49 4 54 clX0 ⟨Nat.le_of_ble_eq_true rfl, Nat.le_of_ble_eq_true rfl⟩ ⟨rfl, rfl⟩ ⟨Nat.le_of_ble_eq_true rfl, rfl, by decide, by decide, rfl, rfl⟩ fl_X0_24 (fun q => ⟨rfl, rfl⟩) dX0_init_46 (fun _ locs hH hS hsz => ?_)
  have hF := hF.z (a := 49) (c := 4) (Nat.le_of_ble_eq_true rfl)
  have hz := hsz.trans hz
  refine lv_aload_n (pc := 49) C0.1 C0.2.1 dX0_init_49 rfl (lv_at hl 0 rfl) ?_
  refine lv_sipush (pc := 50) (v := 601) C0.1 C0.2.1 dX0_init_50 (by decide) ?_
  refine xnewa (pc := 53) (N := 601) (t := 0) (ty := .int) C0 (Nat.le_of_ble_eq_true rfl) hH hz hS ac_int rfl ⟨rfl, rfl⟩ ⟨rfl, by decide, trivial⟩ (hF.aI (by decide) rfl) ⟨by decide, by decide⟩ (by decide) ⟨Nat.le_of_ble_eq_true rfl, Nat.le_of_ble_eq_true rfl⟩ (by decide) dX0_init_53 (fun _ hH hz hS => ?_)
  have hF := hF.up (n2 := 56) (Nat.le_of_ble_eq_true rfl)
  refine xputF (pc := 55) C0 (Nat.le_of_ble_eq_true rfl) hnm hH hS 49 5 55 clX0 ⟨Nat.le_of_ble_eq_true rfl, Nat.le_of_ble_eq_true rfl⟩ ⟨rfl, rfl⟩ ⟨Nat.le_of_ble_eq_true rfl, rfl, by decide, by decide, rfl, rfl⟩ fl_X0_27 (fun q => ⟨rfl, rfl⟩) dX0_init_55 (fun _ locs hH hS hsz => ?_)
  have hF := hF.z (a := 49) (c := 5) (Nat.le_of_ble_eq_true rfl)
  have hz := hsz.trans hz
  refine lv_aload_n (pc := 58) C0.1 C0.2.1 dX0_init_58 rfl (lv_at hl 0 rfl) ?_
  refine lv_sipush (pc := 59) (v := 601) C0.1 C0.2.1 dX0_init_59 (by decide) ?_
  refine xnewa (pc := 62) (N := 601) (t := 0) (ty := .int) C0 (Nat.le_of_ble_eq_true rfl) hH hz hS ac_int rfl ⟨rfl, rfl⟩ ⟨rfl, by decide, trivial⟩ (hF.aI (by decide) rfl) ⟨by decide, by decide⟩ (by decide) ⟨Nat.le_of_ble_eq_true rfl, Nat.le_of_ble_eq_true rfl⟩ (by decide) dX0_init_62 (fun _ hH hz hS => ?_)
  have hF := hF.up (n2 := 57) (Nat.le_of_ble_eq_true rfl)
  refine xputF (pc := 64) C0 (Nat.le_of_ble_eq_true rfl) hnm hH hS 49 6 56 clX0 ⟨Nat.le_of_ble_eq_true rfl, Nat.le_of_ble_eq_true rfl⟩ ⟨rfl, rfl⟩ ⟨Nat.le_of_ble_eq_true rfl, rfl, by decide, by decide, rfl, rfl⟩ fl_X0_30 (fun q => ⟨rfl, rfl⟩) dX0_init_64 (fun _ locs hH hS hsz => ?_)
  have hF := hF.z (a := 49) (c := 6) (Nat.le_of_ble_eq_true rfl)
  have hz := hsz.trans hz
  refine lv_aload_n (pc := 67) C0.1 C0.2.1 dX0_init_67 rfl (lv_at hl 0 rfl) ?_
  refine lv_sipush (pc := 68) (v := 601) C0.1 C0.2.1 dX0_init_68 (by decide) ?_
  refine xnewa (pc := 71) (N := 601) (t := 0) (ty := .int) C0 (Nat.le_of_ble_eq_true rfl) hH hz hS ac_int rfl ⟨rfl, rfl⟩ ⟨rfl, by decide, trivial⟩ (hF.aI (by decide) rfl) ⟨by decide, by decide⟩ (by decide) ⟨Nat.le_of_ble_eq_true rfl, Nat.le_of_ble_eq_true rfl⟩ (by decide) dX0_init_71 (fun _ hH hz hS => ?_)
  have hF := hF.up (n2 := 58) (Nat.le_of_ble_eq_true rfl)
  refine xputF (pc := 73) C0 (Nat.le_of_ble_eq_true rfl) hnm hH hS 49 7 57 clX0 ⟨Nat.le_of_ble_eq_true rfl, Nat.le_of_ble_eq_true rfl⟩ ⟨rfl, rfl⟩ ⟨Nat.le_of_ble_eq_true rfl, rfl, by decide, by decide, rfl, rfl⟩ fl_X0_33 (fun q => ⟨rfl, rfl⟩) dX0_init_73 (fun _ locs hH hS hsz => ?_)
  have hF := hF.z (a := 49) (c := 7) (Nat.le_of_ble_eq_true rfl)
  have hz := hsz.trans hz
  refine lv_aload_n (pc := 76) C0.1 C0.2.1 dX0_init_76 rfl (lv_at hl 0 rfl) ?_
  refine lv_sipush (pc := 77) (v := 601) C0.1 C0.2.1 dX0_init_77 (by decide) ?_
  refine xnewa (pc := 80) (N := 601) (t := 0) (ty := .int) C0 (Nat.le_of_ble_eq_true rfl) hH hz hS ac_int rfl ⟨rfl, rfl⟩ ⟨rfl, by decide, trivial⟩ (hF.aI (by decide) rfl) ⟨by decide, by decide⟩ (by decide) ⟨Nat.le_of_ble_eq_true rfl, Nat.le_of_ble_eq_true rfl⟩ (by decide) dX0_init_80 (fun _ hH hz hS => ?_)
  have hF := hF.up (n2 := 59) (Nat.le_of_ble_eq_true rfl)
  refine xputF (pc := 82) C0 (Nat.le_of_ble_eq_true rfl) hnm hH hS 49 8 58 clX0 ⟨Nat.le_of_ble_eq_true rfl, Nat.le_of_ble_eq_true rfl⟩ ⟨rfl, rfl⟩ ⟨Nat.le_of_ble_eq_true rfl, rfl, by decide, by decide, rfl, rfl⟩ fl_X0_36 (fun q => ⟨rfl, rfl⟩) dX0_init_82 (fun _ locs hH hS hsz => ?_)
  have hF := hF.z (a := 49) (c := 8) (Nat.le_of_ble_eq_true rfl)
  have hz := hsz.trans hz
  refine W.widen (k := 9) (n := 5409) (by decide) (by decide) ?_
  exact xcret C0 hr hH hz hS dX0_init_85
theorem f_X2_init_59 {z : Nat → Nat → Bool} {i F : Nat → Nat → Int32} {G : Nat → Nat → Int64} (hF : Fr 60 z i F G) : Fr 67 (upz (upz (upz (upz (upz (upz (upz z 59 0) 59 1) 59 2) 59 3) 59 4) 59 6) 59 7) i F G := ((((((((((((((hF.up (n2 := 61) (Nat.le_of_ble_eq_true rfl)).z (a := 59) (c := 0) (Nat.le_of_ble_eq_true rfl)).up (n2 := 62) (Nat.le_of_ble_eq_true rfl)).z (a := 59) (c := 1) (Nat.le_of_ble_eq_true rfl)).up (n2 := 63) (Nat.le_of_ble_eq_true rfl)).z (a := 59) (c := 2) (Nat.le_of_ble_eq_true rfl)).up (n2 := 64) (Nat.le_of_ble_eq_true rfl)).z (a := 59) (c := 3) (Nat.le_of_ble_eq_true rfl)).up (n2 := 65) (Nat.le_of_ble_eq_true rfl)).z (a := 59) (c := 4) (Nat.le_of_ble_eq_true rfl)).up (n2 := 66) (Nat.le_of_ble_eq_true rfl)).z (a := 59) (c := 6) (Nat.le_of_ble_eq_true rfl)).up (n2 := 67) (Nat.le_of_ble_eq_true rfl)).z (a := 59) (c := 7) (Nat.le_of_ble_eq_true rfl))
set_option maxHeartbeats 4000000 in
set_option maxRecDepth 100000 in
theorem c_X2_init_59 (l : Launch) (D : va_G) (tA : Nat → ClassId) (b : Nat) (z : Nat → Nat → Bool) (i F : Nat → Nat → Int32) (G : Nat → Nat → Int64) (hF : Fr 60 z i F G) : xMC l yX2_init cX2_init 1 1 12 7 8402 D tA b 0 60 z i F G 59 67 (upz (upz (upz (upz (upz (upz (upz z 59 0) 59 1) 59 2) 59 3) 59 4) 59 6) 59 7) i F := by
  refine xstart0 (n0 := 67) (o := 0) RX2 rfl (by decide) (Nat.le_of_ble_eq_true rfl) (fun _ h => h.2.2) ?_
  intro p e s m below meth c ls C0 hr hnm h0 hS hl
  obtain ⟨hH, hz, -⟩ := h0
  have hl : lv_has ls 1 [(0, .ref (b + 59))] := hl
  refine lv_aload_n (pc := 0) C0.1 C0.2.1 dX2_init_0 rfl (lv_at hl 0 rfl) ?_
  refine xobj (pc := 1) C0 ml_X2_3 im_obj cd_obj hl.1 dX2_init_1 ⟨Nat.le_of_ble_eq_true rfl, Nat.le_of_ble_eq_true rfl⟩ ?_
  refine lv_aload_n (pc := 4) C0.1 C0.2.1 dX2_init_4 rfl (lv_at hl 0 rfl) ?_
  refine lv_sipush (pc := 5) (v := 1200) C0.1 C0.2.1 dX2_init_5 (by decide) ?_
  refine xnewa (pc := 8) (N := 1200) (t := 0) (ty := .int) C0 (Nat.le_of_ble_eq_true rfl) hH hz hS ac_int rfl ⟨rfl, rfl⟩ ⟨rfl, by decide, trivial⟩ (hF.aI (by decide) rfl) ⟨by decide, by decide⟩ (by decide) ⟨Nat.le_of_ble_eq_true rfl, Nat.le_of_ble_eq_true rfl⟩ (by decide) dX2_init_8 (fun _ hH hz hS => ?_)
  have hF := hF.up (n2 := 61) (Nat.le_of_ble_eq_true rfl)
  refine xputF (pc := 10) C0 (Nat.le_of_ble_eq_true rfl) hnm hH hS 59 0 60 clX2 ⟨Nat.le_of_ble_eq_true rfl, Nat.le_of_ble_eq_true rfl⟩ ⟨rfl, rfl⟩ ⟨Nat.le_of_ble_eq_true rfl, rfl, by decide, by decide, rfl, rfl⟩ fl_X2_9 (fun q => ⟨rfl, rfl⟩) dX2_init_10 (fun _ locs hH hS hsz => ?_)
  have hF := hF.z (a := 59) (c := 0) (Nat.le_of_ble_eq_true rfl)
  have hz := hsz.trans hz
  refine lv_aload_n (pc := 13) C0.1 C0.2.1 dX2_init_13 rfl (lv_at hl 0 rfl) ?_
  refine lv_sipush (pc := 14) (v := 1200) C0.1 C0.2.1 dX2_init_14 (by decide) ?_
  refine xnewa (pc := 17) (N := 1200) (t := 0) (ty := .int) C0 (Nat.le_of_ble_eq_true rfl) hH hz hS ac_int rfl ⟨rfl, rfl⟩ ⟨rfl, by decide, trivial⟩ (hF.aI (by decide) rfl) ⟨by decide, by decide⟩ (by decide) ⟨Nat.le_of_ble_eq_true rfl, Nat.le_of_ble_eq_true rfl⟩ (by decide) dX2_init_17 (fun _ hH hz hS => ?_)
  have hF := hF.up (n2 := 62) (Nat.le_of_ble_eq_true rfl)
  refine xputF (pc := 19) C0 (Nat.le_of_ble_eq_true rfl) hnm hH hS 59 1 61 clX2 ⟨Nat.le_of_ble_eq_true rfl, Nat.le_of_ble_eq_true rfl⟩ ⟨rfl, rfl⟩ ⟨Nat.le_of_ble_eq_true rfl, rfl, by decide, by decide, rfl, rfl⟩ fl_X2_15 (fun q => ⟨rfl, rfl⟩) dX2_init_19 (fun _ locs hH hS hsz => ?_)
  have hF := hF.z (a := 59) (c := 1) (Nat.le_of_ble_eq_true rfl)
  have hz := hsz.trans hz
  refine lv_aload_n (pc := 22) C0.1 C0.2.1 dX2_init_22 rfl (lv_at hl 0 rfl) ?_
  refine lv_sipush (pc := 23) (v := 1200) C0.1 C0.2.1 dX2_init_23 (by decide) ?_
  refine xnewa (pc := 26) (N := 1200) (t := 0) (ty := .int) C0 (Nat.le_of_ble_eq_true rfl) hH hz hS ac_int rfl ⟨rfl, rfl⟩ ⟨rfl, by decide, trivial⟩ (hF.aI (by decide) rfl) ⟨by decide, by decide⟩ (by decide) ⟨Nat.le_of_ble_eq_true rfl, Nat.le_of_ble_eq_true rfl⟩ (by decide) dX2_init_26 (fun _ hH hz hS => ?_)
  have hF := hF.up (n2 := 63) (Nat.le_of_ble_eq_true rfl)
  refine xputF (pc := 28) C0 (Nat.le_of_ble_eq_true rfl) hnm hH hS 59 2 62 clX2 ⟨Nat.le_of_ble_eq_true rfl, Nat.le_of_ble_eq_true rfl⟩ ⟨rfl, rfl⟩ ⟨Nat.le_of_ble_eq_true rfl, rfl, by decide, by decide, rfl, rfl⟩ fl_X2_18 (fun q => ⟨rfl, rfl⟩) dX2_init_28 (fun _ locs hH hS hsz => ?_)
  have hF := hF.z (a := 59) (c := 2) (Nat.le_of_ble_eq_true rfl)
  have hz := hsz.trans hz
  refine lv_aload_n (pc := 31) C0.1 C0.2.1 dX2_init_31 rfl (lv_at hl 0 rfl) ?_
  refine lv_sipush (pc := 32) (v := 1200) C0.1 C0.2.1 dX2_init_32 (by decide) ?_
  refine xnewa (pc := 35) (N := 1200) (t := 0) (ty := .int) C0 (Nat.le_of_ble_eq_true rfl) hH hz hS ac_int rfl ⟨rfl, rfl⟩ ⟨rfl, by decide, trivial⟩ (hF.aI (by decide) rfl) ⟨by decide, by decide⟩ (by decide) ⟨Nat.le_of_ble_eq_true rfl, Nat.le_of_ble_eq_true rfl⟩ (by decide) dX2_init_35 (fun _ hH hz hS => ?_)
  have hF := hF.up (n2 := 64) (Nat.le_of_ble_eq_true rfl)
  refine xputF (pc := 37) C0 (Nat.le_of_ble_eq_true rfl) hnm hH hS 59 3 63 clX2 ⟨Nat.le_of_ble_eq_true rfl, Nat.le_of_ble_eq_true rfl⟩ ⟨rfl, rfl⟩ ⟨Nat.le_of_ble_eq_true rfl, rfl, by decide, by decide, rfl, rfl⟩ fl_X2_21 (fun q => ⟨rfl, rfl⟩) dX2_init_37 (fun _ locs hH hS hsz => ?_)
  have hF := hF.z (a := 59) (c := 3) (Nat.le_of_ble_eq_true rfl)
  have hz := hsz.trans hz
  refine lv_aload_n (pc := 40) C0.1 C0.2.1 dX2_init_40 rfl (lv_at hl 0 rfl) ?_
  refine lv_sipush (pc := 41) (v := 1200) C0.1 C0.2.1 dX2_init_41 (by decide) ?_
  refine xnewa (pc := 44) (N := 1200) (t := 0) (ty := .int) C0 (Nat.le_of_ble_eq_true rfl) hH hz hS ac_int rfl ⟨rfl, rfl⟩ ⟨rfl, by decide, trivial⟩ (hF.aI (by decide) rfl) ⟨by decide, by decide⟩ (by decide) ⟨Nat.le_of_ble_eq_true rfl, Nat.le_of_ble_eq_true rfl⟩ (by decide) dX2_init_44 (fun _ hH hz hS => ?_)
  have hF := hF.up (n2 := 65) (Nat.le_of_ble_eq_true rfl)
  refine xputF (pc := 46) C0 (Nat.le_of_ble_eq_true rfl) hnm hH hS 59 4 64 clX2 ⟨Nat.le_of_ble_eq_true rfl, Nat.le_of_ble_eq_true rfl⟩ ⟨rfl, rfl⟩ ⟨Nat.le_of_ble_eq_true rfl, rfl, by decide, by decide, rfl, rfl⟩ fl_X2_24 (fun q => ⟨rfl, rfl⟩) dX2_init_46 (fun _ locs hH hS hsz => ?_)
  have hF := hF.z (a := 59) (c := 4) (Nat.le_of_ble_eq_true rfl)
  have hz := hsz.trans hz
  refine lv_aload_n (pc := 49) C0.1 C0.2.1 dX2_init_49 rfl (lv_at hl 0 rfl) ?_
  refine lv_sipush (pc := 50) (v := 1201) C0.1 C0.2.1 dX2_init_50 (by decide) ?_
  refine xnewa (pc := 53) (N := 1201) (t := 0) (ty := .int) C0 (Nat.le_of_ble_eq_true rfl) hH hz hS ac_int rfl ⟨rfl, rfl⟩ ⟨rfl, by decide, trivial⟩ (hF.aI (by decide) rfl) ⟨by decide, by decide⟩ (by decide) ⟨Nat.le_of_ble_eq_true rfl, Nat.le_of_ble_eq_true rfl⟩ (by decide) dX2_init_53 (fun _ hH hz hS => ?_)
  have hF := hF.up (n2 := 66) (Nat.le_of_ble_eq_true rfl)
  refine xputF (pc := 55) C0 (Nat.le_of_ble_eq_true rfl) hnm hH hS 59 6 65 clX2 ⟨Nat.le_of_ble_eq_true rfl, Nat.le_of_ble_eq_true rfl⟩ ⟨rfl, rfl⟩ ⟨Nat.le_of_ble_eq_true rfl, rfl, by decide, by decide, rfl, rfl⟩ fl_X2_27 (fun q => ⟨rfl, rfl⟩) dX2_init_55 (fun _ locs hH hS hsz => ?_)
  have hF := hF.z (a := 59) (c := 6) (Nat.le_of_ble_eq_true rfl)
  have hz := hsz.trans hz
  refine lv_aload_n (pc := 58) C0.1 C0.2.1 dX2_init_58 rfl (lv_at hl 0 rfl) ?_
  refine lv_sipush (pc := 59) (v := 1201) C0.1 C0.2.1 dX2_init_59 (by decide) ?_
  refine xnewa (pc := 62) (N := 1201) (t := 0) (ty := .int) C0 (Nat.le_of_ble_eq_true rfl) hH hz hS ac_int rfl ⟨rfl, rfl⟩ ⟨rfl, by decide, trivial⟩ (hF.aI (by decide) rfl) ⟨by decide, by decide⟩ (by decide) ⟨Nat.le_of_ble_eq_true rfl, Nat.le_of_ble_eq_true rfl⟩ (by decide) dX2_init_62 (fun _ hH hz hS => ?_)
  have hF := hF.up (n2 := 67) (Nat.le_of_ble_eq_true rfl)
  refine xputF (pc := 64) C0 (Nat.le_of_ble_eq_true rfl) hnm hH hS 59 7 66 clX2 ⟨Nat.le_of_ble_eq_true rfl, Nat.le_of_ble_eq_true rfl⟩ ⟨rfl, rfl⟩ ⟨Nat.le_of_ble_eq_true rfl, rfl, by decide, by decide, rfl, rfl⟩ fl_X2_30 (fun q => ⟨rfl, rfl⟩) dX2_init_64 (fun _ locs hH hS hsz => ?_)
  have hF := hF.z (a := 59) (c := 7) (Nat.le_of_ble_eq_true rfl)
  have hz := hsz.trans hz
  refine W.widen (k := 7) (n := 8402) (by decide) (by decide) ?_
  exact xcret C0 hr hH hz hS dX2_init_67
theorem f_X8_init_48 {z : Nat → Nat → Bool} {i F : Nat → Nat → Int32} {G : Nat → Nat → Int64} (hF : Fr 49 z i F G) : Fr 70 (upz (upz (upz (upz (upz (upz (upz (upz (upz (upz (upz (upz (upz (upz (upz (upz (upz (upz (upz (upz (upz z 49 0) 49 1) 49 2) 49 3) 49 4) 49 5) 49 6) 49 7) 49 8) 48 0) 59 0) 59 1) 59 2) 59 3) 59 4) 59 6) 59 7) 48 1) 48 2) 48 3) 48 6) i F G := ((((((((f_X2_init_59 (((f_X0_init_49 (hF.up (n2 := 50) (Nat.le_of_ble_eq_true rfl))).z (a := 48) (c := 0) (Nat.le_of_ble_eq_true rfl)).up (n2 := 60) (Nat.le_of_ble_eq_true rfl))).z (a := 48) (c := 1) (Nat.le_of_ble_eq_true rfl)).up (n2 := 68) (Nat.le_of_ble_eq_true rfl)).z (a := 48) (c := 2) (Nat.le_of_ble_eq_true rfl)).up (n2 := 69) (Nat.le_of_ble_eq_true rfl)).z (a := 48) (c := 3) (Nat.le_of_ble_eq_true rfl)).up (n2 := 70) (Nat.le_of_ble_eq_true rfl)).z (a := 48) (c := 6) (Nat.le_of_ble_eq_true rfl))
set_option maxHeartbeats 4000000 in
set_option maxRecDepth 100000 in
theorem c_X8_init_48 (l : Launch) (D : va_G) (tA : Nat → ClassId) (b : Nat) (z : Nat → Nat → Bool) (i F : Nat → Nat → Int32) (G : Nat → Nat → Int64) (hF : Fr 49 z i F G) : xMC l yX8_init cX8_init 1 2 32 21 15631 D tA b 0 49 z i F G 48 70 (upz (upz (upz (upz (upz (upz (upz (upz (upz (upz (upz (upz (upz (upz (upz (upz (upz (upz (upz (upz (upz z 49 0) 49 1) 49 2) 49 3) 49 4) 49 5) 49 6) 49 7) 49 8) 48 0) 59 0) 59 1) 59 2) 59 3) 59 4) 59 6) 59 7) 48 1) 48 2) 48 3) 48 6) i F := by
  refine xstart0 (n0 := 70) (o := 0) RX8 rfl (by decide) (Nat.le_of_ble_eq_true rfl) (fun _ h => h.2.2) ?_
  intro p e s m below meth c ls C0 hr hnm h0 hS hl
  obtain ⟨hH, hz, -⟩ := h0
  have hl : lv_has ls 1 [(0, .ref (b + 48))] := hl
  refine lv_aload_n (pc := 0) C0.1 C0.2.1 dX8_init_0 rfl (lv_at hl 0 rfl) ?_
  refine xobj (pc := 1) C0 ml_X8_3 im_obj cd_obj hl.1 dX8_init_1 ⟨Nat.le_of_ble_eq_true rfl, Nat.le_of_ble_eq_true rfl⟩ ?_
  refine lv_aload_n (pc := 4) C0.1 C0.2.1 dX8_init_4 rfl (lv_at hl 0 rfl) ?_
  refine xnewo (pc := 5) C0 (Nat.le_of_ble_eq_true rfl) hH hz hS clX0 cl_X8_9 in_X0 it_X0 ⟨rfl, rfl⟩ (hF.o (by decide +kernel)) ⟨Nat.le_of_ble_eq_true rfl, Nat.le_of_ble_eq_true rfl⟩ dX8_init_5 (fun _ hH hz hS => ?_)
  have hF := hF.up (n2 := 50) (Nat.le_of_ble_eq_true rfl)
  refine lv_dup (pc := 8) C0.1 C0.2.1 dX8_init_8 rfl ?_
  refine xcIN (pc := 9) 49 (c_X0_init_49 l D tA b _ _ _ _ hF) C0 (Nat.le_of_ble_eq_true rfl) hH hz hS cw_X8_11 rfl im_X0_init ⟨Nat.le_of_ble_eq_true rfl, Nat.le_of_ble_eq_true rfl⟩ hl.1 rfl (Nat.le_of_ble_eq_true rfl) dX8_init_9 ⟨Nat.le_of_ble_eq_true rfl, Nat.le_of_ble_eq_true rfl⟩ (fun _ locs hH hz hS => ?_)
  have hF := f_X0_init_49 hF
  refine xputF (pc := 12) C0 (Nat.le_of_ble_eq_true rfl) hnm hH hS 48 0 49 clX8 ⟨Nat.le_of_ble_eq_true rfl, Nat.le_of_ble_eq_true rfl⟩ ⟨rfl, rfl⟩ ⟨Nat.le_of_ble_eq_true rfl, rfl, by decide, by decide, rfl, rfl⟩ fl_X8_12 (fun q => ⟨rfl, rfl⟩) dX8_init_12 (fun _ locs hH hS hsz => ?_)
  have hF := hF.z (a := 48) (c := 0) (Nat.le_of_ble_eq_true rfl)
  have hz := hsz.trans hz
  refine lv_aload_n (pc := 15) C0.1 C0.2.1 dX8_init_15 rfl (lv_at hl 0 rfl) ?_
  refine xnewo (pc := 16) C0 (Nat.le_of_ble_eq_true rfl) hH hz hS clX2 cl_X8_18 in_X2 it_X2 ⟨rfl, rfl⟩ (hF.o (by decide +kernel)) ⟨Nat.le_of_ble_eq_true rfl, Nat.le_of_ble_eq_true rfl⟩ dX8_init_16 (fun _ hH hz hS => ?_)
  have hF := hF.up (n2 := 60) (Nat.le_of_ble_eq_true rfl)
  refine lv_dup (pc := 19) C0.1 C0.2.1 dX8_init_19 rfl ?_
  refine xcIN (pc := 20) 59 (c_X2_init_59 l D tA b _ _ _ _ hF) C0 (Nat.le_of_ble_eq_true rfl) hH hz hS cw_X8_20 rfl im_X2_init ⟨Nat.le_of_ble_eq_true rfl, Nat.le_of_ble_eq_true rfl⟩ hl.1 rfl (Nat.le_of_ble_eq_true rfl) dX8_init_20 ⟨Nat.le_of_ble_eq_true rfl, Nat.le_of_ble_eq_true rfl⟩ (fun _ locs hH hz hS => ?_)
  have hF := f_X2_init_59 hF
  refine xputF (pc := 23) C0 (Nat.le_of_ble_eq_true rfl) hnm hH hS 48 1 59 clX8 ⟨Nat.le_of_ble_eq_true rfl, Nat.le_of_ble_eq_true rfl⟩ ⟨rfl, rfl⟩ ⟨Nat.le_of_ble_eq_true rfl, rfl, by decide, by decide, rfl, rfl⟩ fl_X8_21 (fun q => ⟨rfl, rfl⟩) dX8_init_23 (fun _ locs hH hS hsz => ?_)
  have hF := hF.z (a := 48) (c := 1) (Nat.le_of_ble_eq_true rfl)
  have hz := hsz.trans hz
  refine lv_aload_n (pc := 26) C0.1 C0.2.1 dX8_init_26 rfl (lv_at hl 0 rfl) ?_
  refine lv_sipush (pc := 27) (v := 600) C0.1 C0.2.1 dX8_init_27 (by decide) ?_
  refine xnewa (pc := 30) (N := 600) (t := 0) (ty := .int) C0 (Nat.le_of_ble_eq_true rfl) hH hz hS ac_int rfl ⟨rfl, rfl⟩ ⟨rfl, by decide, trivial⟩ (hF.aI (by decide) rfl) ⟨by decide, by decide⟩ (by decide) ⟨Nat.le_of_ble_eq_true rfl, Nat.le_of_ble_eq_true rfl⟩ (by decide) dX8_init_30 (fun _ hH hz hS => ?_)
  have hF := hF.up (n2 := 68) (Nat.le_of_ble_eq_true rfl)
  refine xputF (pc := 32) C0 (Nat.le_of_ble_eq_true rfl) hnm hH hS 48 2 67 clX8 ⟨Nat.le_of_ble_eq_true rfl, Nat.le_of_ble_eq_true rfl⟩ ⟨rfl, rfl⟩ ⟨Nat.le_of_ble_eq_true rfl, rfl, by decide, by decide, rfl, rfl⟩ fl_X8_25 (fun q => ⟨rfl, rfl⟩) dX8_init_32 (fun _ locs hH hS hsz => ?_)
  have hF := hF.z (a := 48) (c := 2) (Nat.le_of_ble_eq_true rfl)
  have hz := hsz.trans hz
  refine lv_aload_n (pc := 35) C0.1 C0.2.1 dX8_init_35 rfl (lv_at hl 0 rfl) ?_
  refine lv_sipush (pc := 36) (v := 600) C0.1 C0.2.1 dX8_init_36 (by decide) ?_
  refine xnewa (pc := 39) (N := 600) (t := 2) (ty := .boolean) C0 (Nat.le_of_ble_eq_true rfl) hH hz hS ac_boolean rfl ⟨rfl, rfl⟩ ⟨rfl, by decide, trivial⟩ (hF.aI (by decide) rfl) ⟨by decide, by decide⟩ (by decide) ⟨Nat.le_of_ble_eq_true rfl, Nat.le_of_ble_eq_true rfl⟩ (by decide) dX8_init_39 (fun _ hH hz hS => ?_)
  have hF := hF.up (n2 := 69) (Nat.le_of_ble_eq_true rfl)
  refine xputF (pc := 41) C0 (Nat.le_of_ble_eq_true rfl) hnm hH hS 48 3 68 clX8 ⟨Nat.le_of_ble_eq_true rfl, Nat.le_of_ble_eq_true rfl⟩ ⟨rfl, rfl⟩ ⟨Nat.le_of_ble_eq_true rfl, rfl, by decide, by decide, rfl, rfl⟩ fl_X8_29 (fun q => ⟨rfl, rfl⟩) dX8_init_41 (fun _ locs hH hS hsz => ?_)
  have hF := hF.z (a := 48) (c := 3) (Nat.le_of_ble_eq_true rfl)
  have hz := hsz.trans hz
  refine lv_aload_n (pc := 44) C0.1 C0.2.1 dX8_init_44 rfl (lv_at hl 0 rfl) ?_
  refine lv_sipush (pc := 45) (v := 601) C0.1 C0.2.1 dX8_init_45 (by decide) ?_
  refine xnewa (pc := 48) (N := 601) (t := 0) (ty := .int) C0 (Nat.le_of_ble_eq_true rfl) hH hz hS ac_int rfl ⟨rfl, rfl⟩ ⟨rfl, by decide, trivial⟩ (hF.aI (by decide) rfl) ⟨by decide, by decide⟩ (by decide) ⟨Nat.le_of_ble_eq_true rfl, Nat.le_of_ble_eq_true rfl⟩ (by decide) dX8_init_48 (fun _ hH hz hS => ?_)
  have hF := hF.up (n2 := 70) (Nat.le_of_ble_eq_true rfl)
  refine xputF (pc := 50) C0 (Nat.le_of_ble_eq_true rfl) hnm hH hS 48 6 69 clX8 ⟨Nat.le_of_ble_eq_true rfl, Nat.le_of_ble_eq_true rfl⟩ ⟨rfl, rfl⟩ ⟨Nat.le_of_ble_eq_true rfl, rfl, by decide, by decide, rfl, rfl⟩ fl_X8_33 (fun q => ⟨rfl, rfl⟩) dX8_init_50 (fun _ locs hH hS hsz => ?_)
  have hF := hF.z (a := 48) (c := 6) (Nat.le_of_ble_eq_true rfl)
  have hz := hsz.trans hz
  refine W.widen (k := 21) (n := 15631) (by decide) (by decide) ?_
  exact xcret C0 hr hH hz hS dX8_init_53
theorem f_X4_init_39 {z : Nat → Nat → Bool} {i F : Nat → Nat → Int32} {G : Nat → Nat → Int64} (hF : Fr 40 z i F G) : Fr 70 (upz (upz (upz (upz (upz (upz (upz (upz (upz (upz (upz (upz (upz (upz (upz (upz (upz (upz (upz (upz (upz (upz (upz (upz (upz (upz (upz (upz (upz (upz z 40 0) 40 1) 40 2) 40 3) 40 4) 40 5) 40 6) 39 0) 49 0) 49 1) 49 2) 49 3) 49 4) 49 5) 49 6) 49 7) 49 8) 48 0) 59 0) 59 1) 59 2) 59 3) 59 4) 59 6) 59 7) 48 1) 48 2) 48 3) 48 6) 39 1) (up2 (up2 (up2 (up2 i 39 2 0) 39 3 (-9)) 39 4 (-9)) 39 5 (-9)) F G := ((((((f_X8_init_48 (((f_X7_init_40 (hF.up (n2 := 41) (Nat.le_of_ble_eq_true rfl))).z (a := 39) (c := 0) (Nat.le_of_ble_eq_true rfl)).up (n2 := 49) (Nat.le_of_ble_eq_true rfl))).z (a := 39) (c := 1) (Nat.le_of_ble_eq_true rfl)).i (a := 39) (c := 2) (x := 0) (Nat.le_of_ble_eq_true rfl)).i (a := 39) (c := 3) (x := (-9)) (Nat.le_of_ble_eq_true rfl)).i (a := 39) (c := 4) (x := (-9)) (Nat.le_of_ble_eq_true rfl)).i (a := 39) (c := 5) (x := (-9)) (Nat.le_of_ble_eq_true rfl))
set_option maxHeartbeats 4000000 in
set_option maxRecDepth 100000 in
theorem c_X4_init_39 (l : Launch) (D : va_G) (tA : Nat → ClassId) (b : Nat) (z : Nat → Nat → Bool) (i F : Nat → Nat → Int32) (G : Nat → Nat → Int64) (hF : Fr 40 z i F G) : xMC l yX4_init cX4_init 1 3 52 30 19855 D tA b 0 40 z i F G 39 70 (upz (upz (upz (upz (upz (upz (upz (upz (upz (upz (upz (upz (upz (upz (upz (upz (upz (upz (upz (upz (upz (upz (upz (upz (upz (upz (upz (upz (upz (upz z 40 0) 40 1) 40 2) 40 3) 40 4) 40 5) 40 6) 39 0) 49 0) 49 1) 49 2) 49 3) 49 4) 49 5) 49 6) 49 7) 49 8) 48 0) 59 0) 59 1) 59 2) 59 3) 59 4) 59 6) 59 7) 48 1) 48 2) 48 3) 48 6) 39 1) (up2 (up2 (up2 (up2 i 39 2 0) 39 3 (-9)) 39 4 (-9)) 39 5 (-9)) F := by
  refine xstart0 (n0 := 70) (o := 0) RX4 rfl (by decide) (Nat.le_of_ble_eq_true rfl) (fun _ h => h.2.2) ?_
  intro p e s m below meth c ls C0 hr hnm h0 hS hl
  obtain ⟨hH, hz, -⟩ := h0
  have hl : lv_has ls 1 [(0, .ref (b + 39))] := hl
  refine lv_aload_n (pc := 0) C0.1 C0.2.1 dX4_init_0 rfl (lv_at hl 0 rfl) ?_
  refine xobj (pc := 1) C0 ml_X4_3 im_obj cd_obj hl.1 dX4_init_1 ⟨Nat.le_of_ble_eq_true rfl, Nat.le_of_ble_eq_true rfl⟩ ?_
  refine lv_aload_n (pc := 4) C0.1 C0.2.1 dX4_init_4 rfl (lv_at hl 0 rfl) ?_
  refine xnewo (pc := 5) C0 (Nat.le_of_ble_eq_true rfl) hH hz hS clX7 cl_X4_9 in_X7 it_X7 ⟨rfl, rfl⟩ (hF.o (by decide +kernel)) ⟨Nat.le_of_ble_eq_true rfl, Nat.le_of_ble_eq_true rfl⟩ dX4_init_5 (fun _ hH hz hS => ?_)
  have hF := hF.up (n2 := 41) (Nat.le_of_ble_eq_true rfl)
  refine lv_dup (pc := 8) C0.1 C0.2.1 dX4_init_8 rfl ?_
  refine xcIN (pc := 9) 40 (c_X7_init_40 l D tA b _ _ _ _ hF) C0 (Nat.le_of_ble_eq_true rfl) hH hz hS cw_X4_11 rfl im_X7_init ⟨Nat.le_of_ble_eq_true rfl, Nat.le_of_ble_eq_true rfl⟩ hl.1 rfl (Nat.le_of_ble_eq_true rfl) dX4_init_9 ⟨Nat.le_of_ble_eq_true rfl, Nat.le_of_ble_eq_true rfl⟩ (fun _ locs hH hz hS => ?_)
  have hF := f_X7_init_40 hF
  refine xputF (pc := 12) C0 (Nat.le_of_ble_eq_true rfl) hnm hH hS 39 0 40 clX4 ⟨Nat.le_of_ble_eq_true rfl, Nat.le_of_ble_eq_true rfl⟩ ⟨rfl, rfl⟩ ⟨Nat.le_of_ble_eq_true rfl, rfl, by decide, by decide, rfl, rfl⟩ fl_X4_12 (fun q => ⟨rfl, rfl⟩) dX4_init_12 (fun _ locs hH hS hsz => ?_)
  have hF := hF.z (a := 39) (c := 0) (Nat.le_of_ble_eq_true rfl)
  have hz := hsz.trans hz
  refine lv_aload_n (pc := 15) C0.1 C0.2.1 dX4_init_15 rfl (lv_at hl 0 rfl) ?_
  refine xnewo (pc := 16) C0 (Nat.le_of_ble_eq_true rfl) hH hz hS clX8 cl_X4_18 in_X8 it_X8 ⟨rfl, rfl⟩ (hF.o (by decide +kernel)) ⟨Nat.le_of_ble_eq_true rfl, Nat.le_of_ble_eq_true rfl⟩ dX4_init_16 (fun _ hH hz hS => ?_)
  have hF := hF.up (n2 := 49) (Nat.le_of_ble_eq_true rfl)
  refine lv_dup (pc := 19) C0.1 C0.2.1 dX4_init_19 rfl ?_
  refine xcIN (pc := 20) 48 (c_X8_init_48 l D tA b _ _ _ _ hF) C0 (Nat.le_of_ble_eq_true rfl) hH hz hS cw_X4_20 rfl im_X8_init ⟨Nat.le_of_ble_eq_true rfl, Nat.le_of_ble_eq_true rfl⟩ hl.1 rfl (Nat.le_of_ble_eq_true rfl) dX4_init_20 ⟨Nat.le_of_ble_eq_true rfl, Nat.le_of_ble_eq_true rfl⟩ (fun _ locs hH hz hS => ?_)
  have hF := f_X8_init_48 hF
  refine xputF (pc := 23) C0 (Nat.le_of_ble_eq_true rfl) hnm hH hS 39 1 48 clX4 ⟨Nat.le_of_ble_eq_true rfl, Nat.le_of_ble_eq_true rfl⟩ ⟨rfl, rfl⟩ ⟨Nat.le_of_ble_eq_true rfl, rfl, by decide, by decide, rfl, rfl⟩ fl_X4_21 (fun q => ⟨rfl, rfl⟩) dX4_init_23 (fun _ locs hH hS hsz => ?_)
  have hF := hF.z (a := 39) (c := 1) (Nat.le_of_ble_eq_true rfl)
  have hz := hsz.trans hz
  refine lv_aload_n (pc := 26) C0.1 C0.2.1 dX4_init_26 rfl (lv_at hl 0 rfl) ?_
  refine lv_iconst (pc := 27) (v := 0) C0.1 C0.2.1 dX4_init_27 (by decide) ?_
  refine xputI (pc := 28) C0 (Nat.le_of_ble_eq_true rfl) hH hS 39 2 clX4 ⟨Nat.le_of_ble_eq_true rfl, Nat.le_of_ble_eq_true rfl⟩ ⟨rfl, rfl⟩ ⟨Nat.le_of_ble_eq_true rfl, rfl, rfl⟩ fl_X4_25 (x := 0) ⟨rfl, rfl⟩ dX4_init_28 (fun _ locs hH hS hsz => ?_)
  have hF := hF.i (a := 39) (c := 2) (x := 0) (Nat.le_of_ble_eq_true rfl)
  have hz := hsz.trans hz
  refine lv_aload_n (pc := 31) C0.1 C0.2.1 dX4_init_31 rfl (lv_at hl 0 rfl) ?_
  refine lv_bipush (pc := 32) (v := (-9)) C0.1 C0.2.1 dX4_init_32 (by decide) ?_
  refine xputI (pc := 34) C0 (Nat.le_of_ble_eq_true rfl) hH hS 39 3 clX4 ⟨Nat.le_of_ble_eq_true rfl, Nat.le_of_ble_eq_true rfl⟩ ⟨rfl, rfl⟩ ⟨Nat.le_of_ble_eq_true rfl, rfl, rfl⟩ fl_X4_29 (x := (-9)) ⟨rfl, rfl⟩ dX4_init_34 (fun _ locs hH hS hsz => ?_)
  have hF := hF.i (a := 39) (c := 3) (x := (-9)) (Nat.le_of_ble_eq_true rfl)
  have hz := hsz.trans hz
  refine lv_aload_n (pc := 37) C0.1 C0.2.1 dX4_init_37 rfl (lv_at hl 0 rfl) ?_
  refine lv_bipush (pc := 38) (v := (-9)) C0.1 C0.2.1 dX4_init_38 (by decide) ?_
  refine xputI (pc := 40) C0 (Nat.le_of_ble_eq_true rfl) hH hS 39 4 clX4 ⟨Nat.le_of_ble_eq_true rfl, Nat.le_of_ble_eq_true rfl⟩ ⟨rfl, rfl⟩ ⟨Nat.le_of_ble_eq_true rfl, rfl, rfl⟩ fl_X4_32 (x := (-9)) ⟨rfl, rfl⟩ dX4_init_40 (fun _ locs hH hS hsz => ?_)
  have hF := hF.i (a := 39) (c := 4) (x := (-9)) (Nat.le_of_ble_eq_true rfl)
  have hz := hsz.trans hz
  refine lv_aload_n (pc := 43) C0.1 C0.2.1 dX4_init_43 rfl (lv_at hl 0 rfl) ?_
  refine lv_bipush (pc := 44) (v := (-9)) C0.1 C0.2.1 dX4_init_44 (by decide) ?_
  refine xputI (pc := 46) C0 (Nat.le_of_ble_eq_true rfl) hH hS 39 5 clX4 ⟨Nat.le_of_ble_eq_true rfl, Nat.le_of_ble_eq_true rfl⟩ ⟨rfl, rfl⟩ ⟨Nat.le_of_ble_eq_true rfl, rfl, rfl⟩ fl_X4_35 (x := (-9)) ⟨rfl, rfl⟩ dX4_init_46 (fun _ locs hH hS hsz => ?_)
  have hF := hF.i (a := 39) (c := 5) (x := (-9)) (Nat.le_of_ble_eq_true rfl)
  have hz := hsz.trans hz
  refine W.widen (k := 30) (n := 19855) (by decide) (by decide) ?_
  exact xcret C0 hr hH hz hS dX4_init_49
theorem f_X5_init_70 {z : Nat → Nat → Bool} {i F : Nat → Nat → Int32} {G : Nat → Nat → Int64} (hF : Fr 71 z i F G) : Fr 73 (upz (upz z 70 0) 70 1) i F G := ((((hF.up (n2 := 72) (Nat.le_of_ble_eq_true rfl)).z (a := 70) (c := 0) (Nat.le_of_ble_eq_true rfl)).up (n2 := 73) (Nat.le_of_ble_eq_true rfl)).z (a := 70) (c := 1) (Nat.le_of_ble_eq_true rfl))
set_option maxHeartbeats 4000000 in
set_option maxRecDepth 100000 in
theorem c_X5_init_70 (l : Launch) (D : va_G) (tA : Nat → ClassId) (b : Nat) (z : Nat → Nat → Bool) (i F : Nat → Nat → Int32) (G : Nat → Nat → Int64) (hF : Fr 71 z i F G) : xMC l yX5_init cX5_init 1 1 12 2 1801 D tA b 0 71 z i F G 70 73 (upz (upz z 70 0) 70 1) i F := by
  refine xstart0 (n0 := 73) (o := 0) RX5 rfl (by decide) (Nat.le_of_ble_eq_true rfl) (fun _ h => h.2.2) ?_
  intro p e s m below meth c ls C0 hr hnm h0 hS hl
  obtain ⟨hH, hz, -⟩ := h0
  have hl : lv_has ls 1 [(0, .ref (b + 70))] := hl
  refine lv_aload_n (pc := 0) C0.1 C0.2.1 dX5_init_0 rfl (lv_at hl 0 rfl) ?_
  refine xobj (pc := 1) C0 ml_X5_3 im_obj cd_obj hl.1 dX5_init_1 ⟨Nat.le_of_ble_eq_true rfl, Nat.le_of_ble_eq_true rfl⟩ ?_
  refine lv_aload_n (pc := 4) C0.1 C0.2.1 dX5_init_4 rfl (lv_at hl 0 rfl) ?_
  refine lv_sipush (pc := 5) (v := 601) C0.1 C0.2.1 dX5_init_5 (by decide) ?_
  refine xnewa (pc := 8) (N := 601) (t := 0) (ty := .int) C0 (Nat.le_of_ble_eq_true rfl) hH hz hS ac_int rfl ⟨rfl, rfl⟩ ⟨rfl, by decide, trivial⟩ (hF.aI (by decide) rfl) ⟨by decide, by decide⟩ (by decide) ⟨Nat.le_of_ble_eq_true rfl, Nat.le_of_ble_eq_true rfl⟩ (by decide) dX5_init_8 (fun _ hH hz hS => ?_)
  have hF := hF.up (n2 := 72) (Nat.le_of_ble_eq_true rfl)
  refine xputF (pc := 10) C0 (Nat.le_of_ble_eq_true rfl) hnm hH hS 70 0 71 clX5 ⟨Nat.le_of_ble_eq_true rfl, Nat.le_of_ble_eq_true rfl⟩ ⟨rfl, rfl⟩ ⟨Nat.le_of_ble_eq_true rfl, rfl, by decide, by decide, rfl, rfl⟩ fl_X5_9 (fun q => ⟨rfl, rfl⟩) dX5_init_10 (fun _ locs hH hS hsz => ?_)
  have hF := hF.z (a := 70) (c := 0) (Nat.le_of_ble_eq_true rfl)
  have hz := hsz.trans hz
  refine lv_aload_n (pc := 13) C0.1 C0.2.1 dX5_init_13 rfl (lv_at hl 0 rfl) ?_
  refine lv_sipush (pc := 14) (v := 1200) C0.1 C0.2.1 dX5_init_14 (by decide) ?_
  refine xnewa (pc := 17) (N := 1200) (t := 0) (ty := .int) C0 (Nat.le_of_ble_eq_true rfl) hH hz hS ac_int rfl ⟨rfl, rfl⟩ ⟨rfl, by decide, trivial⟩ (hF.aI (by decide) rfl) ⟨by decide, by decide⟩ (by decide) ⟨Nat.le_of_ble_eq_true rfl, Nat.le_of_ble_eq_true rfl⟩ (by decide) dX5_init_17 (fun _ hH hz hS => ?_)
  have hF := hF.up (n2 := 73) (Nat.le_of_ble_eq_true rfl)
  refine xputF (pc := 19) C0 (Nat.le_of_ble_eq_true rfl) hnm hH hS 70 1 72 clX5 ⟨Nat.le_of_ble_eq_true rfl, Nat.le_of_ble_eq_true rfl⟩ ⟨rfl, rfl⟩ ⟨Nat.le_of_ble_eq_true rfl, rfl, by decide, by decide, rfl, rfl⟩ fl_X5_15 (fun q => ⟨rfl, rfl⟩) dX5_init_19 (fun _ locs hH hS hsz => ?_)
  have hF := hF.z (a := 70) (c := 1) (Nat.le_of_ble_eq_true rfl)
  have hz := hsz.trans hz
  refine W.widen (k := 2) (n := 1801) (by decide) (by decide) ?_
  exact xcret C0 hr hH hz hS dX5_init_22
theorem f_X3_init_73 {z : Nat → Nat → Bool} {i F : Nat → Nat → Int32} {G : Nat → Nat → Int64} (hF : Fr 74 z i F G) : Fr 75 (upz z 73 0) i F G := ((hF.up (n2 := 75) (Nat.le_of_ble_eq_true rfl)).z (a := 73) (c := 0) (Nat.le_of_ble_eq_true rfl))
set_option maxHeartbeats 4000000 in
set_option maxRecDepth 100000 in
theorem c_X3_init_73 (l : Launch) (D : va_G) (tA : Nat → ClassId) (b : Nat) (z : Nat → Nat → Bool) (i F : Nat → Nat → Int32) (G : Nat → Nat → Int64) (hF : Fr 74 z i F G) : xMC l yX3_init cX3_init 1 1 12 1 4000 D tA b 0 74 z i F G 73 75 (upz z 73 0) i F := by
  refine xstart0 (n0 := 75) (o := 0) RX3 rfl (by decide) (Nat.le_of_ble_eq_true rfl) (fun _ h => h.2.2) ?_
  intro p e s m below meth c ls C0 hr hnm h0 hS hl
  obtain ⟨hH, hz, -⟩ := h0
  have hl : lv_has ls 1 [(0, .ref (b + 73))] := hl
  refine lv_aload_n (pc := 0) C0.1 C0.2.1 dX3_init_0 rfl (lv_at hl 0 rfl) ?_
  refine xobj (pc := 1) C0 ml_X3_3 im_obj cd_obj hl.1 dX3_init_1 ⟨Nat.le_of_ble_eq_true rfl, Nat.le_of_ble_eq_true rfl⟩ ?_
  refine lv_aload_n (pc := 4) C0.1 C0.2.1 dX3_init_4 rfl (lv_at hl 0 rfl) ?_
  refine lv_sipush (pc := 5) (v := 4000) C0.1 C0.2.1 dX3_init_5 (by decide) ?_
  refine xnewa (pc := 8) (N := 4000) (t := 1) (ty := .byte) C0 (Nat.le_of_ble_eq_true rfl) hH hz hS ac_byte rfl ⟨rfl, rfl⟩ ⟨rfl, by decide, trivial⟩ (hF.aI (by decide) rfl) ⟨by decide, by decide⟩ (by decide) ⟨Nat.le_of_ble_eq_true rfl, Nat.le_of_ble_eq_true rfl⟩ (by decide) dX3_init_8 (fun _ hH hz hS => ?_)
  have hF := hF.up (n2 := 75) (Nat.le_of_ble_eq_true rfl)
  refine xputF (pc := 10) C0 (Nat.le_of_ble_eq_true rfl) hnm hH hS 73 0 74 clX3 ⟨Nat.le_of_ble_eq_true rfl, Nat.le_of_ble_eq_true rfl⟩ ⟨rfl, rfl⟩ ⟨Nat.le_of_ble_eq_true rfl, rfl, by decide, by decide, rfl, rfl⟩ fl_X3_9 (fun q => ⟨rfl, rfl⟩) dX3_init_10 (fun _ locs hH hS hsz => ?_)
  have hF := hF.z (a := 73) (c := 0) (Nat.le_of_ble_eq_true rfl)
  have hz := hsz.trans hz
  refine W.widen (k := 1) (n := 4000) (by decide) (by decide) ?_
  exact xcret C0 hr hH hz hS dX3_init_13
theorem f_X3_init_75 {z : Nat → Nat → Bool} {i F : Nat → Nat → Int32} {G : Nat → Nat → Int64} (hF : Fr 76 z i F G) : Fr 77 (upz z 75 0) i F G := ((hF.up (n2 := 77) (Nat.le_of_ble_eq_true rfl)).z (a := 75) (c := 0) (Nat.le_of_ble_eq_true rfl))
set_option maxHeartbeats 4000000 in
set_option maxRecDepth 100000 in
theorem c_X3_init_75 (l : Launch) (D : va_G) (tA : Nat → ClassId) (b : Nat) (z : Nat → Nat → Bool) (i F : Nat → Nat → Int32) (G : Nat → Nat → Int64) (hF : Fr 76 z i F G) : xMC l yX3_init cX3_init 1 1 12 1 4000 D tA b 0 76 z i F G 75 77 (upz z 75 0) i F := by
  refine xstart0 (n0 := 77) (o := 0) RX3 rfl (by decide) (Nat.le_of_ble_eq_true rfl) (fun _ h => h.2.2) ?_
  intro p e s m below meth c ls C0 hr hnm h0 hS hl
  obtain ⟨hH, hz, -⟩ := h0
  have hl : lv_has ls 1 [(0, .ref (b + 75))] := hl
  refine lv_aload_n (pc := 0) C0.1 C0.2.1 dX3_init_0 rfl (lv_at hl 0 rfl) ?_
  refine xobj (pc := 1) C0 ml_X3_3 im_obj cd_obj hl.1 dX3_init_1 ⟨Nat.le_of_ble_eq_true rfl, Nat.le_of_ble_eq_true rfl⟩ ?_
  refine lv_aload_n (pc := 4) C0.1 C0.2.1 dX3_init_4 rfl (lv_at hl 0 rfl) ?_
  refine lv_sipush (pc := 5) (v := 4000) C0.1 C0.2.1 dX3_init_5 (by decide) ?_
  refine xnewa (pc := 8) (N := 4000) (t := 1) (ty := .byte) C0 (Nat.le_of_ble_eq_true rfl) hH hz hS ac_byte rfl ⟨rfl, rfl⟩ ⟨rfl, by decide, trivial⟩ (hF.aI (by decide) rfl) ⟨by decide, by decide⟩ (by decide) ⟨Nat.le_of_ble_eq_true rfl, Nat.le_of_ble_eq_true rfl⟩ (by decide) dX3_init_8 (fun _ hH hz hS => ?_)
  have hF := hF.up (n2 := 77) (Nat.le_of_ble_eq_true rfl)
  refine xputF (pc := 10) C0 (Nat.le_of_ble_eq_true rfl) hnm hH hS 75 0 76 clX3 ⟨Nat.le_of_ble_eq_true rfl, Nat.le_of_ble_eq_true rfl⟩ ⟨rfl, rfl⟩ ⟨Nat.le_of_ble_eq_true rfl, rfl, by decide, by decide, rfl, rfl⟩ fl_X3_9 (fun q => ⟨rfl, rfl⟩) dX3_init_10 (fun _ locs hH hS hsz => ?_)
  have hF := hF.z (a := 75) (c := 0) (Nat.le_of_ble_eq_true rfl)
  have hz := hsz.trans hz
  refine W.widen (k := 1) (n := 4000) (by decide) (by decide) ?_
  exact xcret C0 hr hH hz hS dX3_init_13
theorem f_X9_init_0 {z : Nat → Nat → Bool} {i F : Nat → Nat → Int32} {G : Nat → Nat → Int64} (hF : Fr 1 z i F G) : Fr 78 (upz (upz (upz (upz (upz (upz (upz (upz (upz (upz (upz (upz (upz (upz (upz (upz (upz (upz (upz (upz (upz (upz (upz (upz (upz (upz (upz (upz (upz (upz (upz (upz (upz (upz (upz (upz (upz (upz (upz (upz (upz (upz (upz (upz (upz (upz (upz (upz (upz (upz (upz (upz (upz (upz (upz (upz (upz (upz (upz (upz (upz (upz (upz (upz (upz (upz (upz (upz (upz (upz (upz (upz (upz (upz (upz (upz (upz z 1 0) 1 1) 0 0) 4 0) 0 1) 6 0) 0 2) 9 0) 9 1) 9 2) 9 3) 9 4) 9 5) 9 6) 8 0) 18 0) 18 1) 18 2) 18 3) 18 4) 18 5) 18 6) 18 7) 18 8) 17 0) 28 0) 28 1) 28 2) 28 3) 28 4) 28 6) 28 7) 17 1) 17 2) 17 3) 17 6) 8 1) 0 3) 40 0) 40 1) 40 2) 40 3) 40 4) 40 5) 40 6) 39 0) 49 0) 49 1) 49 2) 49 3) 49 4) 49 5) 49 6) 49 7) 49 8) 48 0) 59 0) 59 1) 59 2) 59 3) 59 4) 59 6) 59 7) 48 1) 48 2) 48 3) 48 6) 39 1) 0 4) 70 0) 70 1) 0 5) 73 0) 0 6) 75 0) 0 7) 0 12) (up2 (up2 (up2 (up2 (up2 (up2 (up2 (up2 (up2 (up2 (up2 (up2 (up2 i 8 2 0) 8 3 (-9)) 8 4 (-9)) 8 5 (-9)) 39 2 0) 39 3 (-9)) 39 4 (-9)) 39 5 (-9)) 0 6 (nI 73)) 0 7 (nI 75)) 0 8 0) 0 10 (-9)) 0 11 (-9)) F G := ((((((((f_X3_init_75 ((((f_X3_init_73 (((f_X5_init_70 (((f_X4_init_39 (((f_X4_init_8 (((f_X6_init_6 (((f_X6_init_4 (((f_X1_init_1 (hF.up (n2 := 2) (Nat.le_of_ble_eq_true rfl))).z (a := 0) (c := 0) (Nat.le_of_ble_eq_true rfl)).up (n2 := 5) (Nat.le_of_ble_eq_true rfl))).z (a := 0) (c := 1) (Nat.le_of_ble_eq_true rfl)).up (n2 := 7) (Nat.le_of_ble_eq_true rfl))).z (a := 0) (c := 2) (Nat.le_of_ble_eq_true rfl)).up (n2 := 9) (Nat.le_of_ble_eq_true rfl))).z (a := 0) (c := 3) (Nat.le_of_ble_eq_true rfl)).up (n2 := 40) (Nat.le_of_ble_eq_true rfl))).z (a := 0) (c := 4) (Nat.le_of_ble_eq_true rfl)).up (n2 := 71) (Nat.le_of_ble_eq_true rfl))).z (a := 0) (c := 5) (Nat.le_of_ble_eq_true rfl)).up (n2 := 74) (Nat.le_of_ble_eq_true rfl))).z (a := 0) (c := 6) (Nat.le_of_ble_eq_true rfl)).i (a := 0) (c := 6) (x := nI 73) (Nat.le_of_ble_eq_true rfl)).up (n2 := 76) (Nat.le_of_ble_eq_true rfl))).z (a := 0) (c := 7) (Nat.le_of_ble_eq_true rfl)).i (a := 0) (c := 7) (x := nI 75) (Nat.le_of_ble_eq_true rfl)).i (a := 0) (c := 8) (x := 0) (Nat.le_of_ble_eq_true rfl)).i (a := 0) (c := 10) (x := (-9)) (Nat.le_of_ble_eq_true rfl)).i (a := 0) (c := 11) (x := (-9)) (Nat.le_of_ble_eq_true rfl)).up (n2 := 78) (Nat.le_of_ble_eq_true rfl)).z (a := 0) (c := 12) (Nat.le_of_ble_eq_true rfl))
set_option maxHeartbeats 4000000 in
set_option maxRecDepth 100000 in
theorem c_X9_init_0 (l : Launch) (D : va_G) (tA : Nat → ClassId) (b : Nat) (z : Nat → Nat → Bool) (i F : Nat → Nat → Int32) (G : Nat → Nat → Int64) (hF : Fr 1 z i F G) : xMC l yX9_init cX9_init 1 4 72 77 50993 D tA b 0 1 z i F G 0 78 (upz (upz (upz (upz (upz (upz (upz (upz (upz (upz (upz (upz (upz (upz (upz (upz (upz (upz (upz (upz (upz (upz (upz (upz (upz (upz (upz (upz (upz (upz (upz (upz (upz (upz (upz (upz (upz (upz (upz (upz (upz (upz (upz (upz (upz (upz (upz (upz (upz (upz (upz (upz (upz (upz (upz (upz (upz (upz (upz (upz (upz (upz (upz (upz (upz (upz (upz (upz (upz (upz (upz (upz (upz (upz (upz (upz (upz z 1 0) 1 1) 0 0) 4 0) 0 1) 6 0) 0 2) 9 0) 9 1) 9 2) 9 3) 9 4) 9 5) 9 6) 8 0) 18 0) 18 1) 18 2) 18 3) 18 4) 18 5) 18 6) 18 7) 18 8) 17 0) 28 0) 28 1) 28 2) 28 3) 28 4) 28 6) 28 7) 17 1) 17 2) 17 3) 17 6) 8 1) 0 3) 40 0) 40 1) 40 2) 40 3) 40 4) 40 5) 40 6) 39 0) 49 0) 49 1) 49 2) 49 3) 49 4) 49 5) 49 6) 49 7) 49 8) 48 0) 59 0) 59 1) 59 2) 59 3) 59 4) 59 6) 59 7) 48 1) 48 2) 48 3) 48 6) 39 1) 0 4) 70 0) 70 1) 0 5) 73 0) 0 6) 75 0) 0 7) 0 12) (up2 (up2 (up2 (up2 (up2 (up2 (up2 (up2 (up2 (up2 (up2 (up2 (up2 i 8 2 0) 8 3 (-9)) 8 4 (-9)) 8 5 (-9)) 39 2 0) 39 3 (-9)) 39 4 (-9)) 39 5 (-9)) 0 6 (nI 73)) 0 7 (nI 75)) 0 8 0) 0 10 (-9)) 0 11 (-9)) F := by
  refine xstart0 (n0 := 78) (o := 0) RX9 rfl (by decide) (Nat.le_of_ble_eq_true rfl) (fun _ h => h.2.2) ?_
  intro p e s m below meth c ls C0 hr hnm h0 hS hl
  obtain ⟨hH, hz, -⟩ := h0
  have hl : lv_has ls 1 [(0, .ref (b + 0))] := hl
  refine lv_aload_n (pc := 0) C0.1 C0.2.1 dX9_init_0 rfl (lv_at hl 0 rfl) ?_
  refine xobj (pc := 1) C0 ml_X9_3 im_obj cd_obj hl.1 dX9_init_1 ⟨Nat.le_of_ble_eq_true rfl, Nat.le_of_ble_eq_true rfl⟩ ?_
  refine lv_aload_n (pc := 4) C0.1 C0.2.1 dX9_init_4 rfl (lv_at hl 0 rfl) ?_
  refine xnewo (pc := 5) C0 (Nat.le_of_ble_eq_true rfl) hH hz hS clX1 cl_X9_9 in_X1 it_X1 ⟨rfl, rfl⟩ (hF.o (by decide +kernel)) ⟨Nat.le_of_ble_eq_true rfl, Nat.le_of_ble_eq_true rfl⟩ dX9_init_5 (fun _ hH hz hS => ?_)
  have hF := hF.up (n2 := 2) (Nat.le_of_ble_eq_true rfl)
  refine lv_dup (pc := 8) C0.1 C0.2.1 dX9_init_8 rfl ?_
  refine xcIN (pc := 9) 1 (c_X1_init_1 l D tA b _ _ _ _ hF) C0 (Nat.le_of_ble_eq_true rfl) hH hz hS cw_X9_11 rfl im_X1_init ⟨Nat.le_of_ble_eq_true rfl, Nat.le_of_ble_eq_true rfl⟩ hl.1 rfl (Nat.le_of_ble_eq_true rfl) dX9_init_9 ⟨Nat.le_of_ble_eq_true rfl, Nat.le_of_ble_eq_true rfl⟩ (fun _ locs hH hz hS => ?_)
  have hF := f_X1_init_1 hF
  refine xputF (pc := 12) C0 (Nat.le_of_ble_eq_true rfl) hnm hH hS 0 0 1 clX9 ⟨Nat.le_of_ble_eq_true rfl, Nat.le_of_ble_eq_true rfl⟩ ⟨rfl, rfl⟩ ⟨Nat.le_of_ble_eq_true rfl, rfl, by decide, by decide, rfl, rfl⟩ fl_X9_12 (fun q => ⟨rfl, rfl⟩) dX9_init_12 (fun _ locs hH hS hsz => ?_)
  have hF := hF.z (a := 0) (c := 0) (Nat.le_of_ble_eq_true rfl)
  have hz := hsz.trans hz
  refine lv_aload_n (pc := 15) C0.1 C0.2.1 dX9_init_15 rfl (lv_at hl 0 rfl) ?_
  refine xnewo (pc := 16) C0 (Nat.le_of_ble_eq_true rfl) hH hz hS clX6 cl_X9_16 in_X6 it_X6 ⟨rfl, rfl⟩ (hF.o (by decide +kernel)) ⟨Nat.le_of_ble_eq_true rfl, Nat.le_of_ble_eq_true rfl⟩ dX9_init_16 (fun _ hH hz hS => ?_)
  have hF := hF.up (n2 := 5) (Nat.le_of_ble_eq_true rfl)
  refine lv_dup (pc := 19) C0.1 C0.2.1 dX9_init_19 rfl ?_
  refine xcIN (pc := 20) 4 (c_X6_init_4 l D tA b _ _ _ _ hF) C0 (Nat.le_of_ble_eq_true rfl) hH hz hS cw_X9_18 rfl im_X6_init ⟨Nat.le_of_ble_eq_true rfl, Nat.le_of_ble_eq_true rfl⟩ hl.1 rfl (Nat.le_of_ble_eq_true rfl) dX9_init_20 ⟨Nat.le_of_ble_eq_true rfl, Nat.le_of_ble_eq_true rfl⟩ (fun _ locs hH hz hS => ?_)
  have hF := f_X6_init_4 hF
  refine xputF (pc := 23) C0 (Nat.le_of_ble_eq_true rfl) hnm hH hS 0 1 4 clX9 ⟨Nat.le_of_ble_eq_true rfl, Nat.le_of_ble_eq_true rfl⟩ ⟨rfl, rfl⟩ ⟨Nat.le_of_ble_eq_true rfl, rfl, by decide, by decide, rfl, rfl⟩ fl_X9_19 (fun q => ⟨rfl, rfl⟩) dX9_init_23 (fun _ locs hH hS hsz => ?_)
  have hF := hF.z (a := 0) (c := 1) (Nat.le_of_ble_eq_true rfl)
  have hz := hsz.trans hz
  refine lv_aload_n (pc := 26) C0.1 C0.2.1 dX9_init_26 rfl (lv_at hl 0 rfl) ?_
  refine xnewo (pc := 27) C0 (Nat.le_of_ble_eq_true rfl) hH hz hS clX6 cl_X9_16 in_X6 it_X6 ⟨rfl, rfl⟩ (hF.o (by decide +kernel)) ⟨Nat.le_of_ble_eq_true rfl, Nat.le_of_ble_eq_true rfl⟩ dX9_init_27 (fun _ hH hz hS => ?_)
  have hF := hF.up (n2 := 7) (Nat.le_of_ble_eq_true rfl)
  refine lv_dup (pc := 30) C0.1 C0.2.1 dX9_init_30 rfl ?_
  refine xcIN (pc := 31) 6 (c_X6_init_6 l D tA b _ _ _ _ hF) C0 (Nat.le_of_ble_eq_true rfl) hH hz hS cw_X9_18 rfl im_X6_init ⟨Nat.le_of_ble_eq_true rfl, Nat.le_of_ble_eq_true rfl⟩ hl.1 rfl (Nat.le_of_ble_eq_true rfl) dX9_init_31 ⟨Nat.le_of_ble_eq_true rfl, Nat.le_of_ble_eq_true rfl⟩ (fun _ locs hH hz hS => ?_)
  have hF := f_X6_init_6 hF
  refine xputF (pc := 34) C0 (Nat.le_of_ble_eq_true rfl) hnm hH hS 0 2 6 clX9 ⟨Nat.le_of_ble_eq_true rfl, Nat.le_of_ble_eq_true rfl⟩ ⟨rfl, rfl⟩ ⟨Nat.le_of_ble_eq_true rfl, rfl, by decide, by decide, rfl, rfl⟩ fl_X9_23 (fun q => ⟨rfl, rfl⟩) dX9_init_34 (fun _ locs hH hS hsz => ?_)
  have hF := hF.z (a := 0) (c := 2) (Nat.le_of_ble_eq_true rfl)
  have hz := hsz.trans hz
  refine lv_aload_n (pc := 37) C0.1 C0.2.1 dX9_init_37 rfl (lv_at hl 0 rfl) ?_
  refine xnewo (pc := 38) C0 (Nat.le_of_ble_eq_true rfl) hH hz hS clX4 cl_X9_26 in_X4 it_X4 ⟨rfl, rfl⟩ (hF.o (by decide +kernel)) ⟨Nat.le_of_ble_eq_true rfl, Nat.le_of_ble_eq_true rfl⟩ dX9_init_38 (fun _ hH hz hS => ?_)
  have hF := hF.up (n2 := 9) (Nat.le_of_ble_eq_true rfl)
  refine lv_dup (pc := 41) C0.1 C0.2.1 dX9_init_41 rfl ?_
  refine xcIN (pc := 42) 8 (c_X4_init_8 l D tA b _ _ _ _ hF) C0 (Nat.le_of_ble_eq_true rfl) hH hz hS cw_X9_28 rfl im_X4_init ⟨Nat.le_of_ble_eq_true rfl, Nat.le_of_ble_eq_true rfl⟩ hl.1 rfl (Nat.le_of_ble_eq_true rfl) dX9_init_42 ⟨Nat.le_of_ble_eq_true rfl, Nat.le_of_ble_eq_true rfl⟩ (fun _ locs hH hz hS => ?_)
  have hF := f_X4_init_8 hF
  refine xputF (pc := 45) C0 (Nat.le_of_ble_eq_true rfl) hnm hH hS 0 3 8 clX9 ⟨Nat.le_of_ble_eq_true rfl, Nat.le_of_ble_eq_true rfl⟩ ⟨rfl, rfl⟩ ⟨Nat.le_of_ble_eq_true rfl, rfl, by decide, by decide, rfl, rfl⟩ fl_X9_29 (fun q => ⟨rfl, rfl⟩) dX9_init_45 (fun _ locs hH hS hsz => ?_)
  have hF := hF.z (a := 0) (c := 3) (Nat.le_of_ble_eq_true rfl)
  have hz := hsz.trans hz
  refine lv_aload_n (pc := 48) C0.1 C0.2.1 dX9_init_48 rfl (lv_at hl 0 rfl) ?_
  refine xnewo (pc := 49) C0 (Nat.le_of_ble_eq_true rfl) hH hz hS clX4 cl_X9_26 in_X4 it_X4 ⟨rfl, rfl⟩ (hF.o (by decide +kernel)) ⟨Nat.le_of_ble_eq_true rfl, Nat.le_of_ble_eq_true rfl⟩ dX9_init_49 (fun _ hH hz hS => ?_)
  have hF := hF.up (n2 := 40) (Nat.le_of_ble_eq_true rfl)
  refine lv_dup (pc := 52) C0.1 C0.2.1 dX9_init_52 rfl ?_
  refine xcIN (pc := 53) 39 (c_X4_init_39 l D tA b _ _ _ _ hF) C0 (Nat.le_of_ble_eq_true rfl) hH hz hS cw_X9_28 rfl im_X4_init ⟨Nat.le_of_ble_eq_true rfl, Nat.le_of_ble_eq_true rfl⟩ hl.1 rfl (Nat.le_of_ble_eq_true rfl) dX9_init_53 ⟨Nat.le_of_ble_eq_true rfl, Nat.le_of_ble_eq_true rfl⟩ (fun _ locs hH hz hS => ?_)
  have hF := f_X4_init_39 hF
  refine xputF (pc := 56) C0 (Nat.le_of_ble_eq_true rfl) hnm hH hS 0 4 39 clX9 ⟨Nat.le_of_ble_eq_true rfl, Nat.le_of_ble_eq_true rfl⟩ ⟨rfl, rfl⟩ ⟨Nat.le_of_ble_eq_true rfl, rfl, by decide, by decide, rfl, rfl⟩ fl_X9_33 (fun q => ⟨rfl, rfl⟩) dX9_init_56 (fun _ locs hH hS hsz => ?_)
  have hF := hF.z (a := 0) (c := 4) (Nat.le_of_ble_eq_true rfl)
  have hz := hsz.trans hz
  refine lv_aload_n (pc := 59) C0.1 C0.2.1 dX9_init_59 rfl (lv_at hl 0 rfl) ?_
  refine xnewo (pc := 60) C0 (Nat.le_of_ble_eq_true rfl) hH hz hS clX5 cl_X9_36 in_X5 it_X5 ⟨rfl, rfl⟩ (hF.o (by decide +kernel)) ⟨Nat.le_of_ble_eq_true rfl, Nat.le_of_ble_eq_true rfl⟩ dX9_init_60 (fun _ hH hz hS => ?_)
  have hF := hF.up (n2 := 71) (Nat.le_of_ble_eq_true rfl)
  refine lv_dup (pc := 63) C0.1 C0.2.1 dX9_init_63 rfl ?_
  refine xcIN (pc := 64) 70 (c_X5_init_70 l D tA b _ _ _ _ hF) C0 (Nat.le_of_ble_eq_true rfl) hH hz hS cw_X9_38 rfl im_X5_init ⟨Nat.le_of_ble_eq_true rfl, Nat.le_of_ble_eq_true rfl⟩ hl.1 rfl (Nat.le_of_ble_eq_true rfl) dX9_init_64 ⟨Nat.le_of_ble_eq_true rfl, Nat.le_of_ble_eq_true rfl⟩ (fun _ locs hH hz hS => ?_)
  have hF := f_X5_init_70 hF
  refine xputF (pc := 67) C0 (Nat.le_of_ble_eq_true rfl) hnm hH hS 0 5 70 clX9 ⟨Nat.le_of_ble_eq_true rfl, Nat.le_of_ble_eq_true rfl⟩ ⟨rfl, rfl⟩ ⟨Nat.le_of_ble_eq_true rfl, rfl, by decide, by decide, rfl, rfl⟩ fl_X9_39 (fun q => ⟨rfl, rfl⟩) dX9_init_67 (fun _ locs hH hS hsz => ?_)
  have hF := hF.z (a := 0) (c := 5) (Nat.le_of_ble_eq_true rfl)
  have hz := hsz.trans hz
  refine lv_aload_n (pc := 70) C0.1 C0.2.1 dX9_init_70 rfl (lv_at hl 0 rfl) ?_
  refine xnewo (pc := 71) C0 (Nat.le_of_ble_eq_true rfl) hH hz hS clX3 cl_X9_43 in_X3 it_X3 ⟨rfl, rfl⟩ (hF.o (by decide +kernel)) ⟨Nat.le_of_ble_eq_true rfl, Nat.le_of_ble_eq_true rfl⟩ dX9_init_71 (fun _ hH hz hS => ?_)
  have hF := hF.up (n2 := 74) (Nat.le_of_ble_eq_true rfl)
  refine lv_dup (pc := 74) C0.1 C0.2.1 dX9_init_74 rfl ?_
  refine xcIN (pc := 75) 73 (c_X3_init_73 l D tA b _ _ _ _ hF) C0 (Nat.le_of_ble_eq_true rfl) hH hz hS cw_X9_45 rfl im_X3_init ⟨Nat.le_of_ble_eq_true rfl, Nat.le_of_ble_eq_true rfl⟩ hl.1 rfl (Nat.le_of_ble_eq_true rfl) dX9_init_75 ⟨Nat.le_of_ble_eq_true rfl, Nat.le_of_ble_eq_true rfl⟩ (fun _ locs hH hz hS => ?_)
  have hF := f_X3_init_73 hF
  refine xputR (pc := 78) C0 (Nat.le_of_ble_eq_true rfl) hH hS 0 6 73 clX9 ⟨Nat.le_of_ble_eq_true rfl, Nat.le_of_ble_eq_true rfl⟩ ⟨rfl, rfl⟩ ⟨Nat.le_of_ble_eq_true rfl, rfl, rfl⟩ (by decide) fl_X9_46 (fun q => ⟨rfl, rfl⟩) dX9_init_78 (fun _ locs hH hS hsz => ?_)
  have hF := (hF.z (a := 0) (c := 6) (Nat.le_of_ble_eq_true rfl)).i (a := 0) (c := 6) (x := nI 73) (Nat.le_of_ble_eq_true rfl)
  have hz := hsz.trans hz
  refine lv_aload_n (pc := 81) C0.1 C0.2.1 dX9_init_81 rfl (lv_at hl 0 rfl) ?_
  refine xnewo (pc := 82) C0 (Nat.le_of_ble_eq_true rfl) hH hz hS clX3 cl_X9_43 in_X3 it_X3 ⟨rfl, rfl⟩ (hF.o (by decide +kernel)) ⟨Nat.le_of_ble_eq_true rfl, Nat.le_of_ble_eq_true rfl⟩ dX9_init_82 (fun _ hH hz hS => ?_)
  have hF := hF.up (n2 := 76) (Nat.le_of_ble_eq_true rfl)
  refine lv_dup (pc := 85) C0.1 C0.2.1 dX9_init_85 rfl ?_
  refine xcIN (pc := 86) 75 (c_X3_init_75 l D tA b _ _ _ _ hF) C0 (Nat.le_of_ble_eq_true rfl) hH hz hS cw_X9_45 rfl im_X3_init ⟨Nat.le_of_ble_eq_true rfl, Nat.le_of_ble_eq_true rfl⟩ hl.1 rfl (Nat.le_of_ble_eq_true rfl) dX9_init_86 ⟨Nat.le_of_ble_eq_true rfl, Nat.le_of_ble_eq_true rfl⟩ (fun _ locs hH hz hS => ?_)
  have hF := f_X3_init_75 hF
  refine xputR (pc := 89) C0 (Nat.le_of_ble_eq_true rfl) hH hS 0 7 75 clX9 ⟨Nat.le_of_ble_eq_true rfl, Nat.le_of_ble_eq_true rfl⟩ ⟨rfl, rfl⟩ ⟨Nat.le_of_ble_eq_true rfl, rfl, rfl⟩ (by decide) fl_X9_50 (fun q => ⟨rfl, rfl⟩) dX9_init_89 (fun _ locs hH hS hsz => ?_)
  have hF := (hF.z (a := 0) (c := 7) (Nat.le_of_ble_eq_true rfl)).i (a := 0) (c := 7) (x := nI 75) (Nat.le_of_ble_eq_true rfl)
  have hz := hsz.trans hz
  refine lv_aload_n (pc := 92) C0.1 C0.2.1 dX9_init_92 rfl (lv_at hl 0 rfl) ?_
  refine lv_iconst (pc := 93) (v := 0) C0.1 C0.2.1 dX9_init_93 (by decide) ?_
  refine xputI (pc := 94) C0 (Nat.le_of_ble_eq_true rfl) hH hS 0 8 clX9 ⟨Nat.le_of_ble_eq_true rfl, Nat.le_of_ble_eq_true rfl⟩ ⟨rfl, rfl⟩ ⟨Nat.le_of_ble_eq_true rfl, rfl, rfl⟩ fl_X9_53 (x := 0) ⟨rfl, rfl⟩ dX9_init_94 (fun _ locs hH hS hsz => ?_)
  have hF := hF.i (a := 0) (c := 8) (x := 0) (Nat.le_of_ble_eq_true rfl)
  have hz := hsz.trans hz
  refine lv_aload_n (pc := 97) C0.1 C0.2.1 dX9_init_97 rfl (lv_at hl 0 rfl) ?_
  refine lv_bipush (pc := 98) (v := (-9)) C0.1 C0.2.1 dX9_init_98 (by decide) ?_
  refine xputI (pc := 100) C0 (Nat.le_of_ble_eq_true rfl) hH hS 0 10 clX9 ⟨Nat.le_of_ble_eq_true rfl, Nat.le_of_ble_eq_true rfl⟩ ⟨rfl, rfl⟩ ⟨Nat.le_of_ble_eq_true rfl, rfl, rfl⟩ fl_X9_57 (x := (-9)) ⟨rfl, rfl⟩ dX9_init_100 (fun _ locs hH hS hsz => ?_)
  have hF := hF.i (a := 0) (c := 10) (x := (-9)) (Nat.le_of_ble_eq_true rfl)
  have hz := hsz.trans hz
  refine lv_aload_n (pc := 103) C0.1 C0.2.1 dX9_init_103 rfl (lv_at hl 0 rfl) ?_
  refine lv_bipush (pc := 104) (v := (-9)) C0.1 C0.2.1 dX9_init_104 (by decide) ?_
  refine xputI (pc := 106) C0 (Nat.le_of_ble_eq_true rfl) hH hS 0 11 clX9 ⟨Nat.le_of_ble_eq_true rfl, Nat.le_of_ble_eq_true rfl⟩ ⟨rfl, rfl⟩ ⟨Nat.le_of_ble_eq_true rfl, rfl, rfl⟩ fl_X9_60 (x := (-9)) ⟨rfl, rfl⟩ dX9_init_106 (fun _ locs hH hS hsz => ?_)
  have hF := hF.i (a := 0) (c := 11) (x := (-9)) (Nat.le_of_ble_eq_true rfl)
  have hz := hsz.trans hz
  refine lv_aload_n (pc := 109) C0.1 C0.2.1 dX9_init_109 rfl (lv_at hl 0 rfl) ?_
  refine lv_sipush (pc := 110) (v := 200) C0.1 C0.2.1 dX9_init_110 (by decide) ?_
  refine xnewa (pc := 113) (N := 200) (t := 0) (ty := .int) C0 (Nat.le_of_ble_eq_true rfl) hH hz hS ac_int rfl ⟨rfl, rfl⟩ ⟨rfl, by decide, trivial⟩ (hF.aI (by decide) rfl) ⟨by decide, by decide⟩ (by decide) ⟨Nat.le_of_ble_eq_true rfl, Nat.le_of_ble_eq_true rfl⟩ (by decide) dX9_init_113 (fun _ hH hz hS => ?_)
  have hF := hF.up (n2 := 78) (Nat.le_of_ble_eq_true rfl)
  refine xputF (pc := 115) C0 (Nat.le_of_ble_eq_true rfl) hnm hH hS 0 12 77 clX9 ⟨Nat.le_of_ble_eq_true rfl, Nat.le_of_ble_eq_true rfl⟩ ⟨rfl, rfl⟩ ⟨Nat.le_of_ble_eq_true rfl, rfl, by decide, by decide, rfl, rfl⟩ fl_X9_63 (fun q => ⟨rfl, rfl⟩) dX9_init_115 (fun _ locs hH hS hsz => ?_)
  have hF := hF.z (a := 0) (c := 12) (Nat.le_of_ble_eq_true rfl)
  have hz := hsz.trans hz
  refine W.widen (k := 77) (n := 50993) (by decide) (by decide) ?_
  exact xcret C0 hr hH hz hS dX9_init_118
theorem f_X10_init_78 {z : Nat → Nat → Bool} {i F : Nat → Nat → Int32} {G : Nat → Nat → Int64} (hF : Fr 79 z i F G) : Fr 130 (upz (upz (upz (upz (upz (upz (upz (upz (upz (upz (upz (upz (upz (upz (upz (upz (upz (upz (upz (upz (upz (upz (upz (upz (upz (upz (upz (upz (upz (upz (upz (upz (upz (upz (upz (upz (upz (upz (upz (upz (upz (upz (upz (upz (upz (upz (upz (upz (upz (upz (upz (upz z 78 1) 78 2) 78 4) 78 5) 78 7) 78 9) 78 11) 78 13) 78 16) 78 17) 78 20) 78 21) 78 22) 78 23) 78 24) 78 25) 78 26) 78 27) 78 28) 78 29) 78 33) 78 34) 78 35) 78 36) 78 37) 78 38) 78 39) 78 41) 78 42) 78 43) 78 44) 78 45) 78 46) 78 48) 78 49) 78 50) 78 53) 78 55) 78 57) 78 58) 78 59) 78 60) 78 61) 78 62) 78 69) 78 70) 78 71) 78 72) 78 73) 78 74) 78 75) 78 77) (up2 i 78 17 (nI 85)) (va_up (va_up (va_up (va_up (va_up F 87 (upd (F 87) (Int32.toNatClampNeg 1) (-9))) 87 (upd ((va_up F 87 (upd (F 87) (Int32.toNatClampNeg 1) (-9))) 87) (Int32.toNatClampNeg 2) (-9))) 87 (upd ((va_up (va_up F 87 (upd (F 87) (Int32.toNatClampNeg 1) (-9))) 87 (upd ((va_up F 87 (upd (F 87) (Int32.toNatClampNeg 1) (-9))) 87) (Int32.toNatClampNeg 2) (-9))) 87) (Int32.toNatClampNeg 3) (-9))) 128 (upd ((va_up (va_up (va_up F 87 (upd (F 87) (Int32.toNatClampNeg 1) (-9))) 87 (upd ((va_up F 87 (upd (F 87) (Int32.toNatClampNeg 1) (-9))) 87) (Int32.toNatClampNeg 2) (-9))) 87 (upd ((va_up (va_up F 87 (upd (F 87) (Int32.toNatClampNeg 1) (-9))) 87 (upd ((va_up F 87 (upd (F 87) (Int32.toNatClampNeg 1) (-9))) 87) (Int32.toNatClampNeg 2) (-9))) 87) (Int32.toNatClampNeg 3) (-9))) 128) (Int32.toNatClampNeg 0) (-9))) 128 (upd ((va_up (va_up (va_up (va_up F 87 (upd (F 87) (Int32.toNatClampNeg 1) (-9))) 87 (upd ((va_up F 87 (upd (F 87) (Int32.toNatClampNeg 1) (-9))) 87) (Int32.toNatClampNeg 2) (-9))) 87 (upd ((va_up (va_up F 87 (upd (F 87) (Int32.toNatClampNeg 1) (-9))) 87 (upd ((va_up F 87 (upd (F 87) (Int32.toNatClampNeg 1) (-9))) 87) (Int32.toNatClampNeg 2) (-9))) 87) (Int32.toNatClampNeg 3) (-9))) 128 (upd ((va_up (va_up (va_up F 87 (upd (F 87) (Int32.toNatClampNeg 1) (-9))) 87 (upd ((va_up F 87 (upd (F 87) (Int32.toNatClampNeg 1) (-9))) 87) (Int32.toNatClampNeg 2) (-9))) 87 (upd ((va_up (va_up F 87 (upd (F 87) (Int32.toNatClampNeg 1) (-9))) 87 (upd ((va_up F 87 (upd (F 87) (Int32.toNatClampNeg 1) (-9))) 87) (Int32.toNatClampNeg 2) (-9))) 87) (Int32.toNatClampNeg 3) (-9))) 128) (Int32.toNatClampNeg 0) (-9))) 128) (Int32.toNatClampNeg 1) (-9))) G := (((((((((((((((((((((((((((((((((((((((((((((((((((((((((((((((((((((((((((((((((((((((((((((((((((((((((((((hF.up (n2 := 80) (Nat.le_of_ble_eq_true rfl)).z (a := 78) (c := 1) (Nat.le_of_ble_eq_true rfl)).up (n2 := 81) (Nat.le_of_ble_eq_true rfl)).z (a := 78) (c := 2) (Nat.le_of_ble_eq_true rfl)).up (n2 := 82) (Nat.le_of_ble_eq_true rfl)).z (a := 78) (c := 4) (Nat.le_of_ble_eq_true rfl)).up (n2 := 83) (Nat.le_of_ble_eq_true rfl)).z (a := 78) (c := 5) (Nat.le_of_ble_eq_true rfl)).up (n2 := 84) (Nat.le_of_ble_eq_true rfl)).z (a := 78) (c := 7) (Nat.le_of_ble_eq_true rfl)).up (n2 := 85) (Nat.le_of_ble_eq_true rfl)).z (a := 78) (c := 9) (Nat.le_of_ble_eq_true rfl)).up (n2 := 86) (Nat.le_of_ble_eq_true rfl)).z (a := 78) (c := 11) (Nat.le_of_ble_eq_true rfl)).up (n2 := 87) (Nat.le_of_ble_eq_true rfl)).z (a := 78) (c := 13) (Nat.le_of_ble_eq_true rfl)).up (n2 := 88) (Nat.le_of_ble_eq_true rfl)).z (a := 78) (c := 16) (Nat.le_of_ble_eq_true rfl)).z (a := 78) (c := 17) (Nat.le_of_ble_eq_true rfl)).i (a := 78) (c := 17) (x := nI 85) (Nat.le_of_ble_eq_true rfl)).up (n2 := 89) (Nat.le_of_ble_eq_true rfl)).z (a := 78) (c := 20) (Nat.le_of_ble_eq_true rfl)).up (n2 := 90) (Nat.le_of_ble_eq_true rfl)).z (a := 78) (c := 21) (Nat.le_of_ble_eq_true rfl)).up (n2 := 91) (Nat.le_of_ble_eq_true rfl)).z (a := 78) (c := 22) (Nat.le_of_ble_eq_true rfl)).up (n2 := 92) (Nat.le_of_ble_eq_true rfl)).z (a := 78) (c := 23) (Nat.le_of_ble_eq_true rfl)).up (n2 := 93) (Nat.le_of_ble_eq_true rfl)).z (a := 78) (c := 24) (Nat.le_of_ble_eq_true rfl)).up (n2 := 94) (Nat.le_of_ble_eq_true rfl)).z (a := 78) (c := 25) (Nat.le_of_ble_eq_true rfl)).up (n2 := 95) (Nat.le_of_ble_eq_true rfl)).z (a := 78) (c := 26) (Nat.le_of_ble_eq_true rfl)).up (n2 := 96) (Nat.le_of_ble_eq_true rfl)).z (a := 78) (c := 27) (Nat.le_of_ble_eq_true rfl)).up (n2 := 97) (Nat.le_of_ble_eq_true rfl)).z (a := 78) (c := 28) (Nat.le_of_ble_eq_true rfl)).up (n2 := 98) (Nat.le_of_ble_eq_true rfl)).z (a := 78) (c := 29) (Nat.le_of_ble_eq_true rfl)).up (n2 := 99) (Nat.le_of_ble_eq_true rfl)).z (a := 78) (c := 33) (Nat.le_of_ble_eq_true rfl)).up (n2 := 100) (Nat.le_of_ble_eq_true rfl)).z (a := 78) (c := 34) (Nat.le_of_ble_eq_true rfl)).up (n2 := 101) (Nat.le_of_ble_eq_true rfl)).z (a := 78) (c := 35) (Nat.le_of_ble_eq_true rfl)).up (n2 := 102) (Nat.le_of_ble_eq_true rfl)).z (a := 78) (c := 36) (Nat.le_of_ble_eq_true rfl)).up (n2 := 103) (Nat.le_of_ble_eq_true rfl)).z (a := 78) (c := 37) (Nat.le_of_ble_eq_true rfl)).up (n2 := 104) (Nat.le_of_ble_eq_true rfl)).z (a := 78) (c := 38) (Nat.le_of_ble_eq_true rfl)).up (n2 := 105) (Nat.le_of_ble_eq_true rfl)).z (a := 78) (c := 39) (Nat.le_of_ble_eq_true rfl)).up (n2 := 106) (Nat.le_of_ble_eq_true rfl)).z (a := 78) (c := 41) (Nat.le_of_ble_eq_true rfl)).up (n2 := 107) (Nat.le_of_ble_eq_true rfl)).z (a := 78) (c := 42) (Nat.le_of_ble_eq_true rfl)).up (n2 := 108) (Nat.le_of_ble_eq_true rfl)).z (a := 78) (c := 43) (Nat.le_of_ble_eq_true rfl)).up (n2 := 109) (Nat.le_of_ble_eq_true rfl)).z (a := 78) (c := 44) (Nat.le_of_ble_eq_true rfl)).up (n2 := 110) (Nat.le_of_ble_eq_true rfl)).z (a := 78) (c := 45) (Nat.le_of_ble_eq_true rfl)).up (n2 := 111) (Nat.le_of_ble_eq_true rfl)).z (a := 78) (c := 46) (Nat.le_of_ble_eq_true rfl)).up (n2 := 112) (Nat.le_of_ble_eq_true rfl)).z (a := 78) (c := 48) (Nat.le_of_ble_eq_true rfl)).up (n2 := 113) (Nat.le_of_ble_eq_true rfl)).z (a := 78) (c := 49) (Nat.le_of_ble_eq_true rfl)).up (n2 := 114) (Nat.le_of_ble_eq_true rfl)).z (a := 78) (c := 50) (Nat.le_of_ble_eq_true rfl)).up (n2 := 115) (Nat.le_of_ble_eq_true rfl)).z (a := 78) (c := 53) (Nat.le_of_ble_eq_true rfl)).up (n2 := 116) (Nat.le_of_ble_eq_true rfl)).z (a := 78) (c := 55) (Nat.le_of_ble_eq_true rfl)).up (n2 := 117) (Nat.le_of_ble_eq_true rfl)).z (a := 78) (c := 57) (Nat.le_of_ble_eq_true rfl)).up (n2 := 118) (Nat.le_of_ble_eq_true rfl)).z (a := 78) (c := 58) (Nat.le_of_ble_eq_true rfl)).up (n2 := 119) (Nat.le_of_ble_eq_true rfl)).z (a := 78) (c := 59) (Nat.le_of_ble_eq_true rfl)).up (n2 := 120) (Nat.le_of_ble_eq_true rfl)).z (a := 78) (c := 60) (Nat.le_of_ble_eq_true rfl)).up (n2 := 121) (Nat.le_of_ble_eq_true rfl)).z (a := 78) (c := 61) (Nat.le_of_ble_eq_true rfl)).up (n2 := 122) (Nat.le_of_ble_eq_true rfl)).z (a := 78) (c := 62) (Nat.le_of_ble_eq_true rfl)).up (n2 := 123) (Nat.le_of_ble_eq_true rfl)).z (a := 78) (c := 69) (Nat.le_of_ble_eq_true rfl)).up (n2 := 124) (Nat.le_of_ble_eq_true rfl)).z (a := 78) (c := 70) (Nat.le_of_ble_eq_true rfl)).up (n2 := 125) (Nat.le_of_ble_eq_true rfl)).z (a := 78) (c := 71) (Nat.le_of_ble_eq_true rfl)).up (n2 := 126) (Nat.le_of_ble_eq_true rfl)).z (a := 78) (c := 72) (Nat.le_of_ble_eq_true rfl)).up (n2 := 127) (Nat.le_of_ble_eq_true rfl)).z (a := 78) (c := 73) (Nat.le_of_ble_eq_true rfl)).up (n2 := 128) (Nat.le_of_ble_eq_true rfl)).z (a := 78) (c := 74) (Nat.le_of_ble_eq_true rfl)).up (n2 := 129) (Nat.le_of_ble_eq_true rfl)).z (a := 78) (c := 75) (Nat.le_of_ble_eq_true rfl)).up (n2 := 130) (Nat.le_of_ble_eq_true rfl)).z (a := 78) (c := 77) (Nat.le_of_ble_eq_true rfl)).f (a := 87) (g := (upd (F 87) (Int32.toNatClampNeg 1) (-9))) (Nat.le_of_ble_eq_true rfl)).f (a := 87) (g := (upd ((va_up F 87 (upd (F 87) (Int32.toNatClampNeg 1) (-9))) 87) (Int32.toNatClampNeg 2) (-9))) (Nat.le_of_ble_eq_true rfl)).f (a := 87) (g := (upd ((va_up (va_up F 87 (upd (F 87) (Int32.toNatClampNeg 1) (-9))) 87 (upd ((va_up F 87 (upd (F 87) (Int32.toNatClampNeg 1) (-9))) 87) (Int32.toNatClampNeg 2) (-9))) 87) (Int32.toNatClampNeg 3) (-9))) (Nat.le_of_ble_eq_true rfl)).f (a := 128) (g := (upd ((va_up (va_up (va_up F 87 (upd (F 87) (Int32.toNatClampNeg 1) (-9))) 87 (upd ((va_up F 87 (upd (F 87) (Int32.toNatClampNeg 1) (-9))) 87) (Int32.toNatClampNeg 2) (-9))) 87 (upd ((va_up (va_up F 87 (upd (F 87) (Int32.toNatClampNeg 1) (-9))) 87 (upd ((va_up F 87 (upd (F 87) (Int32.toNatClampNeg 1) (-9))) 87) (Int32.toNatClampNeg 2) (-9))) 87) (Int32.toNatClampNeg 3) (-9))) 128) (Int32.toNatClampNeg 0) (-9))) (Nat.le_of_ble_eq_true rfl)).f (a := 128) (g := (upd ((va_up (va_up (va_up (va_up F 87 (upd (F 87) (Int32.toNatClampNeg 1) (-9))) 87 (upd ((va_up F 87 (upd (F 87) (Int32.toNatClampNeg 1) (-9))) 87) (Int32.toNatClampNeg 2) (-9))) 87 (upd ((va_up (va_up F 87 (upd (F 87) (Int32.toNatClampNeg 1) (-9))) 87 (upd ((va_up F 87 (upd (F 87) (Int32.toNatClampNeg 1) (-9))) 87) (Int32.toNatClampNeg 2) (-9))) 87) (Int32.toNatClampNeg 3) (-9))) 128 (upd ((va_up (va_up (va_up F 87 (upd (F 87) (Int32.toNatClampNeg 1) (-9))) 87 (upd ((va_up F 87 (upd (F 87) (Int32.toNatClampNeg 1) (-9))) 87) (Int32.toNatClampNeg 2) (-9))) 87 (upd ((va_up (va_up F 87 (upd (F 87) (Int32.toNatClampNeg 1) (-9))) 87 (upd ((va_up F 87 (upd (F 87) (Int32.toNatClampNeg 1) (-9))) 87) (Int32.toNatClampNeg 2) (-9))) 87) (Int32.toNatClampNeg 3) (-9))) 128) (Int32.toNatClampNeg 0) (-9))) 128) (Int32.toNatClampNeg 1) (-9))) (Nat.le_of_ble_eq_true rfl))
set_option maxHeartbeats 4000000 in
set_option maxRecDepth 100000 in
theorem c_X10_init_78 (l : Launch) (D : va_G) (tA : Nat → ClassId) (b : Nat) (z : Nat → Nat → Bool) (i F : Nat → Nat → Int32) (G : Nat → Nat → Int64) (hF : Fr 79 z i F G) : xMC l yX10_init cX10_init 1 1 12 51 48490 D tA b 78 1 z i F G 78 52 (upz (upz (upz (upz (upz (upz (upz (upz (upz (upz (upz (upz (upz (upz (upz (upz (upz (upz (upz (upz (upz (upz (upz (upz (upz (upz (upz (upz (upz (upz (upz (upz (upz (upz (upz (upz (upz (upz (upz (upz (upz (upz (upz (upz (upz (upz (upz (upz (upz (upz (upz (upz z 78 1) 78 2) 78 4) 78 5) 78 7) 78 9) 78 11) 78 13) 78 16) 78 17) 78 20) 78 21) 78 22) 78 23) 78 24) 78 25) 78 26) 78 27) 78 28) 78 29) 78 33) 78 34) 78 35) 78 36) 78 37) 78 38) 78 39) 78 41) 78 42) 78 43) 78 44) 78 45) 78 46) 78 48) 78 49) 78 50) 78 53) 78 55) 78 57) 78 58) 78 59) 78 60) 78 61) 78 62) 78 69) 78 70) 78 71) 78 72) 78 73) 78 74) 78 75) 78 77) (up2 i 78 17 (nI 85)) (va_up (va_up (va_up (va_up (va_up F 87 (upd (F 87) (Int32.toNatClampNeg 1) (-9))) 87 (upd ((va_up F 87 (upd (F 87) (Int32.toNatClampNeg 1) (-9))) 87) (Int32.toNatClampNeg 2) (-9))) 87 (upd ((va_up (va_up F 87 (upd (F 87) (Int32.toNatClampNeg 1) (-9))) 87 (upd ((va_up F 87 (upd (F 87) (Int32.toNatClampNeg 1) (-9))) 87) (Int32.toNatClampNeg 2) (-9))) 87) (Int32.toNatClampNeg 3) (-9))) 128 (upd ((va_up (va_up (va_up F 87 (upd (F 87) (Int32.toNatClampNeg 1) (-9))) 87 (upd ((va_up F 87 (upd (F 87) (Int32.toNatClampNeg 1) (-9))) 87) (Int32.toNatClampNeg 2) (-9))) 87 (upd ((va_up (va_up F 87 (upd (F 87) (Int32.toNatClampNeg 1) (-9))) 87 (upd ((va_up F 87 (upd (F 87) (Int32.toNatClampNeg 1) (-9))) 87) (Int32.toNatClampNeg 2) (-9))) 87) (Int32.toNatClampNeg 3) (-9))) 128) (Int32.toNatClampNeg 0) (-9))) 128 (upd ((va_up (va_up (va_up (va_up F 87 (upd (F 87) (Int32.toNatClampNeg 1) (-9))) 87 (upd ((va_up F 87 (upd (F 87) (Int32.toNatClampNeg 1) (-9))) 87) (Int32.toNatClampNeg 2) (-9))) 87 (upd ((va_up (va_up F 87 (upd (F 87) (Int32.toNatClampNeg 1) (-9))) 87 (upd ((va_up F 87 (upd (F 87) (Int32.toNatClampNeg 1) (-9))) 87) (Int32.toNatClampNeg 2) (-9))) 87) (Int32.toNatClampNeg 3) (-9))) 128 (upd ((va_up (va_up (va_up F 87 (upd (F 87) (Int32.toNatClampNeg 1) (-9))) 87 (upd ((va_up F 87 (upd (F 87) (Int32.toNatClampNeg 1) (-9))) 87) (Int32.toNatClampNeg 2) (-9))) 87 (upd ((va_up (va_up F 87 (upd (F 87) (Int32.toNatClampNeg 1) (-9))) 87 (upd ((va_up F 87 (upd (F 87) (Int32.toNatClampNeg 1) (-9))) 87) (Int32.toNatClampNeg 2) (-9))) 87) (Int32.toNatClampNeg 3) (-9))) 128) (Int32.toNatClampNeg 0) (-9))) 128) (Int32.toNatClampNeg 1) (-9))) := by
  refine xstart0 (n0 := 52) (o := 78) RX10 rfl (by decide) (Nat.le_of_ble_eq_true rfl) (fun _ h => h.2.2) ?_
  intro p e s m below meth c ls C0 hr hnm h0 hS hl
  obtain ⟨hH, hz, -⟩ := h0
  have hl : lv_has ls 1 [(0, .ref (b + 78))] := hl
  refine lv_aload_n (pc := 0) C0.1 C0.2.1 dX10_init_0 rfl (lv_at hl 0 rfl) ?_
  refine xobj (pc := 1) C0 ml_X10_1 im_obj cd_obj hl.1 dX10_init_1 ⟨Nat.le_of_ble_eq_true rfl, Nat.le_of_ble_eq_true rfl⟩ ?_
  refine lv_aload_n (pc := 4) C0.1 C0.2.1 dX10_init_4 rfl (lv_at hl 0 rfl) ?_
  refine lv_bipush (pc := 5) (v := 8) C0.1 C0.2.1 dX10_init_5 (by decide) ?_
  refine xnewa (pc := 7) (N := 8) (t := 3) (ty := .long) C0 (Nat.le_of_ble_eq_true rfl) hH hz hS ac_long rfl ⟨rfl, rfl⟩ ⟨rfl, by decide, trivial⟩ (hF.aJ) ⟨by decide, by decide⟩ (by decide) ⟨Nat.le_of_ble_eq_true rfl, Nat.le_of_ble_eq_true rfl⟩ (by decide) dX10_init_7 (fun _ hH hz hS => ?_)
  have hF := hF.up (n2 := 80) (Nat.le_of_ble_eq_true rfl)
  refine xputF (pc := 9) C0 (Nat.le_of_ble_eq_true rfl) hnm hH hS 78 1 79 clX10 ⟨Nat.le_of_ble_eq_true rfl, Nat.le_of_ble_eq_true rfl⟩ ⟨rfl, rfl⟩ ⟨Nat.le_of_ble_eq_true rfl, rfl, by decide, by decide, rfl, rfl⟩ fl_X10_7 (fun q => ⟨rfl, rfl⟩) dX10_init_9 (fun _ locs hH hS hsz => ?_)
  have hF := hF.z (a := 78) (c := 1) (Nat.le_of_ble_eq_true rfl)
  have hz := hsz.trans hz
  refine lv_aload_n (pc := 12) C0.1 C0.2.1 dX10_init_12 rfl (lv_at hl 0 rfl) ?_
  refine lv_bipush (pc := 13) (v := 8) C0.1 C0.2.1 dX10_init_13 (by decide) ?_
  refine xnewa (pc := 15) (N := 8) (t := 0) (ty := .int) C0 (Nat.le_of_ble_eq_true rfl) hH hz hS ac_int rfl ⟨rfl, rfl⟩ ⟨rfl, by decide, trivial⟩ (hF.aI (by decide) rfl) ⟨by decide, by decide⟩ (by decide) ⟨Nat.le_of_ble_eq_true rfl, Nat.le_of_ble_eq_true rfl⟩ (by decide) dX10_init_15 (fun _ hH hz hS => ?_)
  have hF := hF.up (n2 := 81) (Nat.le_of_ble_eq_true rfl)
  refine xputF (pc := 17) C0 (Nat.le_of_ble_eq_true rfl) hnm hH hS 78 2 80 clX10 ⟨Nat.le_of_ble_eq_true rfl, Nat.le_of_ble_eq_true rfl⟩ ⟨rfl, rfl⟩ ⟨Nat.le_of_ble_eq_true rfl, rfl, by decide, by decide, rfl, rfl⟩ fl_X10_13 (fun q => ⟨rfl, rfl⟩) dX10_init_17 (fun _ locs hH hS hsz => ?_)
  have hF := hF.z (a := 78) (c := 2) (Nat.le_of_ble_eq_true rfl)
  have hz := hsz.trans hz
  refine lv_aload_n (pc := 20) C0.1 C0.2.1 dX10_init_20 rfl (lv_at hl 0 rfl) ?_
  refine lv_iconst (pc := 21) (v := 4) C0.1 C0.2.1 dX10_init_21 (by decide) ?_
  refine xnewa (pc := 22) (N := 4) (t := 0) (ty := .int) C0 (Nat.le_of_ble_eq_true rfl) hH hz hS ac_int rfl ⟨rfl, rfl⟩ ⟨rfl, by decide, trivial⟩ (hF.aI (by decide) rfl) ⟨by decide, by decide⟩ (by decide) ⟨Nat.le_of_ble_eq_true rfl, Nat.le_of_ble_eq_true rfl⟩ (by decide) dX10_init_22 (fun _ hH hz hS => ?_)
  have hF := hF.up (n2 := 82) (Nat.le_of_ble_eq_true rfl)
  refine xputF (pc := 24) C0 (Nat.le_of_ble_eq_true rfl) hnm hH hS 78 4 81 clX10 ⟨Nat.le_of_ble_eq_true rfl, Nat.le_of_ble_eq_true rfl⟩ ⟨rfl, rfl⟩ ⟨Nat.le_of_ble_eq_true rfl, rfl, by decide, by decide, rfl, rfl⟩ fl_X10_17 (fun q => ⟨rfl, rfl⟩) dX10_init_24 (fun _ locs hH hS hsz => ?_)
  have hF := hF.z (a := 78) (c := 4) (Nat.le_of_ble_eq_true rfl)
  have hz := hsz.trans hz
  refine lv_aload_n (pc := 27) C0.1 C0.2.1 dX10_init_27 rfl (lv_at hl 0 rfl) ?_
  refine lv_iconst (pc := 28) (v := 4) C0.1 C0.2.1 dX10_init_28 (by decide) ?_
  refine xnewa (pc := 29) (N := 4) (t := 0) (ty := .int) C0 (Nat.le_of_ble_eq_true rfl) hH hz hS ac_int rfl ⟨rfl, rfl⟩ ⟨rfl, by decide, trivial⟩ (hF.aI (by decide) rfl) ⟨by decide, by decide⟩ (by decide) ⟨Nat.le_of_ble_eq_true rfl, Nat.le_of_ble_eq_true rfl⟩ (by decide) dX10_init_29 (fun _ hH hz hS => ?_)
  have hF := hF.up (n2 := 83) (Nat.le_of_ble_eq_true rfl)
  refine xputF (pc := 31) C0 (Nat.le_of_ble_eq_true rfl) hnm hH hS 78 5 82 clX10 ⟨Nat.le_of_ble_eq_true rfl, Nat.le_of_ble_eq_true rfl⟩ ⟨rfl, rfl⟩ ⟨Nat.le_of_ble_eq_true rfl, rfl, by decide, by decide, rfl, rfl⟩ fl_X10_20 (fun q => ⟨rfl, rfl⟩) dX10_init_31 (fun _ locs hH hS hsz => ?_)
  have hF := hF.z (a := 78) (c := 5) (Nat.le_of_ble_eq_true rfl)
  have hz := hsz.trans hz
  refine lv_aload_n (pc := 34) C0.1 C0.2.1 dX10_init_34 rfl (lv_at hl 0 rfl) ?_
  refine lv_iconst (pc := 35) (v := 4) C0.1 C0.2.1 dX10_init_35 (by decide) ?_
  refine xnewa (pc := 36) (N := 4) (t := 3) (ty := .long) C0 (Nat.le_of_ble_eq_true rfl) hH hz hS ac_long rfl ⟨rfl, rfl⟩ ⟨rfl, by decide, trivial⟩ (hF.aJ) ⟨by decide, by decide⟩ (by decide) ⟨Nat.le_of_ble_eq_true rfl, Nat.le_of_ble_eq_true rfl⟩ (by decide) dX10_init_36 (fun _ hH hz hS => ?_)
  have hF := hF.up (n2 := 84) (Nat.le_of_ble_eq_true rfl)
  refine xputF (pc := 38) C0 (Nat.le_of_ble_eq_true rfl) hnm hH hS 78 7 83 clX10 ⟨Nat.le_of_ble_eq_true rfl, Nat.le_of_ble_eq_true rfl⟩ ⟨rfl, rfl⟩ ⟨Nat.le_of_ble_eq_true rfl, rfl, by decide, by decide, rfl, rfl⟩ fl_X10_23 (fun q => ⟨rfl, rfl⟩) dX10_init_38 (fun _ locs hH hS hsz => ?_)
  have hF := hF.z (a := 78) (c := 7) (Nat.le_of_ble_eq_true rfl)
  have hz := hsz.trans hz
  refine lv_aload_n (pc := 41) C0.1 C0.2.1 dX10_init_41 rfl (lv_at hl 0 rfl) ?_
  refine lv_iconst (pc := 42) (v := 4) C0.1 C0.2.1 dX10_init_42 (by decide) ?_
  refine xnewa (pc := 43) (N := 4) (t := 0) (ty := .int) C0 (Nat.le_of_ble_eq_true rfl) hH hz hS ac_int rfl ⟨rfl, rfl⟩ ⟨rfl, by decide, trivial⟩ (hF.aI (by decide) rfl) ⟨by decide, by decide⟩ (by decide) ⟨Nat.le_of_ble_eq_true rfl, Nat.le_of_ble_eq_true rfl⟩ (by decide) dX10_init_43 (fun _ hH hz hS => ?_)
  have hF := hF.up (n2 := 85) (Nat.le_of_ble_eq_true rfl)
  refine xputF (pc := 45) C0 (Nat.le_of_ble_eq_true rfl) hnm hH hS 78 9 84 clX10 ⟨Nat.le_of_ble_eq_true rfl, Nat.le_of_ble_eq_true rfl⟩ ⟨rfl, rfl⟩ ⟨Nat.le_of_ble_eq_true rfl, rfl, by decide, by decide, rfl, rfl⟩ fl_X10_26 (fun q => ⟨rfl, rfl⟩) dX10_init_45 (fun _ locs hH hS hsz => ?_)
  have hF := hF.z (a := 78) (c := 9) (Nat.le_of_ble_eq_true rfl)
  have hz := hsz.trans hz
  refine lv_aload_n (pc := 48) C0.1 C0.2.1 dX10_init_48 rfl (lv_at hl 0 rfl) ?_
  refine lv_sipush (pc := 49) (v := 600) C0.1 C0.2.1 dX10_init_49 (by decide) ?_
  refine xnewa (pc := 52) (N := 600) (t := 1) (ty := .byte) C0 (Nat.le_of_ble_eq_true rfl) hH hz hS ac_byte rfl ⟨rfl, rfl⟩ ⟨rfl, by decide, trivial⟩ (hF.aI (by decide) rfl) ⟨by decide, by decide⟩ (by decide) ⟨Nat.le_of_ble_eq_true rfl, Nat.le_of_ble_eq_true rfl⟩ (by decide) dX10_init_52 (fun _ hH hz hS => ?_)
  have hF := hF.up (n2 := 86) (Nat.le_of_ble_eq_true rfl)
  refine xputF (pc := 54) C0 (Nat.le_of_ble_eq_true rfl) hnm hH hS 78 11 85 clX10 ⟨Nat.le_of_ble_eq_true rfl, Nat.le_of_ble_eq_true rfl⟩ ⟨rfl, rfl⟩ ⟨Nat.le_of_ble_eq_true rfl, rfl, by decide, by decide, rfl, rfl⟩ fl_X10_29 (fun q => ⟨rfl, rfl⟩) dX10_init_54 (fun _ locs hH hS hsz => ?_)
  have hF := hF.z (a := 78) (c := 11) (Nat.le_of_ble_eq_true rfl)
  have hz := hsz.trans hz
  refine lv_aload_n (pc := 57) C0.1 C0.2.1 dX10_init_57 rfl (lv_at hl 0 rfl) ?_
  refine lv_sipush (pc := 58) (v := 600) C0.1 C0.2.1 dX10_init_58 (by decide) ?_
  refine xnewa (pc := 61) (N := 600) (t := 1) (ty := .byte) C0 (Nat.le_of_ble_eq_true rfl) hH hz hS ac_byte rfl ⟨rfl, rfl⟩ ⟨rfl, by decide, trivial⟩ (hF.aI (by decide) rfl) ⟨by decide, by decide⟩ (by decide) ⟨Nat.le_of_ble_eq_true rfl, Nat.le_of_ble_eq_true rfl⟩ (by decide) dX10_init_61 (fun _ hH hz hS => ?_)
  have hF := hF.up (n2 := 87) (Nat.le_of_ble_eq_true rfl)
  refine xputF (pc := 63) C0 (Nat.le_of_ble_eq_true rfl) hnm hH hS 78 13 86 clX10 ⟨Nat.le_of_ble_eq_true rfl, Nat.le_of_ble_eq_true rfl⟩ ⟨rfl, rfl⟩ ⟨Nat.le_of_ble_eq_true rfl, rfl, by decide, by decide, rfl, rfl⟩ fl_X10_33 (fun q => ⟨rfl, rfl⟩) dX10_init_63 (fun _ locs hH hS hsz => ?_)
  have hF := hF.z (a := 78) (c := 13) (Nat.le_of_ble_eq_true rfl)
  have hz := hsz.trans hz
  refine lv_aload_n (pc := 66) C0.1 C0.2.1 dX10_init_66 rfl (lv_at hl 0 rfl) ?_
  refine lv_iconst (pc := 67) (v := 4) C0.1 C0.2.1 dX10_init_67 (by decide) ?_
  refine xnewa (pc := 68) (N := 4) (t := 0) (ty := .int) C0 (Nat.le_of_ble_eq_true rfl) hH hz hS ac_int rfl ⟨rfl, rfl⟩ ⟨rfl, by decide, trivial⟩ (hF.aI (by decide) rfl) ⟨by decide, by decide⟩ (by decide) ⟨Nat.le_of_ble_eq_true rfl, Nat.le_of_ble_eq_true rfl⟩ (by decide) dX10_init_68 (fun _ hH hz hS => ?_)
  have hF := hF.up (n2 := 88) (Nat.le_of_ble_eq_true rfl)
  refine xputF (pc := 70) C0 (Nat.le_of_ble_eq_true rfl) hnm hH hS 78 16 87 clX10 ⟨Nat.le_of_ble_eq_true rfl, Nat.le_of_ble_eq_true rfl⟩ ⟨rfl, rfl⟩ ⟨Nat.le_of_ble_eq_true rfl, rfl, by decide, by decide, rfl, rfl⟩ fl_X10_36 (fun q => ⟨rfl, rfl⟩) dX10_init_70 (fun _ locs hH hS hsz => ?_)
  have hF := hF.z (a := 78) (c := 16) (Nat.le_of_ble_eq_true rfl)
  have hz := hsz.trans hz
  refine lv_aload_n (pc := 73) C0.1 C0.2.1 dX10_init_73 rfl (lv_at hl 0 rfl) ?_
  refine lv_aload_n (pc := 74) C0.1 C0.2.1 dX10_init_74 rfl (lv_at hl 0 rfl) ?_
  refine xget (pc := 75) C0 hH 78 11 clX10 ⟨Nat.le_of_ble_eq_true rfl, Nat.le_of_ble_eq_true rfl⟩ ⟨rfl, rfl⟩ (Nat.le_of_ble_eq_true rfl) fl_X10_29 (v := .ref (b + 85)) rfl dX10_init_75 ?_
  refine xputR (pc := 78) C0 (Nat.le_of_ble_eq_true rfl) hH hS 78 17 85 clX10 ⟨Nat.le_of_ble_eq_true rfl, Nat.le_of_ble_eq_true rfl⟩ ⟨rfl, rfl⟩ ⟨Nat.le_of_ble_eq_true rfl, rfl, rfl⟩ (by decide) fl_X10_39 (fun q => ⟨rfl, rfl⟩) dX10_init_78 (fun _ locs hH hS hsz => ?_)
  have hF := (hF.z (a := 78) (c := 17) (Nat.le_of_ble_eq_true rfl)).i (a := 78) (c := 17) (x := nI 85) (Nat.le_of_ble_eq_true rfl)
  have hz := hsz.trans hz
  refine lv_aload_n (pc := 81) C0.1 C0.2.1 dX10_init_81 rfl (lv_at hl 0 rfl) ?_
  refine lv_sipush (pc := 82) (v := 600) C0.1 C0.2.1 dX10_init_82 (by decide) ?_
  refine xnewa (pc := 85) (N := 600) (t := 0) (ty := .int) C0 (Nat.le_of_ble_eq_true rfl) hH hz hS ac_int rfl ⟨rfl, rfl⟩ ⟨rfl, by decide, trivial⟩ (hF.aI (by decide) rfl) ⟨by decide, by decide⟩ (by decide) ⟨Nat.le_of_ble_eq_true rfl, Nat.le_of_ble_eq_true rfl⟩ (by decide) dX10_init_85 (fun _ hH hz hS => ?_)
  have hF := hF.up (n2 := 89) (Nat.le_of_ble_eq_true rfl)
  refine xputF (pc := 87) C0 (Nat.le_of_ble_eq_true rfl) hnm hH hS 78 20 88 clX10 ⟨Nat.le_of_ble_eq_true rfl, Nat.le_of_ble_eq_true rfl⟩ ⟨rfl, rfl⟩ ⟨Nat.le_of_ble_eq_true rfl, rfl, by decide, by decide, rfl, rfl⟩ fl_X10_42 (fun q => ⟨rfl, rfl⟩) dX10_init_87 (fun _ locs hH hS hsz => ?_)
  have hF := hF.z (a := 78) (c := 20) (Nat.le_of_ble_eq_true rfl)
  have hz := hsz.trans hz
  refine lv_aload_n (pc := 90) C0.1 C0.2.1 dX10_init_90 rfl (lv_at hl 0 rfl) ?_
  refine lv_sipush (pc := 91) (v := 600) C0.1 C0.2.1 dX10_init_91 (by decide) ?_
  refine xnewa (pc := 94) (N := 600) (t := 0) (ty := .int) C0 (Nat.le_of_ble_eq_true rfl) hH hz hS ac_int rfl ⟨rfl, rfl⟩ ⟨rfl, by decide, trivial⟩ (hF.aI (by decide) rfl) ⟨by decide, by decide⟩ (by decide) ⟨Nat.le_of_ble_eq_true rfl, Nat.le_of_ble_eq_true rfl⟩ (by decide) dX10_init_94 (fun _ hH hz hS => ?_)
  have hF := hF.up (n2 := 90) (Nat.le_of_ble_eq_true rfl)
  refine xputF (pc := 96) C0 (Nat.le_of_ble_eq_true rfl) hnm hH hS 78 21 89 clX10 ⟨Nat.le_of_ble_eq_true rfl, Nat.le_of_ble_eq_true rfl⟩ ⟨rfl, rfl⟩ ⟨Nat.le_of_ble_eq_true rfl, rfl, by decide, by decide, rfl, rfl⟩ fl_X10_45 (fun q => ⟨rfl, rfl⟩) dX10_init_96 (fun _ locs hH hS hsz => ?_)
  have hF := hF.z (a := 78) (c := 21) (Nat.le_of_ble_eq_true rfl)
  have hz := hsz.trans hz
  refine lv_aload_n (pc := 99) C0.1 C0.2.1 dX10_init_99 rfl (lv_at hl 0 rfl) ?_
  refine lv_sipush (pc := 100) (v := 600) C0.1 C0.2.1 dX10_init_100 (by decide) ?_
  refine xnewa (pc := 103) (N := 600) (t := 0) (ty := .int) C0 (Nat.le_of_ble_eq_true rfl) hH hz hS ac_int rfl ⟨rfl, rfl⟩ ⟨rfl, by decide, trivial⟩ (hF.aI (by decide) rfl) ⟨by decide, by decide⟩ (by decide) ⟨Nat.le_of_ble_eq_true rfl, Nat.le_of_ble_eq_true rfl⟩ (by decide) dX10_init_103 (fun _ hH hz hS => ?_)
  have hF := hF.up (n2 := 91) (Nat.le_of_ble_eq_true rfl)
  refine xputF (pc := 105) C0 (Nat.le_of_ble_eq_true rfl) hnm hH hS 78 22 90 clX10 ⟨Nat.le_of_ble_eq_true rfl, Nat.le_of_ble_eq_true rfl⟩ ⟨rfl, rfl⟩ ⟨Nat.le_of_ble_eq_true rfl, rfl, by decide, by decide, rfl, rfl⟩ fl_X10_48 (fun q => ⟨rfl, rfl⟩) dX10_init_105 (fun _ locs hH hS hsz => ?_)
  have hF := hF.z (a := 78) (c := 22) (Nat.le_of_ble_eq_true rfl)
  have hz := hsz.trans hz
  refine lv_aload_n (pc := 108) C0.1 C0.2.1 dX10_init_108 rfl (lv_at hl 0 rfl) ?_
  refine lv_sipush (pc := 109) (v := 600) C0.1 C0.2.1 dX10_init_109 (by decide) ?_
  refine xnewa (pc := 112) (N := 600) (t := 0) (ty := .int) C0 (Nat.le_of_ble_eq_true rfl) hH hz hS ac_int rfl ⟨rfl, rfl⟩ ⟨rfl, by decide, trivial⟩ (hF.aI (by decide) rfl) ⟨by decide, by decide⟩ (by decide) ⟨Nat.le_of_ble_eq_true rfl, Nat.le_of_ble_eq_true rfl⟩ (by decide) dX10_init_112 (fun _ hH hz hS => ?_)
  have hF := hF.up (n2 := 92) (Nat.le_of_ble_eq_true rfl)
  refine xputF (pc := 114) C0 (Nat.le_of_ble_eq_true rfl) hnm hH hS 78 23 91 clX10 ⟨Nat.le_of_ble_eq_true rfl, Nat.le_of_ble_eq_true rfl⟩ ⟨rfl, rfl⟩ ⟨Nat.le_of_ble_eq_true rfl, rfl, by decide, by decide, rfl, rfl⟩ fl_X10_51 (fun q => ⟨rfl, rfl⟩) dX10_init_114 (fun _ locs hH hS hsz => ?_)
  have hF := hF.z (a := 78) (c := 23) (Nat.le_of_ble_eq_true rfl)
  have hz := hsz.trans hz
  refine lv_aload_n (pc := 117) C0.1 C0.2.1 dX10_init_117 rfl (lv_at hl 0 rfl) ?_
  refine lv_sipush (pc := 118) (v := 600) C0.1 C0.2.1 dX10_init_118 (by decide) ?_
  refine xnewa (pc := 121) (N := 600) (t := 0) (ty := .int) C0 (Nat.le_of_ble_eq_true rfl) hH hz hS ac_int rfl ⟨rfl, rfl⟩ ⟨rfl, by decide, trivial⟩ (hF.aI (by decide) rfl) ⟨by decide, by decide⟩ (by decide) ⟨Nat.le_of_ble_eq_true rfl, Nat.le_of_ble_eq_true rfl⟩ (by decide) dX10_init_121 (fun _ hH hz hS => ?_)
  have hF := hF.up (n2 := 93) (Nat.le_of_ble_eq_true rfl)
  refine xputF (pc := 123) C0 (Nat.le_of_ble_eq_true rfl) hnm hH hS 78 24 92 clX10 ⟨Nat.le_of_ble_eq_true rfl, Nat.le_of_ble_eq_true rfl⟩ ⟨rfl, rfl⟩ ⟨Nat.le_of_ble_eq_true rfl, rfl, by decide, by decide, rfl, rfl⟩ fl_X10_54 (fun q => ⟨rfl, rfl⟩) dX10_init_123 (fun _ locs hH hS hsz => ?_)
  have hF := hF.z (a := 78) (c := 24) (Nat.le_of_ble_eq_true rfl)
  have hz := hsz.trans hz
  refine lv_aload_n (pc := 126) C0.1 C0.2.1 dX10_init_126 rfl (lv_at hl 0 rfl) ?_
  refine lv_sipush (pc := 127) (v := 600) C0.1 C0.2.1 dX10_init_127 (by decide) ?_
  refine xnewa (pc := 130) (N := 600) (t := 2) (ty := .boolean) C0 (Nat.le_of_ble_eq_true rfl) hH hz hS ac_boolean rfl ⟨rfl, rfl⟩ ⟨rfl, by decide, trivial⟩ (hF.aI (by decide) rfl) ⟨by decide, by decide⟩ (by decide) ⟨Nat.le_of_ble_eq_true rfl, Nat.le_of_ble_eq_true rfl⟩ (by decide) dX10_init_130 (fun _ hH hz hS => ?_)
  have hF := hF.up (n2 := 94) (Nat.le_of_ble_eq_true rfl)
  refine xputF (pc := 132) C0 (Nat.le_of_ble_eq_true rfl) hnm hH hS 78 25 93 clX10 ⟨Nat.le_of_ble_eq_true rfl, Nat.le_of_ble_eq_true rfl⟩ ⟨rfl, rfl⟩ ⟨Nat.le_of_ble_eq_true rfl, rfl, by decide, by decide, rfl, rfl⟩ fl_X10_57 (fun q => ⟨rfl, rfl⟩) dX10_init_132 (fun _ locs hH hS hsz => ?_)
  have hF := hF.z (a := 78) (c := 25) (Nat.le_of_ble_eq_true rfl)
  have hz := hsz.trans hz
  refine lv_aload_n (pc := 135) C0.1 C0.2.1 dX10_init_135 rfl (lv_at hl 0 rfl) ?_
  refine lv_sipush (pc := 136) (v := 600) C0.1 C0.2.1 dX10_init_136 (by decide) ?_
  refine xnewa (pc := 139) (N := 600) (t := 3) (ty := .long) C0 (Nat.le_of_ble_eq_true rfl) hH hz hS ac_long rfl ⟨rfl, rfl⟩ ⟨rfl, by decide, trivial⟩ (hF.aJ) ⟨by decide, by decide⟩ (by decide) ⟨Nat.le_of_ble_eq_true rfl, Nat.le_of_ble_eq_true rfl⟩ (by decide) dX10_init_139 (fun _ hH hz hS => ?_)
  have hF := hF.up (n2 := 95) (Nat.le_of_ble_eq_true rfl)
  refine xputF (pc := 141) C0 (Nat.le_of_ble_eq_true rfl) hnm hH hS 78 26 94 clX10 ⟨Nat.le_of_ble_eq_true rfl, Nat.le_of_ble_eq_true rfl⟩ ⟨rfl, rfl⟩ ⟨Nat.le_of_ble_eq_true rfl, rfl, by decide, by decide, rfl, rfl⟩ fl_X10_61 (fun q => ⟨rfl, rfl⟩) dX10_init_141 (fun _ locs hH hS hsz => ?_)
  have hF := hF.z (a := 78) (c := 26) (Nat.le_of_ble_eq_true rfl)
  have hz := hsz.trans hz
  refine lv_aload_n (pc := 144) C0.1 C0.2.1 dX10_init_144 rfl (lv_at hl 0 rfl) ?_
  refine lv_sipush (pc := 145) (v := 600) C0.1 C0.2.1 dX10_init_145 (by decide) ?_
  refine xnewa (pc := 148) (N := 600) (t := 0) (ty := .int) C0 (Nat.le_of_ble_eq_true rfl) hH hz hS ac_int rfl ⟨rfl, rfl⟩ ⟨rfl, by decide, trivial⟩ (hF.aI (by decide) rfl) ⟨by decide, by decide⟩ (by decide) ⟨Nat.le_of_ble_eq_true rfl, Nat.le_of_ble_eq_true rfl⟩ (by decide) dX10_init_148 (fun _ hH hz hS => ?_)
  have hF := hF.up (n2 := 96) (Nat.le_of_ble_eq_true rfl)
  refine xputF (pc := 150) C0 (Nat.le_of_ble_eq_true rfl) hnm hH hS 78 27 95 clX10 ⟨Nat.le_of_ble_eq_true rfl, Nat.le_of_ble_eq_true rfl⟩ ⟨rfl, rfl⟩ ⟨Nat.le_of_ble_eq_true rfl, rfl, by decide, by decide, rfl, rfl⟩ fl_X10_64 (fun q => ⟨rfl, rfl⟩) dX10_init_150 (fun _ locs hH hS hsz => ?_)
  have hF := hF.z (a := 78) (c := 27) (Nat.le_of_ble_eq_true rfl)
  have hz := hsz.trans hz
  refine lv_aload_n (pc := 153) C0.1 C0.2.1 dX10_init_153 rfl (lv_at hl 0 rfl) ?_
  refine lv_sipush (pc := 154) (v := 601) C0.1 C0.2.1 dX10_init_154 (by decide) ?_
  refine xnewa (pc := 157) (N := 601) (t := 0) (ty := .int) C0 (Nat.le_of_ble_eq_true rfl) hH hz hS ac_int rfl ⟨rfl, rfl⟩ ⟨rfl, by decide, trivial⟩ (hF.aI (by decide) rfl) ⟨by decide, by decide⟩ (by decide) ⟨Nat.le_of_ble_eq_true rfl, Nat.le_of_ble_eq_true rfl⟩ (by decide) dX10_init_157 (fun _ hH hz hS => ?_)
  have hF := hF.up (n2 := 97) (Nat.le_of_ble_eq_true rfl)
  refine xputF (pc := 159) C0 (Nat.le_of_ble_eq_true rfl) hnm hH hS 78 28 96 clX10 ⟨Nat.le_of_ble_eq_true rfl, Nat.le_of_ble_eq_true rfl⟩ ⟨rfl, rfl⟩ ⟨Nat.le_of_ble_eq_true rfl, rfl, by decide, by decide, rfl, rfl⟩ fl_X10_67 (fun q => ⟨rfl, rfl⟩) dX10_init_159 (fun _ locs hH hS hsz => ?_)
  have hF := hF.z (a := 78) (c := 28) (Nat.le_of_ble_eq_true rfl)
  have hz := hsz.trans hz
  refine lv_aload_n (pc := 162) C0.1 C0.2.1 dX10_init_162 rfl (lv_at hl 0 rfl) ?_
  refine lv_sipush (pc := 163) (v := 601) C0.1 C0.2.1 dX10_init_163 (by decide) ?_
  refine xnewa (pc := 166) (N := 601) (t := 0) (ty := .int) C0 (Nat.le_of_ble_eq_true rfl) hH hz hS ac_int rfl ⟨rfl, rfl⟩ ⟨rfl, by decide, trivial⟩ (hF.aI (by decide) rfl) ⟨by decide, by decide⟩ (by decide) ⟨Nat.le_of_ble_eq_true rfl, Nat.le_of_ble_eq_true rfl⟩ (by decide) dX10_init_166 (fun _ hH hz hS => ?_)
  have hF := hF.up (n2 := 98) (Nat.le_of_ble_eq_true rfl)
  refine xputF (pc := 168) C0 (Nat.le_of_ble_eq_true rfl) hnm hH hS 78 29 97 clX10 ⟨Nat.le_of_ble_eq_true rfl, Nat.le_of_ble_eq_true rfl⟩ ⟨rfl, rfl⟩ ⟨Nat.le_of_ble_eq_true rfl, rfl, by decide, by decide, rfl, rfl⟩ fl_X10_70 (fun q => ⟨rfl, rfl⟩) dX10_init_168 (fun _ locs hH hS hsz => ?_)
  have hF := hF.z (a := 78) (c := 29) (Nat.le_of_ble_eq_true rfl)
  have hz := hsz.trans hz
  refine lv_aload_n (pc := 171) C0.1 C0.2.1 dX10_init_171 rfl (lv_at hl 0 rfl) ?_
  refine lv_sipush (pc := 172) (v := 1202) C0.1 C0.2.1 dX10_init_172 (by decide) ?_
  refine xnewa (pc := 175) (N := 1202) (t := 0) (ty := .int) C0 (Nat.le_of_ble_eq_true rfl) hH hz hS ac_int rfl ⟨rfl, rfl⟩ ⟨rfl, by decide, trivial⟩ (hF.aI (by decide) rfl) ⟨by decide, by decide⟩ (by decide) ⟨Nat.le_of_ble_eq_true rfl, Nat.le_of_ble_eq_true rfl⟩ (by decide) dX10_init_175 (fun _ hH hz hS => ?_)
  have hF := hF.up (n2 := 99) (Nat.le_of_ble_eq_true rfl)
  refine xputF (pc := 177) C0 (Nat.le_of_ble_eq_true rfl) hnm hH hS 78 33 98 clX10 ⟨Nat.le_of_ble_eq_true rfl, Nat.le_of_ble_eq_true rfl⟩ ⟨rfl, rfl⟩ ⟨Nat.le_of_ble_eq_true rfl, rfl, by decide, by decide, rfl, rfl⟩ fl_X10_73 (fun q => ⟨rfl, rfl⟩) dX10_init_177 (fun _ locs hH hS hsz => ?_)
  have hF := hF.z (a := 78) (c := 33) (Nat.le_of_ble_eq_true rfl)
  have hz := hsz.trans hz
  refine lv_aload_n (pc := 180) C0.1 C0.2.1 dX10_init_180 rfl (lv_at hl 0 rfl) ?_
  refine lv_sipush (pc := 181) (v := 1202) C0.1 C0.2.1 dX10_init_181 (by decide) ?_
  refine xnewa (pc := 184) (N := 1202) (t := 0) (ty := .int) C0 (Nat.le_of_ble_eq_true rfl) hH hz hS ac_int rfl ⟨rfl, rfl⟩ ⟨rfl, by decide, trivial⟩ (hF.aI (by decide) rfl) ⟨by decide, by decide⟩ (by decide) ⟨Nat.le_of_ble_eq_true rfl, Nat.le_of_ble_eq_true rfl⟩ (by decide) dX10_init_184 (fun _ hH hz hS => ?_)
  have hF := hF.up (n2 := 100) (Nat.le_of_ble_eq_true rfl)
  refine xputF (pc := 186) C0 (Nat.le_of_ble_eq_true rfl) hnm hH hS 78 34 99 clX10 ⟨Nat.le_of_ble_eq_true rfl, Nat.le_of_ble_eq_true rfl⟩ ⟨rfl, rfl⟩ ⟨Nat.le_of_ble_eq_true rfl, rfl, by decide, by decide, rfl, rfl⟩ fl_X10_76 (fun q => ⟨rfl, rfl⟩) dX10_init_186 (fun _ locs hH hS hsz => ?_)
  have hF := hF.z (a := 78) (c := 34) (Nat.le_of_ble_eq_true rfl)
  have hz := hsz.trans hz
  refine lv_aload_n (pc := 189) C0.1 C0.2.1 dX10_init_189 rfl (lv_at hl 0 rfl) ?_
  refine lv_sipush (pc := 190) (v := 1202) C0.1 C0.2.1 dX10_init_190 (by decide) ?_
  refine xnewa (pc := 193) (N := 1202) (t := 0) (ty := .int) C0 (Nat.le_of_ble_eq_true rfl) hH hz hS ac_int rfl ⟨rfl, rfl⟩ ⟨rfl, by decide, trivial⟩ (hF.aI (by decide) rfl) ⟨by decide, by decide⟩ (by decide) ⟨Nat.le_of_ble_eq_true rfl, Nat.le_of_ble_eq_true rfl⟩ (by decide) dX10_init_193 (fun _ hH hz hS => ?_)
  have hF := hF.up (n2 := 101) (Nat.le_of_ble_eq_true rfl)
  refine xputF (pc := 195) C0 (Nat.le_of_ble_eq_true rfl) hnm hH hS 78 35 100 clX10 ⟨Nat.le_of_ble_eq_true rfl, Nat.le_of_ble_eq_true rfl⟩ ⟨rfl, rfl⟩ ⟨Nat.le_of_ble_eq_true rfl, rfl, by decide, by decide, rfl, rfl⟩ fl_X10_79 (fun q => ⟨rfl, rfl⟩) dX10_init_195 (fun _ locs hH hS hsz => ?_)
  have hF := hF.z (a := 78) (c := 35) (Nat.le_of_ble_eq_true rfl)
  have hz := hsz.trans hz
  refine lv_aload_n (pc := 198) C0.1 C0.2.1 dX10_init_198 rfl (lv_at hl 0 rfl) ?_
  refine lv_sipush (pc := 199) (v := 1202) C0.1 C0.2.1 dX10_init_199 (by decide) ?_
  refine xnewa (pc := 202) (N := 1202) (t := 0) (ty := .int) C0 (Nat.le_of_ble_eq_true rfl) hH hz hS ac_int rfl ⟨rfl, rfl⟩ ⟨rfl, by decide, trivial⟩ (hF.aI (by decide) rfl) ⟨by decide, by decide⟩ (by decide) ⟨Nat.le_of_ble_eq_true rfl, Nat.le_of_ble_eq_true rfl⟩ (by decide) dX10_init_202 (fun _ hH hz hS => ?_)
  have hF := hF.up (n2 := 102) (Nat.le_of_ble_eq_true rfl)
  refine xputF (pc := 204) C0 (Nat.le_of_ble_eq_true rfl) hnm hH hS 78 36 101 clX10 ⟨Nat.le_of_ble_eq_true rfl, Nat.le_of_ble_eq_true rfl⟩ ⟨rfl, rfl⟩ ⟨Nat.le_of_ble_eq_true rfl, rfl, by decide, by decide, rfl, rfl⟩ fl_X10_82 (fun q => ⟨rfl, rfl⟩) dX10_init_204 (fun _ locs hH hS hsz => ?_)
  have hF := hF.z (a := 78) (c := 36) (Nat.le_of_ble_eq_true rfl)
  have hz := hsz.trans hz
  refine lv_aload_n (pc := 207) C0.1 C0.2.1 dX10_init_207 rfl (lv_at hl 0 rfl) ?_
  refine lv_sipush (pc := 208) (v := 1202) C0.1 C0.2.1 dX10_init_208 (by decide) ?_
  refine xnewa (pc := 211) (N := 1202) (t := 0) (ty := .int) C0 (Nat.le_of_ble_eq_true rfl) hH hz hS ac_int rfl ⟨rfl, rfl⟩ ⟨rfl, by decide, trivial⟩ (hF.aI (by decide) rfl) ⟨by decide, by decide⟩ (by decide) ⟨Nat.le_of_ble_eq_true rfl, Nat.le_of_ble_eq_true rfl⟩ (by decide) dX10_init_211 (fun _ hH hz hS => ?_)
  have hF := hF.up (n2 := 103) (Nat.le_of_ble_eq_true rfl)
  refine xputF (pc := 213) C0 (Nat.le_of_ble_eq_true rfl) hnm hH hS 78 37 102 clX10 ⟨Nat.le_of_ble_eq_true rfl, Nat.le_of_ble_eq_true rfl⟩ ⟨rfl, rfl⟩ ⟨Nat.le_of_ble_eq_true rfl, rfl, by decide, by decide, rfl, rfl⟩ fl_X10_85 (fun q => ⟨rfl, rfl⟩) dX10_init_213 (fun _ locs hH hS hsz => ?_)
  have hF := hF.z (a := 78) (c := 37) (Nat.le_of_ble_eq_true rfl)
  have hz := hsz.trans hz
  refine lv_aload_n (pc := 216) C0.1 C0.2.1 dX10_init_216 rfl (lv_at hl 0 rfl) ?_
  refine lv_sipush (pc := 217) (v := 1202) C0.1 C0.2.1 dX10_init_217 (by decide) ?_
  refine xnewa (pc := 220) (N := 1202) (t := 0) (ty := .int) C0 (Nat.le_of_ble_eq_true rfl) hH hz hS ac_int rfl ⟨rfl, rfl⟩ ⟨rfl, by decide, trivial⟩ (hF.aI (by decide) rfl) ⟨by decide, by decide⟩ (by decide) ⟨Nat.le_of_ble_eq_true rfl, Nat.le_of_ble_eq_true rfl⟩ (by decide) dX10_init_220 (fun _ hH hz hS => ?_)
  have hF := hF.up (n2 := 104) (Nat.le_of_ble_eq_true rfl)
  refine xputF (pc := 222) C0 (Nat.le_of_ble_eq_true rfl) hnm hH hS 78 38 103 clX10 ⟨Nat.le_of_ble_eq_true rfl, Nat.le_of_ble_eq_true rfl⟩ ⟨rfl, rfl⟩ ⟨Nat.le_of_ble_eq_true rfl, rfl, by decide, by decide, rfl, rfl⟩ fl_X10_88 (fun q => ⟨rfl, rfl⟩) dX10_init_222 (fun _ locs hH hS hsz => ?_)
  have hF := hF.z (a := 78) (c := 38) (Nat.le_of_ble_eq_true rfl)
  have hz := hsz.trans hz
  refine lv_aload_n (pc := 225) C0.1 C0.2.1 dX10_init_225 rfl (lv_at hl 0 rfl) ?_
  refine lv_sipush (pc := 226) (v := 1202) C0.1 C0.2.1 dX10_init_226 (by decide) ?_
  refine xnewa (pc := 229) (N := 1202) (t := 0) (ty := .int) C0 (Nat.le_of_ble_eq_true rfl) hH hz hS ac_int rfl ⟨rfl, rfl⟩ ⟨rfl, by decide, trivial⟩ (hF.aI (by decide) rfl) ⟨by decide, by decide⟩ (by decide) ⟨Nat.le_of_ble_eq_true rfl, Nat.le_of_ble_eq_true rfl⟩ (by decide) dX10_init_229 (fun _ hH hz hS => ?_)
  have hF := hF.up (n2 := 105) (Nat.le_of_ble_eq_true rfl)
  refine xputF (pc := 231) C0 (Nat.le_of_ble_eq_true rfl) hnm hH hS 78 39 104 clX10 ⟨Nat.le_of_ble_eq_true rfl, Nat.le_of_ble_eq_true rfl⟩ ⟨rfl, rfl⟩ ⟨Nat.le_of_ble_eq_true rfl, rfl, by decide, by decide, rfl, rfl⟩ fl_X10_91 (fun q => ⟨rfl, rfl⟩) dX10_init_231 (fun _ locs hH hS hsz => ?_)
  have hF := hF.z (a := 78) (c := 39) (Nat.le_of_ble_eq_true rfl)
  have hz := hsz.trans hz
  refine lv_aload_n (pc := 234) C0.1 C0.2.1 dX10_init_234 rfl (lv_at hl 0 rfl) ?_
  refine lv_sipush (pc := 235) (v := 1202) C0.1 C0.2.1 dX10_init_235 (by decide) ?_
  refine xnewa (pc := 238) (N := 1202) (t := 0) (ty := .int) C0 (Nat.le_of_ble_eq_true rfl) hH hz hS ac_int rfl ⟨rfl, rfl⟩ ⟨rfl, by decide, trivial⟩ (hF.aI (by decide) rfl) ⟨by decide, by decide⟩ (by decide) ⟨Nat.le_of_ble_eq_true rfl, Nat.le_of_ble_eq_true rfl⟩ (by decide) dX10_init_238 (fun _ hH hz hS => ?_)
  have hF := hF.up (n2 := 106) (Nat.le_of_ble_eq_true rfl)
  refine xputF (pc := 240) C0 (Nat.le_of_ble_eq_true rfl) hnm hH hS 78 41 105 clX10 ⟨Nat.le_of_ble_eq_true rfl, Nat.le_of_ble_eq_true rfl⟩ ⟨rfl, rfl⟩ ⟨Nat.le_of_ble_eq_true rfl, rfl, by decide, by decide, rfl, rfl⟩ fl_X10_94 (fun q => ⟨rfl, rfl⟩) dX10_init_240 (fun _ locs hH hS hsz => ?_)
  have hF := hF.z (a := 78) (c := 41) (Nat.le_of_ble_eq_true rfl)
  have hz := hsz.trans hz
  refine lv_aload_n (pc := 243) C0.1 C0.2.1 dX10_init_243 rfl (lv_at hl 0 rfl) ?_
  refine lv_sipush (pc := 244) (v := 1202) C0.1 C0.2.1 dX10_init_244 (by decide) ?_
  refine xnewa (pc := 247) (N := 1202) (t := 0) (ty := .int) C0 (Nat.le_of_ble_eq_true rfl) hH hz hS ac_int rfl ⟨rfl, rfl⟩ ⟨rfl, by decide, trivial⟩ (hF.aI (by decide) rfl) ⟨by decide, by decide⟩ (by decide) ⟨Nat.le_of_ble_eq_true rfl, Nat.le_of_ble_eq_true rfl⟩ (by decide) dX10_init_247 (fun _ hH hz hS => ?_)
  have hF := hF.up (n2 := 107) (Nat.le_of_ble_eq_true rfl)
  refine xputF (pc := 249) C0 (Nat.le_of_ble_eq_true rfl) hnm hH hS 78 42 106 clX10 ⟨Nat.le_of_ble_eq_true rfl, Nat.le_of_ble_eq_true rfl⟩ ⟨rfl, rfl⟩ ⟨Nat.le_of_ble_eq_true rfl, rfl, by decide, by decide, rfl, rfl⟩ fl_X10_97 (fun q => ⟨rfl, rfl⟩) dX10_init_249 (fun _ locs hH hS hsz => ?_)
  have hF := hF.z (a := 78) (c := 42) (Nat.le_of_ble_eq_true rfl)
  have hz := hsz.trans hz
  refine lv_aload_n (pc := 252) C0.1 C0.2.1 dX10_init_252 rfl (lv_at hl 0 rfl) ?_
  refine lv_sipush (pc := 253) (v := 1202) C0.1 C0.2.1 dX10_init_253 (by decide) ?_
  refine xnewa (pc := 256) (N := 1202) (t := 0) (ty := .int) C0 (Nat.le_of_ble_eq_true rfl) hH hz hS ac_int rfl ⟨rfl, rfl⟩ ⟨rfl, by decide, trivial⟩ (hF.aI (by decide) rfl) ⟨by decide, by decide⟩ (by decide) ⟨Nat.le_of_ble_eq_true rfl, Nat.le_of_ble_eq_true rfl⟩ (by decide) dX10_init_256 (fun _ hH hz hS => ?_)
  have hF := hF.up (n2 := 108) (Nat.le_of_ble_eq_true rfl)
  refine xputF (pc := 258) C0 (Nat.le_of_ble_eq_true rfl) hnm hH hS 78 43 107 clX10 ⟨Nat.le_of_ble_eq_true rfl, Nat.le_of_ble_eq_true rfl⟩ ⟨rfl, rfl⟩ ⟨Nat.le_of_ble_eq_true rfl, rfl, by decide, by decide, rfl, rfl⟩ fl_X10_100 (fun q => ⟨rfl, rfl⟩) dX10_init_258 (fun _ locs hH hS hsz => ?_)
  have hF := hF.z (a := 78) (c := 43) (Nat.le_of_ble_eq_true rfl)
  have hz := hsz.trans hz
  refine lv_aload_n (pc := 261) C0.1 C0.2.1 dX10_init_261 rfl (lv_at hl 0 rfl) ?_
  refine lv_sipush (pc := 262) (v := 1202) C0.1 C0.2.1 dX10_init_262 (by decide) ?_
  refine xnewa (pc := 265) (N := 1202) (t := 0) (ty := .int) C0 (Nat.le_of_ble_eq_true rfl) hH hz hS ac_int rfl ⟨rfl, rfl⟩ ⟨rfl, by decide, trivial⟩ (hF.aI (by decide) rfl) ⟨by decide, by decide⟩ (by decide) ⟨Nat.le_of_ble_eq_true rfl, Nat.le_of_ble_eq_true rfl⟩ (by decide) dX10_init_265 (fun _ hH hz hS => ?_)
  have hF := hF.up (n2 := 109) (Nat.le_of_ble_eq_true rfl)
  refine xputF (pc := 267) C0 (Nat.le_of_ble_eq_true rfl) hnm hH hS 78 44 108 clX10 ⟨Nat.le_of_ble_eq_true rfl, Nat.le_of_ble_eq_true rfl⟩ ⟨rfl, rfl⟩ ⟨Nat.le_of_ble_eq_true rfl, rfl, by decide, by decide, rfl, rfl⟩ fl_X10_103 (fun q => ⟨rfl, rfl⟩) dX10_init_267 (fun _ locs hH hS hsz => ?_)
  have hF := hF.z (a := 78) (c := 44) (Nat.le_of_ble_eq_true rfl)
  have hz := hsz.trans hz
  refine lv_aload_n (pc := 270) C0.1 C0.2.1 dX10_init_270 rfl (lv_at hl 0 rfl) ?_
  refine lv_sipush (pc := 271) (v := 1202) C0.1 C0.2.1 dX10_init_271 (by decide) ?_
  refine xnewa (pc := 274) (N := 1202) (t := 0) (ty := .int) C0 (Nat.le_of_ble_eq_true rfl) hH hz hS ac_int rfl ⟨rfl, rfl⟩ ⟨rfl, by decide, trivial⟩ (hF.aI (by decide) rfl) ⟨by decide, by decide⟩ (by decide) ⟨Nat.le_of_ble_eq_true rfl, Nat.le_of_ble_eq_true rfl⟩ (by decide) dX10_init_274 (fun _ hH hz hS => ?_)
  have hF := hF.up (n2 := 110) (Nat.le_of_ble_eq_true rfl)
  refine xputF (pc := 276) C0 (Nat.le_of_ble_eq_true rfl) hnm hH hS 78 45 109 clX10 ⟨Nat.le_of_ble_eq_true rfl, Nat.le_of_ble_eq_true rfl⟩ ⟨rfl, rfl⟩ ⟨Nat.le_of_ble_eq_true rfl, rfl, by decide, by decide, rfl, rfl⟩ fl_X10_106 (fun q => ⟨rfl, rfl⟩) dX10_init_276 (fun _ locs hH hS hsz => ?_)
  have hF := hF.z (a := 78) (c := 45) (Nat.le_of_ble_eq_true rfl)
  have hz := hsz.trans hz
  refine lv_aload_n (pc := 279) C0.1 C0.2.1 dX10_init_279 rfl (lv_at hl 0 rfl) ?_
  refine lv_sipush (pc := 280) (v := 1202) C0.1 C0.2.1 dX10_init_280 (by decide) ?_
  refine xnewa (pc := 283) (N := 1202) (t := 0) (ty := .int) C0 (Nat.le_of_ble_eq_true rfl) hH hz hS ac_int rfl ⟨rfl, rfl⟩ ⟨rfl, by decide, trivial⟩ (hF.aI (by decide) rfl) ⟨by decide, by decide⟩ (by decide) ⟨Nat.le_of_ble_eq_true rfl, Nat.le_of_ble_eq_true rfl⟩ (by decide) dX10_init_283 (fun _ hH hz hS => ?_)
  have hF := hF.up (n2 := 111) (Nat.le_of_ble_eq_true rfl)
  refine xputF (pc := 285) C0 (Nat.le_of_ble_eq_true rfl) hnm hH hS 78 46 110 clX10 ⟨Nat.le_of_ble_eq_true rfl, Nat.le_of_ble_eq_true rfl⟩ ⟨rfl, rfl⟩ ⟨Nat.le_of_ble_eq_true rfl, rfl, by decide, by decide, rfl, rfl⟩ fl_X10_109 (fun q => ⟨rfl, rfl⟩) dX10_init_285 (fun _ locs hH hS hsz => ?_)
  have hF := hF.z (a := 78) (c := 46) (Nat.le_of_ble_eq_true rfl)
  have hz := hsz.trans hz
  refine lv_aload_n (pc := 288) C0.1 C0.2.1 dX10_init_288 rfl (lv_at hl 0 rfl) ?_
  refine lv_sipush (pc := 289) (v := 1802) C0.1 C0.2.1 dX10_init_289 (by decide) ?_
  refine xnewa (pc := 292) (N := 1802) (t := 0) (ty := .int) C0 (Nat.le_of_ble_eq_true rfl) hH hz hS ac_int rfl ⟨rfl, rfl⟩ ⟨rfl, by decide, trivial⟩ (hF.aI (by decide) rfl) ⟨by decide, by decide⟩ (by decide) ⟨Nat.le_of_ble_eq_true rfl, Nat.le_of_ble_eq_true rfl⟩ (by decide) dX10_init_292 (fun _ hH hz hS => ?_)
  have hF := hF.up (n2 := 112) (Nat.le_of_ble_eq_true rfl)
  refine xputF (pc := 294) C0 (Nat.le_of_ble_eq_true rfl) hnm hH hS 78 48 111 clX10 ⟨Nat.le_of_ble_eq_true rfl, Nat.le_of_ble_eq_true rfl⟩ ⟨rfl, rfl⟩ ⟨Nat.le_of_ble_eq_true rfl, rfl, by decide, by decide, rfl, rfl⟩ fl_X10_112 (fun q => ⟨rfl, rfl⟩) dX10_init_294 (fun _ locs hH hS hsz => ?_)
  have hF := hF.z (a := 78) (c := 48) (Nat.le_of_ble_eq_true rfl)
  have hz := hsz.trans hz
  refine lv_aload_n (pc := 297) C0.1 C0.2.1 dX10_init_297 rfl (lv_at hl 0 rfl) ?_
  refine lv_sipush (pc := 298) (v := 1802) C0.1 C0.2.1 dX10_init_298 (by decide) ?_
  refine xnewa (pc := 301) (N := 1802) (t := 0) (ty := .int) C0 (Nat.le_of_ble_eq_true rfl) hH hz hS ac_int rfl ⟨rfl, rfl⟩ ⟨rfl, by decide, trivial⟩ (hF.aI (by decide) rfl) ⟨by decide, by decide⟩ (by decide) ⟨Nat.le_of_ble_eq_true rfl, Nat.le_of_ble_eq_true rfl⟩ (by decide) dX10_init_301 (fun _ hH hz hS => ?_)
  have hF := hF.up (n2 := 113) (Nat.le_of_ble_eq_true rfl)
  refine xputF (pc := 303) C0 (Nat.le_of_ble_eq_true rfl) hnm hH hS 78 49 112 clX10 ⟨Nat.le_of_ble_eq_true rfl, Nat.le_of_ble_eq_true rfl⟩ ⟨rfl, rfl⟩ ⟨Nat.le_of_ble_eq_true rfl, rfl, by decide, by decide, rfl, rfl⟩ fl_X10_115 (fun q => ⟨rfl, rfl⟩) dX10_init_303 (fun _ locs hH hS hsz => ?_)
  have hF := hF.z (a := 78) (c := 49) (Nat.le_of_ble_eq_true rfl)
  have hz := hsz.trans hz
  refine lv_aload_n (pc := 306) C0.1 C0.2.1 dX10_init_306 rfl (lv_at hl 0 rfl) ?_
  refine lv_sipush (pc := 307) (v := 1202) C0.1 C0.2.1 dX10_init_307 (by decide) ?_
  refine xnewa (pc := 310) (N := 1202) (t := 0) (ty := .int) C0 (Nat.le_of_ble_eq_true rfl) hH hz hS ac_int rfl ⟨rfl, rfl⟩ ⟨rfl, by decide, trivial⟩ (hF.aI (by decide) rfl) ⟨by decide, by decide⟩ (by decide) ⟨Nat.le_of_ble_eq_true rfl, Nat.le_of_ble_eq_true rfl⟩ (by decide) dX10_init_310 (fun _ hH hz hS => ?_)
  have hF := hF.up (n2 := 114) (Nat.le_of_ble_eq_true rfl)
  refine xputF (pc := 312) C0 (Nat.le_of_ble_eq_true rfl) hnm hH hS 78 50 113 clX10 ⟨Nat.le_of_ble_eq_true rfl, Nat.le_of_ble_eq_true rfl⟩ ⟨rfl, rfl⟩ ⟨Nat.le_of_ble_eq_true rfl, rfl, by decide, by decide, rfl, rfl⟩ fl_X10_118 (fun q => ⟨rfl, rfl⟩) dX10_init_312 (fun _ locs hH hS hsz => ?_)
  have hF := hF.z (a := 78) (c := 50) (Nat.le_of_ble_eq_true rfl)
  have hz := hsz.trans hz
  refine lv_aload_n (pc := 315) C0.1 C0.2.1 dX10_init_315 rfl (lv_at hl 0 rfl) ?_
  refine lv_sipush (pc := 316) (v := 4000) C0.1 C0.2.1 dX10_init_316 (by decide) ?_
  refine xnewa (pc := 319) (N := 4000) (t := 1) (ty := .byte) C0 (Nat.le_of_ble_eq_true rfl) hH hz hS ac_byte rfl ⟨rfl, rfl⟩ ⟨rfl, by decide, trivial⟩ (hF.aI (by decide) rfl) ⟨by decide, by decide⟩ (by decide) ⟨Nat.le_of_ble_eq_true rfl, Nat.le_of_ble_eq_true rfl⟩ (by decide) dX10_init_319 (fun _ hH hz hS => ?_)
  have hF := hF.up (n2 := 115) (Nat.le_of_ble_eq_true rfl)
  refine xputF (pc := 321) C0 (Nat.le_of_ble_eq_true rfl) hnm hH hS 78 53 114 clX10 ⟨Nat.le_of_ble_eq_true rfl, Nat.le_of_ble_eq_true rfl⟩ ⟨rfl, rfl⟩ ⟨Nat.le_of_ble_eq_true rfl, rfl, by decide, by decide, rfl, rfl⟩ fl_X10_121 (fun q => ⟨rfl, rfl⟩) dX10_init_321 (fun _ locs hH hS hsz => ?_)
  have hF := hF.z (a := 78) (c := 53) (Nat.le_of_ble_eq_true rfl)
  have hz := hsz.trans hz
  refine lv_aload_n (pc := 324) C0.1 C0.2.1 dX10_init_324 rfl (lv_at hl 0 rfl) ?_
  refine lv_sipush (pc := 325) (v := 4000) C0.1 C0.2.1 dX10_init_325 (by decide) ?_
  refine xnewa (pc := 328) (N := 4000) (t := 1) (ty := .byte) C0 (Nat.le_of_ble_eq_true rfl) hH hz hS ac_byte rfl ⟨rfl, rfl⟩ ⟨rfl, by decide, trivial⟩ (hF.aI (by decide) rfl) ⟨by decide, by decide⟩ (by decide) ⟨Nat.le_of_ble_eq_true rfl, Nat.le_of_ble_eq_true rfl⟩ (by decide) dX10_init_328 (fun _ hH hz hS => ?_)
  have hF := hF.up (n2 := 116) (Nat.le_of_ble_eq_true rfl)
  refine xputF (pc := 330) C0 (Nat.le_of_ble_eq_true rfl) hnm hH hS 78 55 115 clX10 ⟨Nat.le_of_ble_eq_true rfl, Nat.le_of_ble_eq_true rfl⟩ ⟨rfl, rfl⟩ ⟨Nat.le_of_ble_eq_true rfl, rfl, by decide, by decide, rfl, rfl⟩ fl_X10_124 (fun q => ⟨rfl, rfl⟩) dX10_init_330 (fun _ locs hH hS hsz => ?_)
  have hF := hF.z (a := 78) (c := 55) (Nat.le_of_ble_eq_true rfl)
  have hz := hsz.trans hz
  refine lv_aload_n (pc := 333) C0.1 C0.2.1 dX10_init_333 rfl (lv_at hl 0 rfl) ?_
  refine lv_sipush (pc := 334) (v := 1202) C0.1 C0.2.1 dX10_init_334 (by decide) ?_
  refine xnewa (pc := 337) (N := 1202) (t := 0) (ty := .int) C0 (Nat.le_of_ble_eq_true rfl) hH hz hS ac_int rfl ⟨rfl, rfl⟩ ⟨rfl, by decide, trivial⟩ (hF.aI (by decide) rfl) ⟨by decide, by decide⟩ (by decide) ⟨Nat.le_of_ble_eq_true rfl, Nat.le_of_ble_eq_true rfl⟩ (by decide) dX10_init_337 (fun _ hH hz hS => ?_)
  have hF := hF.up (n2 := 117) (Nat.le_of_ble_eq_true rfl)
  refine xputF (pc := 339) C0 (Nat.le_of_ble_eq_true rfl) hnm hH hS 78 57 116 clX10 ⟨Nat.le_of_ble_eq_true rfl, Nat.le_of_ble_eq_true rfl⟩ ⟨rfl, rfl⟩ ⟨Nat.le_of_ble_eq_true rfl, rfl, by decide, by decide, rfl, rfl⟩ fl_X10_127 (fun q => ⟨rfl, rfl⟩) dX10_init_339 (fun _ locs hH hS hsz => ?_)
  have hF := hF.z (a := 78) (c := 57) (Nat.le_of_ble_eq_true rfl)
  have hz := hsz.trans hz
  refine lv_aload_n (pc := 342) C0.1 C0.2.1 dX10_init_342 rfl (lv_at hl 0 rfl) ?_
  refine lv_sipush (pc := 343) (v := 1202) C0.1 C0.2.1 dX10_init_343 (by decide) ?_
  refine xnewa (pc := 346) (N := 1202) (t := 0) (ty := .int) C0 (Nat.le_of_ble_eq_true rfl) hH hz hS ac_int rfl ⟨rfl, rfl⟩ ⟨rfl, by decide, trivial⟩ (hF.aI (by decide) rfl) ⟨by decide, by decide⟩ (by decide) ⟨Nat.le_of_ble_eq_true rfl, Nat.le_of_ble_eq_true rfl⟩ (by decide) dX10_init_346 (fun _ hH hz hS => ?_)
  have hF := hF.up (n2 := 118) (Nat.le_of_ble_eq_true rfl)
  refine xputF (pc := 348) C0 (Nat.le_of_ble_eq_true rfl) hnm hH hS 78 58 117 clX10 ⟨Nat.le_of_ble_eq_true rfl, Nat.le_of_ble_eq_true rfl⟩ ⟨rfl, rfl⟩ ⟨Nat.le_of_ble_eq_true rfl, rfl, by decide, by decide, rfl, rfl⟩ fl_X10_130 (fun q => ⟨rfl, rfl⟩) dX10_init_348 (fun _ locs hH hS hsz => ?_)
  have hF := hF.z (a := 78) (c := 58) (Nat.le_of_ble_eq_true rfl)
  have hz := hsz.trans hz
  refine lv_aload_n (pc := 351) C0.1 C0.2.1 dX10_init_351 rfl (lv_at hl 0 rfl) ?_
  refine lv_sipush (pc := 352) (v := 1202) C0.1 C0.2.1 dX10_init_352 (by decide) ?_
  refine xnewa (pc := 355) (N := 1202) (t := 0) (ty := .int) C0 (Nat.le_of_ble_eq_true rfl) hH hz hS ac_int rfl ⟨rfl, rfl⟩ ⟨rfl, by decide, trivial⟩ (hF.aI (by decide) rfl) ⟨by decide, by decide⟩ (by decide) ⟨Nat.le_of_ble_eq_true rfl, Nat.le_of_ble_eq_true rfl⟩ (by decide) dX10_init_355 (fun _ hH hz hS => ?_)
  have hF := hF.up (n2 := 119) (Nat.le_of_ble_eq_true rfl)
  refine xputF (pc := 357) C0 (Nat.le_of_ble_eq_true rfl) hnm hH hS 78 59 118 clX10 ⟨Nat.le_of_ble_eq_true rfl, Nat.le_of_ble_eq_true rfl⟩ ⟨rfl, rfl⟩ ⟨Nat.le_of_ble_eq_true rfl, rfl, by decide, by decide, rfl, rfl⟩ fl_X10_133 (fun q => ⟨rfl, rfl⟩) dX10_init_357 (fun _ locs hH hS hsz => ?_)
  have hF := hF.z (a := 78) (c := 59) (Nat.le_of_ble_eq_true rfl)
  have hz := hsz.trans hz
  refine lv_aload_n (pc := 360) C0.1 C0.2.1 dX10_init_360 rfl (lv_at hl 0 rfl) ?_
  refine lv_sipush (pc := 361) (v := 1202) C0.1 C0.2.1 dX10_init_361 (by decide) ?_
  refine xnewa (pc := 364) (N := 1202) (t := 0) (ty := .int) C0 (Nat.le_of_ble_eq_true rfl) hH hz hS ac_int rfl ⟨rfl, rfl⟩ ⟨rfl, by decide, trivial⟩ (hF.aI (by decide) rfl) ⟨by decide, by decide⟩ (by decide) ⟨Nat.le_of_ble_eq_true rfl, Nat.le_of_ble_eq_true rfl⟩ (by decide) dX10_init_364 (fun _ hH hz hS => ?_)
  have hF := hF.up (n2 := 120) (Nat.le_of_ble_eq_true rfl)
  refine xputF (pc := 366) C0 (Nat.le_of_ble_eq_true rfl) hnm hH hS 78 60 119 clX10 ⟨Nat.le_of_ble_eq_true rfl, Nat.le_of_ble_eq_true rfl⟩ ⟨rfl, rfl⟩ ⟨Nat.le_of_ble_eq_true rfl, rfl, by decide, by decide, rfl, rfl⟩ fl_X10_136 (fun q => ⟨rfl, rfl⟩) dX10_init_366 (fun _ locs hH hS hsz => ?_)
  have hF := hF.z (a := 78) (c := 60) (Nat.le_of_ble_eq_true rfl)
  have hz := hsz.trans hz
  refine lv_aload_n (pc := 369) C0.1 C0.2.1 dX10_init_369 rfl (lv_at hl 0 rfl) ?_
  refine lv_sipush (pc := 370) (v := 1202) C0.1 C0.2.1 dX10_init_370 (by decide) ?_
  refine xnewa (pc := 373) (N := 1202) (t := 0) (ty := .int) C0 (Nat.le_of_ble_eq_true rfl) hH hz hS ac_int rfl ⟨rfl, rfl⟩ ⟨rfl, by decide, trivial⟩ (hF.aI (by decide) rfl) ⟨by decide, by decide⟩ (by decide) ⟨Nat.le_of_ble_eq_true rfl, Nat.le_of_ble_eq_true rfl⟩ (by decide) dX10_init_373 (fun _ hH hz hS => ?_)
  have hF := hF.up (n2 := 121) (Nat.le_of_ble_eq_true rfl)
  refine xputF (pc := 375) C0 (Nat.le_of_ble_eq_true rfl) hnm hH hS 78 61 120 clX10 ⟨Nat.le_of_ble_eq_true rfl, Nat.le_of_ble_eq_true rfl⟩ ⟨rfl, rfl⟩ ⟨Nat.le_of_ble_eq_true rfl, rfl, by decide, by decide, rfl, rfl⟩ fl_X10_139 (fun q => ⟨rfl, rfl⟩) dX10_init_375 (fun _ locs hH hS hsz => ?_)
  have hF := hF.z (a := 78) (c := 61) (Nat.le_of_ble_eq_true rfl)
  have hz := hsz.trans hz
  refine lv_aload_n (pc := 378) C0.1 C0.2.1 dX10_init_378 rfl (lv_at hl 0 rfl) ?_
  refine lv_sipush (pc := 379) (v := 1202) C0.1 C0.2.1 dX10_init_379 (by decide) ?_
  refine xnewa (pc := 382) (N := 1202) (t := 2) (ty := .boolean) C0 (Nat.le_of_ble_eq_true rfl) hH hz hS ac_boolean rfl ⟨rfl, rfl⟩ ⟨rfl, by decide, trivial⟩ (hF.aI (by decide) rfl) ⟨by decide, by decide⟩ (by decide) ⟨Nat.le_of_ble_eq_true rfl, Nat.le_of_ble_eq_true rfl⟩ (by decide) dX10_init_382 (fun _ hH hz hS => ?_)
  have hF := hF.up (n2 := 122) (Nat.le_of_ble_eq_true rfl)
  refine xputF (pc := 384) C0 (Nat.le_of_ble_eq_true rfl) hnm hH hS 78 62 121 clX10 ⟨Nat.le_of_ble_eq_true rfl, Nat.le_of_ble_eq_true rfl⟩ ⟨rfl, rfl⟩ ⟨Nat.le_of_ble_eq_true rfl, rfl, by decide, by decide, rfl, rfl⟩ fl_X10_142 (fun q => ⟨rfl, rfl⟩) dX10_init_384 (fun _ locs hH hS hsz => ?_)
  have hF := hF.z (a := 78) (c := 62) (Nat.le_of_ble_eq_true rfl)
  have hz := hsz.trans hz
  refine lv_aload_n (pc := 387) C0.1 C0.2.1 dX10_init_387 rfl (lv_at hl 0 rfl) ?_
  refine lv_sipush (pc := 388) (v := 600) C0.1 C0.2.1 dX10_init_388 (by decide) ?_
  refine xnewa (pc := 391) (N := 600) (t := 0) (ty := .int) C0 (Nat.le_of_ble_eq_true rfl) hH hz hS ac_int rfl ⟨rfl, rfl⟩ ⟨rfl, by decide, trivial⟩ (hF.aI (by decide) rfl) ⟨by decide, by decide⟩ (by decide) ⟨Nat.le_of_ble_eq_true rfl, Nat.le_of_ble_eq_true rfl⟩ (by decide) dX10_init_391 (fun _ hH hz hS => ?_)
  have hF := hF.up (n2 := 123) (Nat.le_of_ble_eq_true rfl)
  refine xputF (pc := 393) C0 (Nat.le_of_ble_eq_true rfl) hnm hH hS 78 69 122 clX10 ⟨Nat.le_of_ble_eq_true rfl, Nat.le_of_ble_eq_true rfl⟩ ⟨rfl, rfl⟩ ⟨Nat.le_of_ble_eq_true rfl, rfl, by decide, by decide, rfl, rfl⟩ fl_X10_145 (fun q => ⟨rfl, rfl⟩) dX10_init_393 (fun _ locs hH hS hsz => ?_)
  have hF := hF.z (a := 78) (c := 69) (Nat.le_of_ble_eq_true rfl)
  have hz := hsz.trans hz
  refine lv_aload_n (pc := 396) C0.1 C0.2.1 dX10_init_396 rfl (lv_at hl 0 rfl) ?_
  refine lv_sipush (pc := 397) (v := 600) C0.1 C0.2.1 dX10_init_397 (by decide) ?_
  refine xnewa (pc := 400) (N := 600) (t := 0) (ty := .int) C0 (Nat.le_of_ble_eq_true rfl) hH hz hS ac_int rfl ⟨rfl, rfl⟩ ⟨rfl, by decide, trivial⟩ (hF.aI (by decide) rfl) ⟨by decide, by decide⟩ (by decide) ⟨Nat.le_of_ble_eq_true rfl, Nat.le_of_ble_eq_true rfl⟩ (by decide) dX10_init_400 (fun _ hH hz hS => ?_)
  have hF := hF.up (n2 := 124) (Nat.le_of_ble_eq_true rfl)
  refine xputF (pc := 402) C0 (Nat.le_of_ble_eq_true rfl) hnm hH hS 78 70 123 clX10 ⟨Nat.le_of_ble_eq_true rfl, Nat.le_of_ble_eq_true rfl⟩ ⟨rfl, rfl⟩ ⟨Nat.le_of_ble_eq_true rfl, rfl, by decide, by decide, rfl, rfl⟩ fl_X10_148 (fun q => ⟨rfl, rfl⟩) dX10_init_402 (fun _ locs hH hS hsz => ?_)
  have hF := hF.z (a := 78) (c := 70) (Nat.le_of_ble_eq_true rfl)
  have hz := hsz.trans hz
  refine lv_aload_n (pc := 405) C0.1 C0.2.1 dX10_init_405 rfl (lv_at hl 0 rfl) ?_
  refine lv_sipush (pc := 406) (v := 600) C0.1 C0.2.1 dX10_init_406 (by decide) ?_
  refine xnewa (pc := 409) (N := 600) (t := 0) (ty := .int) C0 (Nat.le_of_ble_eq_true rfl) hH hz hS ac_int rfl ⟨rfl, rfl⟩ ⟨rfl, by decide, trivial⟩ (hF.aI (by decide) rfl) ⟨by decide, by decide⟩ (by decide) ⟨Nat.le_of_ble_eq_true rfl, Nat.le_of_ble_eq_true rfl⟩ (by decide) dX10_init_409 (fun _ hH hz hS => ?_)
  have hF := hF.up (n2 := 125) (Nat.le_of_ble_eq_true rfl)
  refine xputF (pc := 411) C0 (Nat.le_of_ble_eq_true rfl) hnm hH hS 78 71 124 clX10 ⟨Nat.le_of_ble_eq_true rfl, Nat.le_of_ble_eq_true rfl⟩ ⟨rfl, rfl⟩ ⟨Nat.le_of_ble_eq_true rfl, rfl, by decide, by decide, rfl, rfl⟩ fl_X10_151 (fun q => ⟨rfl, rfl⟩) dX10_init_411 (fun _ locs hH hS hsz => ?_)
  have hF := hF.z (a := 78) (c := 71) (Nat.le_of_ble_eq_true rfl)
  have hz := hsz.trans hz
  refine lv_aload_n (pc := 414) C0.1 C0.2.1 dX10_init_414 rfl (lv_at hl 0 rfl) ?_
  refine lv_sipush (pc := 415) (v := 1202) C0.1 C0.2.1 dX10_init_415 (by decide) ?_
  refine xnewa (pc := 418) (N := 1202) (t := 0) (ty := .int) C0 (Nat.le_of_ble_eq_true rfl) hH hz hS ac_int rfl ⟨rfl, rfl⟩ ⟨rfl, by decide, trivial⟩ (hF.aI (by decide) rfl) ⟨by decide, by decide⟩ (by decide) ⟨Nat.le_of_ble_eq_true rfl, Nat.le_of_ble_eq_true rfl⟩ (by decide) dX10_init_418 (fun _ hH hz hS => ?_)
  have hF := hF.up (n2 := 126) (Nat.le_of_ble_eq_true rfl)
  refine xputF (pc := 420) C0 (Nat.le_of_ble_eq_true rfl) hnm hH hS 78 72 125 clX10 ⟨Nat.le_of_ble_eq_true rfl, Nat.le_of_ble_eq_true rfl⟩ ⟨rfl, rfl⟩ ⟨Nat.le_of_ble_eq_true rfl, rfl, by decide, by decide, rfl, rfl⟩ fl_X10_154 (fun q => ⟨rfl, rfl⟩) dX10_init_420 (fun _ locs hH hS hsz => ?_)
  have hF := hF.z (a := 78) (c := 72) (Nat.le_of_ble_eq_true rfl)
  have hz := hsz.trans hz
  refine lv_aload_n (pc := 423) C0.1 C0.2.1 dX10_init_423 rfl (lv_at hl 0 rfl) ?_
  refine lv_sipush (pc := 424) (v := 1202) C0.1 C0.2.1 dX10_init_424 (by decide) ?_
  refine xnewa (pc := 427) (N := 1202) (t := 0) (ty := .int) C0 (Nat.le_of_ble_eq_true rfl) hH hz hS ac_int rfl ⟨rfl, rfl⟩ ⟨rfl, by decide, trivial⟩ (hF.aI (by decide) rfl) ⟨by decide, by decide⟩ (by decide) ⟨Nat.le_of_ble_eq_true rfl, Nat.le_of_ble_eq_true rfl⟩ (by decide) dX10_init_427 (fun _ hH hz hS => ?_)
  have hF := hF.up (n2 := 127) (Nat.le_of_ble_eq_true rfl)
  refine xputF (pc := 429) C0 (Nat.le_of_ble_eq_true rfl) hnm hH hS 78 73 126 clX10 ⟨Nat.le_of_ble_eq_true rfl, Nat.le_of_ble_eq_true rfl⟩ ⟨rfl, rfl⟩ ⟨Nat.le_of_ble_eq_true rfl, rfl, by decide, by decide, rfl, rfl⟩ fl_X10_157 (fun q => ⟨rfl, rfl⟩) dX10_init_429 (fun _ locs hH hS hsz => ?_)
  have hF := hF.z (a := 78) (c := 73) (Nat.le_of_ble_eq_true rfl)
  have hz := hsz.trans hz
  refine lv_aload_n (pc := 432) C0.1 C0.2.1 dX10_init_432 rfl (lv_at hl 0 rfl) ?_
  refine lv_sipush (pc := 433) (v := 1202) C0.1 C0.2.1 dX10_init_433 (by decide) ?_
  refine xnewa (pc := 436) (N := 1202) (t := 0) (ty := .int) C0 (Nat.le_of_ble_eq_true rfl) hH hz hS ac_int rfl ⟨rfl, rfl⟩ ⟨rfl, by decide, trivial⟩ (hF.aI (by decide) rfl) ⟨by decide, by decide⟩ (by decide) ⟨Nat.le_of_ble_eq_true rfl, Nat.le_of_ble_eq_true rfl⟩ (by decide) dX10_init_436 (fun _ hH hz hS => ?_)
  have hF := hF.up (n2 := 128) (Nat.le_of_ble_eq_true rfl)
  refine xputF (pc := 438) C0 (Nat.le_of_ble_eq_true rfl) hnm hH hS 78 74 127 clX10 ⟨Nat.le_of_ble_eq_true rfl, Nat.le_of_ble_eq_true rfl⟩ ⟨rfl, rfl⟩ ⟨Nat.le_of_ble_eq_true rfl, rfl, by decide, by decide, rfl, rfl⟩ fl_X10_160 (fun q => ⟨rfl, rfl⟩) dX10_init_438 (fun _ locs hH hS hsz => ?_)
  have hF := hF.z (a := 78) (c := 74) (Nat.le_of_ble_eq_true rfl)
  have hz := hsz.trans hz
  refine lv_aload_n (pc := 441) C0.1 C0.2.1 dX10_init_441 rfl (lv_at hl 0 rfl) ?_
  refine lv_iconst (pc := 442) (v := 2) C0.1 C0.2.1 dX10_init_442 (by decide) ?_
  refine xnewa (pc := 443) (N := 2) (t := 0) (ty := .int) C0 (Nat.le_of_ble_eq_true rfl) hH hz hS ac_int rfl ⟨rfl, rfl⟩ ⟨rfl, by decide, trivial⟩ (hF.aI (by decide) rfl) ⟨by decide, by decide⟩ (by decide) ⟨Nat.le_of_ble_eq_true rfl, Nat.le_of_ble_eq_true rfl⟩ (by decide) dX10_init_443 (fun _ hH hz hS => ?_)
  have hF := hF.up (n2 := 129) (Nat.le_of_ble_eq_true rfl)
  refine xputF (pc := 445) C0 (Nat.le_of_ble_eq_true rfl) hnm hH hS 78 75 128 clX10 ⟨Nat.le_of_ble_eq_true rfl, Nat.le_of_ble_eq_true rfl⟩ ⟨rfl, rfl⟩ ⟨Nat.le_of_ble_eq_true rfl, rfl, by decide, by decide, rfl, rfl⟩ fl_X10_163 (fun q => ⟨rfl, rfl⟩) dX10_init_445 (fun _ locs hH hS hsz => ?_)
  have hF := hF.z (a := 78) (c := 75) (Nat.le_of_ble_eq_true rfl)
  have hz := hsz.trans hz
  refine lv_aload_n (pc := 448) C0.1 C0.2.1 dX10_init_448 rfl (lv_at hl 0 rfl) ?_
  refine lv_sipush (pc := 449) (v := 200) C0.1 C0.2.1 dX10_init_449 (by decide) ?_
  refine xnewa (pc := 452) (N := 200) (t := 0) (ty := .int) C0 (Nat.le_of_ble_eq_true rfl) hH hz hS ac_int rfl ⟨rfl, rfl⟩ ⟨rfl, by decide, trivial⟩ (hF.aI (by decide) rfl) ⟨by decide, by decide⟩ (by decide) ⟨Nat.le_of_ble_eq_true rfl, Nat.le_of_ble_eq_true rfl⟩ (by decide) dX10_init_452 (fun _ hH hz hS => ?_)
  have hF := hF.up (n2 := 130) (Nat.le_of_ble_eq_true rfl)
  refine xputF (pc := 454) C0 (Nat.le_of_ble_eq_true rfl) hnm hH hS 78 77 129 clX10 ⟨Nat.le_of_ble_eq_true rfl, Nat.le_of_ble_eq_true rfl⟩ ⟨rfl, rfl⟩ ⟨Nat.le_of_ble_eq_true rfl, rfl, by decide, by decide, rfl, rfl⟩ fl_X10_166 (fun q => ⟨rfl, rfl⟩) dX10_init_454 (fun _ locs hH hS hsz => ?_)
  have hF := hF.z (a := 78) (c := 77) (Nat.le_of_ble_eq_true rfl)
  have hz := hsz.trans hz
  refine lv_aload_n (pc := 457) C0.1 C0.2.1 dX10_init_457 rfl (lv_at hl 0 rfl) ?_
  refine xget (pc := 458) C0 hH 78 16 clX10 ⟨Nat.le_of_ble_eq_true rfl, Nat.le_of_ble_eq_true rfl⟩ ⟨rfl, rfl⟩ (Nat.le_of_ble_eq_true rfl) fl_X10_36 (v := .ref (b + 87)) rfl dX10_init_458 ?_
  refine lv_iconst (pc := 461) (v := 1) C0.1 C0.2.1 dX10_init_461 (by decide) ?_
  refine lv_bipush (pc := 462) (v := (-9)) C0.1 C0.2.1 dX10_init_462 (by decide) ?_
  refine xiast (pc := 464) C0 (Nat.le_of_ble_eq_true rfl) hH hS 87 ⟨Nat.le_of_ble_eq_true rfl, Nat.le_of_ble_eq_true rfl⟩ ⟨rfl, rfl⟩ (vin (by decide)) dX10_init_464 (fun _ locs hH hS hsz => ?_)
  have hF := hF.f (a := 87) (g := (upd (F 87) (Int32.toNatClampNeg 1) (-9))) (Nat.le_of_ble_eq_true rfl)
  have hz := hsz.trans hz
  refine lv_aload_n (pc := 465) C0.1 C0.2.1 dX10_init_465 rfl (lv_at hl 0 rfl) ?_
  refine xget (pc := 466) C0 hH 78 16 clX10 ⟨Nat.le_of_ble_eq_true rfl, Nat.le_of_ble_eq_true rfl⟩ ⟨rfl, rfl⟩ (Nat.le_of_ble_eq_true rfl) fl_X10_36 (v := .ref (b + 87)) rfl dX10_init_466 ?_
  refine lv_iconst (pc := 469) (v := 2) C0.1 C0.2.1 dX10_init_469 (by decide) ?_
  refine lv_bipush (pc := 470) (v := (-9)) C0.1 C0.2.1 dX10_init_470 (by decide) ?_
  refine xiast (pc := 472) C0 (Nat.le_of_ble_eq_true rfl) hH hS 87 ⟨Nat.le_of_ble_eq_true rfl, Nat.le_of_ble_eq_true rfl⟩ ⟨rfl, rfl⟩ (vin (by decide)) dX10_init_472 (fun _ locs hH hS hsz => ?_)
  have hF := hF.f (a := 87) (g := (upd ((va_up F 87 (upd (F 87) (Int32.toNatClampNeg 1) (-9))) 87) (Int32.toNatClampNeg 2) (-9))) (Nat.le_of_ble_eq_true rfl)
  have hz := hsz.trans hz
  refine lv_aload_n (pc := 473) C0.1 C0.2.1 dX10_init_473 rfl (lv_at hl 0 rfl) ?_
  refine xget (pc := 474) C0 hH 78 16 clX10 ⟨Nat.le_of_ble_eq_true rfl, Nat.le_of_ble_eq_true rfl⟩ ⟨rfl, rfl⟩ (Nat.le_of_ble_eq_true rfl) fl_X10_36 (v := .ref (b + 87)) rfl dX10_init_474 ?_
  refine lv_iconst (pc := 477) (v := 3) C0.1 C0.2.1 dX10_init_477 (by decide) ?_
  refine lv_bipush (pc := 478) (v := (-9)) C0.1 C0.2.1 dX10_init_478 (by decide) ?_
  refine xiast (pc := 480) C0 (Nat.le_of_ble_eq_true rfl) hH hS 87 ⟨Nat.le_of_ble_eq_true rfl, Nat.le_of_ble_eq_true rfl⟩ ⟨rfl, rfl⟩ (vin (by decide)) dX10_init_480 (fun _ locs hH hS hsz => ?_)
  have hF := hF.f (a := 87) (g := (upd ((va_up (va_up F 87 (upd (F 87) (Int32.toNatClampNeg 1) (-9))) 87 (upd ((va_up F 87 (upd (F 87) (Int32.toNatClampNeg 1) (-9))) 87) (Int32.toNatClampNeg 2) (-9))) 87) (Int32.toNatClampNeg 3) (-9))) (Nat.le_of_ble_eq_true rfl)
  have hz := hsz.trans hz
  refine lv_aload_n (pc := 481) C0.1 C0.2.1 dX10_init_481 rfl (lv_at hl 0 rfl) ?_
  refine xget (pc := 482) C0 hH 78 75 clX10 ⟨Nat.le_of_ble_eq_true rfl, Nat.le_of_ble_eq_true rfl⟩ ⟨rfl, rfl⟩ (Nat.le_of_ble_eq_true rfl) fl_X10_163 (v := .ref (b + 128)) rfl dX10_init_482 ?_
  refine lv_iconst (pc := 485) (v := 0) C0.1 C0.2.1 dX10_init_485 (by decide) ?_
  refine lv_bipush (pc := 486) (v := (-9)) C0.1 C0.2.1 dX10_init_486 (by decide) ?_
  refine xiast (pc := 488) C0 (Nat.le_of_ble_eq_true rfl) hH hS 128 ⟨Nat.le_of_ble_eq_true rfl, Nat.le_of_ble_eq_true rfl⟩ ⟨rfl, rfl⟩ (vin (by decide)) dX10_init_488 (fun _ locs hH hS hsz => ?_)
  have hF := hF.f (a := 128) (g := (upd ((va_up (va_up (va_up F 87 (upd (F 87) (Int32.toNatClampNeg 1) (-9))) 87 (upd ((va_up F 87 (upd (F 87) (Int32.toNatClampNeg 1) (-9))) 87) (Int32.toNatClampNeg 2) (-9))) 87 (upd ((va_up (va_up F 87 (upd (F 87) (Int32.toNatClampNeg 1) (-9))) 87 (upd ((va_up F 87 (upd (F 87) (Int32.toNatClampNeg 1) (-9))) 87) (Int32.toNatClampNeg 2) (-9))) 87) (Int32.toNatClampNeg 3) (-9))) 128) (Int32.toNatClampNeg 0) (-9))) (Nat.le_of_ble_eq_true rfl)
  have hz := hsz.trans hz
  refine lv_aload_n (pc := 489) C0.1 C0.2.1 dX10_init_489 rfl (lv_at hl 0 rfl) ?_
  refine xget (pc := 490) C0 hH 78 75 clX10 ⟨Nat.le_of_ble_eq_true rfl, Nat.le_of_ble_eq_true rfl⟩ ⟨rfl, rfl⟩ (Nat.le_of_ble_eq_true rfl) fl_X10_163 (v := .ref (b + 128)) rfl dX10_init_490 ?_
  refine lv_iconst (pc := 493) (v := 1) C0.1 C0.2.1 dX10_init_493 (by decide) ?_
  refine lv_bipush (pc := 494) (v := (-9)) C0.1 C0.2.1 dX10_init_494 (by decide) ?_
  refine xiast (pc := 496) C0 (Nat.le_of_ble_eq_true rfl) hH hS 128 ⟨Nat.le_of_ble_eq_true rfl, Nat.le_of_ble_eq_true rfl⟩ ⟨rfl, rfl⟩ (vin (by decide)) dX10_init_496 (fun _ locs hH hS hsz => ?_)
  have hF := hF.f (a := 128) (g := (upd ((va_up (va_up (va_up (va_up F 87 (upd (F 87) (Int32.toNatClampNeg 1) (-9))) 87 (upd ((va_up F 87 (upd (F 87) (Int32.toNatClampNeg 1) (-9))) 87) (Int32.toNatClampNeg 2) (-9))) 87 (upd ((va_up (va_up F 87 (upd (F 87) (Int32.toNatClampNeg 1) (-9))) 87 (upd ((va_up F 87 (upd (F 87) (Int32.toNatClampNeg 1) (-9))) 87) (Int32.toNatClampNeg 2) (-9))) 87) (Int32.toNatClampNeg 3) (-9))) 128 (upd ((va_up (va_up (va_up F 87 (upd (F 87) (Int32.toNatClampNeg 1) (-9))) 87 (upd ((va_up F 87 (upd (F 87) (Int32.toNatClampNeg 1) (-9))) 87) (Int32.toNatClampNeg 2) (-9))) 87 (upd ((va_up (va_up F 87 (upd (F 87) (Int32.toNatClampNeg 1) (-9))) 87 (upd ((va_up F 87 (upd (F 87) (Int32.toNatClampNeg 1) (-9))) 87) (Int32.toNatClampNeg 2) (-9))) 87) (Int32.toNatClampNeg 3) (-9))) 128) (Int32.toNatClampNeg 0) (-9))) 128) (Int32.toNatClampNeg 1) (-9))) (Nat.le_of_ble_eq_true rfl)
  have hz := hsz.trans hz
  refine W.widen (k := 51) (n := 48490) (by decide) (by decide) ?_
  exact xcret C0 hr hH hz hS dX10_init_497
