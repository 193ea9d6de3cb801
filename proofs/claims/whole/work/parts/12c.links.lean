set_option maxRecDepth 20000 in
theorem kL_7 : Cond.classLink RL 7 RX11 ∈ q_tb := (q_w 112 (by decide +kernel) (by decide +kernel))
set_option maxRecDepth 20000 in
theorem nL_7 : q_LN RL 7 11 12 := ⟨RX11, TX11, q_ClX11, kL_7, (q_w 113 (by decide +kernel) (by decide +kernel)), (q_w 92 (by decide +kernel) (by decide +kernel)), by decide +kernel⟩
set_option maxRecDepth 20000 in
theorem lL_9 : q_LI RL 9 mX11_init 0 := ⟨okX11_init, (q_w 114 (by decide +kernel) (by decide +kernel)), (q_w 115 (by decide +kernel) (by decide +kernel)), rfl, rfl⟩
set_option maxRecDepth 20000 in
theorem lX11_1 : Cond.methodLink RX11 1 Lib.objectInit ∈ q_tb := (q_w 117 (by decide +kernel) (by decide +kernel))
set_option maxRecDepth 20000 in
theorem kX11_7 : Cond.classLink RX11 7 RX1 ∈ q_tb := (q_w 120 (by decide +kernel) (by decide +kernel))
set_option maxRecDepth 20000 in
theorem nX11_7 : q_LN RX11 7 1 14 := ⟨RX1, TX1, q_ClX1, kX11_7, (q_w 121 (by decide +kernel) (by decide +kernel)), (q_w 93 (by decide +kernel) (by decide +kernel)), by decide +kernel⟩
set_option maxRecDepth 20000 in
theorem lX11_9 : q_LI RX11 9 mX1_init 0 := ⟨okX1_init, (q_w 122 (by decide +kernel) (by decide +kernel)), (q_w 123 (by decide +kernel) (by decide +kernel)), rfl, rfl⟩
set_option maxRecDepth 20000 in
theorem lX1_3 : Cond.methodLink RX1 3 Lib.objectInit ∈ q_tb := (q_w 125 (by decide +kernel) (by decide +kernel))
set_option maxRecDepth 20000 in
theorem kX1_34 : Cond.classLink RX1 34 RX4 ∈ q_tb := (q_w 126 (by decide +kernel) (by decide +kernel))
set_option maxRecDepth 20000 in
theorem nX1_34 : q_LN RX1 34 4 10 := ⟨RX4, TX4, q_ClX4, kX1_34, (q_w 227 (by decide +kernel) (by decide +kernel)), (q_w 97 (by decide +kernel) (by decide +kernel)), by decide +kernel⟩
set_option maxRecDepth 20000 in
theorem kX1_40 : Cond.classLink RX1 40 RX8 ∈ q_tb := (q_w 128 (by decide +kernel) (by decide +kernel))
set_option maxRecDepth 20000 in
theorem nX1_40 : q_LN RX1 40 8 6 := ⟨RX8, TX8, q_ClX8, kX1_40, (q_w 129 (by decide +kernel) (by decide +kernel)), (q_w 94 (by decide +kernel) (by decide +kernel)), by decide +kernel⟩
set_option maxRecDepth 20000 in
theorem lX1_42 : q_LIN RX1 42 mX8_init 0 := ⟨okX8_init, (q_wn 130 (by decide +kernel)), (q_w 131 (by decide +kernel) (by decide +kernel)), rfl, rfl⟩
set_option maxRecDepth 20000 in
theorem lX8_3 : Cond.methodLink RX8 3 Lib.objectInit ∈ q_tb := (q_w 133 (by decide +kernel) (by decide +kernel))
set_option maxRecDepth 20000 in
theorem fX8_28 : q_F RX8 28 8 0 6 false := ⟨RX8, TX8, q_ClX8, by decide, (q_w 134 (by decide +kernel) (by decide +kernel)), rfl⟩
set_option maxRecDepth 20000 in
theorem fX10_65 : q_F RX10 65 8 0 6 false := ⟨RX8, TX8, q_ClX8, by decide, (q_w 135 (by decide +kernel) (by decide +kernel)), rfl⟩
set_option maxRecDepth 20000 in
theorem fX1_212 : q_F RX1 212 8 0 6 false := ⟨RX8, TX8, q_ClX8, by decide, (q_w 136 (by decide +kernel) (by decide +kernel)), rfl⟩
set_option maxRecDepth 20000 in
theorem fX8_11 : q_F RX8 11 8 1 6 true := ⟨RX8, TX8, q_ClX8, by decide, (q_w 137 (by decide +kernel) (by decide +kernel)), rfl⟩
set_option maxRecDepth 20000 in
theorem fX10_68 : q_F RX10 68 8 1 6 true := ⟨RX8, TX8, q_ClX8, by decide, (q_w 138 (by decide +kernel) (by decide +kernel)), rfl⟩
set_option maxRecDepth 20000 in
theorem fX11_276 : q_F RX11 276 8 1 6 true := ⟨RX8, TX8, q_ClX8, by decide, (q_w 139 (by decide +kernel) (by decide +kernel)), rfl⟩
set_option maxRecDepth 20000 in
theorem fX1_213 : q_F RX1 213 8 1 6 true := ⟨RX8, TX8, q_ClX8, by decide, (q_w 140 (by decide +kernel) (by decide +kernel)), rfl⟩
set_option maxRecDepth 20000 in
theorem fX8_15 : q_F RX8 15 8 2 6 true := ⟨RX8, TX8, q_ClX8, by decide, (q_w 141 (by decide +kernel) (by decide +kernel)), rfl⟩
set_option maxRecDepth 20000 in
theorem fX10_73 : q_F RX10 73 8 2 6 true := ⟨RX8, TX8, q_ClX8, by decide, (q_w 142 (by decide +kernel) (by decide +kernel)), rfl⟩
set_option maxRecDepth 20000 in
theorem fX11_274 : q_F RX11 274 8 2 6 true := ⟨RX8, TX8, q_ClX8, by decide, (q_w 143 (by decide +kernel) (by decide +kernel)), rfl⟩
set_option maxRecDepth 20000 in
theorem fX1_216 : q_F RX1 216 8 2 6 true := ⟨RX8, TX8, q_ClX8, by decide, (q_w 144 (by decide +kernel) (by decide +kernel)), rfl⟩
set_option maxRecDepth 20000 in
theorem fX8_18 : q_F RX8 18 8 3 6 true := ⟨RX8, TX8, q_ClX8, by decide, (q_w 145 (by decide +kernel) (by decide +kernel)), rfl⟩
set_option maxRecDepth 20000 in
theorem fX10_75 : q_F RX10 75 8 3 6 true := ⟨RX8, TX8, q_ClX8, by decide, (q_w 146 (by decide +kernel) (by decide +kernel)), rfl⟩
set_option maxRecDepth 20000 in
theorem fX11_279 : q_F RX11 279 8 3 6 true := ⟨RX8, TX8, q_ClX8, by decide, (q_w 147 (by decide +kernel) (by decide +kernel)), rfl⟩
set_option maxRecDepth 20000 in
theorem fX8_21 : q_F RX8 21 8 4 6 true := ⟨RX8, TX8, q_ClX8, by decide, (q_w 148 (by decide +kernel) (by decide +kernel)), rfl⟩
set_option maxRecDepth 20000 in
theorem fX10_71 : q_F RX10 71 8 4 6 true := ⟨RX8, TX8, q_ClX8, by decide, (q_w 149 (by decide +kernel) (by decide +kernel)), rfl⟩
set_option maxRecDepth 20000 in
theorem fX11_430 : q_F RX11 430 8 4 6 true := ⟨RX8, TX8, q_ClX8, by decide, (q_w 150 (by decide +kernel) (by decide +kernel)), rfl⟩
set_option maxRecDepth 20000 in
theorem fX8_25 : q_F RX8 25 8 5 6 true := ⟨RX8, TX8, q_ClX8, by decide, (q_w 151 (by decide +kernel) (by decide +kernel)), rfl⟩
set_option maxRecDepth 20000 in
theorem fX11_270 : q_F RX11 270 8 5 6 true := ⟨RX8, TX8, q_ClX8, by decide, (q_w 152 (by decide +kernel) (by decide +kernel)), rfl⟩
set_option maxRecDepth 20000 in
theorem kX1_47 : Cond.classLink RX1 47 RX7 ∈ q_tb := (q_w 168 (by decide +kernel) (by decide +kernel))
set_option maxRecDepth 20000 in
theorem nX1_47 : q_LN RX1 47 7 5 := ⟨RX7, TX7, q_ClX7, kX1_47, (q_w 169 (by decide +kernel) (by decide +kernel)), (q_w 95 (by decide +kernel) (by decide +kernel)), by decide +kernel⟩
set_option maxRecDepth 20000 in
theorem lX1_49 : q_LIN RX1 49 mX7_init 0 := ⟨okX7_init, (q_wn 170 (by decide +kernel)), (q_w 171 (by decide +kernel) (by decide +kernel)), rfl, rfl⟩
set_option maxRecDepth 20000 in
theorem lX7_3 : Cond.methodLink RX7 3 Lib.objectInit ∈ q_tb := (q_w 173 (by decide +kernel) (by decide +kernel))
set_option maxRecDepth 20000 in
theorem fX7_24 : q_F RX7 24 7 0 5 false := ⟨RX7, TX7, q_ClX7, by decide, (q_w 174 (by decide +kernel) (by decide +kernel)), rfl⟩
set_option maxRecDepth 20000 in
theorem fX3_126 : q_F RX3 126 7 0 5 false := ⟨RX7, TX7, q_ClX7, by decide, (q_w 175 (by decide +kernel) (by decide +kernel)), rfl⟩
set_option maxRecDepth 20000 in
theorem fX7_11 : q_F RX7 11 7 1 5 true := ⟨RX7, TX7, q_ClX7, by decide, (q_w 176 (by decide +kernel) (by decide +kernel)), rfl⟩
set_option maxRecDepth 20000 in
theorem fX3_136 : q_F RX3 136 7 1 5 true := ⟨RX7, TX7, q_ClX7, by decide, (q_w 177 (by decide +kernel) (by decide +kernel)), rfl⟩
set_option maxRecDepth 20000 in
theorem fX11_412 : q_F RX11 412 7 1 5 true := ⟨RX7, TX7, q_ClX7, by decide, (q_w 178 (by decide +kernel) (by decide +kernel)), rfl⟩
set_option maxRecDepth 20000 in
theorem fX7_15 : q_F RX7 15 7 2 5 true := ⟨RX7, TX7, q_ClX7, by decide, (q_w 179 (by decide +kernel) (by decide +kernel)), rfl⟩
set_option maxRecDepth 20000 in
theorem fX1_127 : q_F RX1 127 7 2 5 true := ⟨RX7, TX7, q_ClX7, by decide, (q_w 180 (by decide +kernel) (by decide +kernel)), rfl⟩
set_option maxRecDepth 20000 in
theorem fX11_415 : q_F RX11 415 7 2 5 true := ⟨RX7, TX7, q_ClX7, by decide, (q_w 181 (by decide +kernel) (by decide +kernel)), rfl⟩
set_option maxRecDepth 20000 in
theorem fX7_18 : q_F RX7 18 7 3 5 true := ⟨RX7, TX7, q_ClX7, by decide, (q_w 182 (by decide +kernel) (by decide +kernel)), rfl⟩
set_option maxRecDepth 20000 in
theorem fX1_137 : q_F RX1 137 7 3 5 true := ⟨RX7, TX7, q_ClX7, by decide, (q_w 183 (by decide +kernel) (by decide +kernel)), rfl⟩
set_option maxRecDepth 20000 in
theorem fX11_417 : q_F RX11 417 7 3 5 true := ⟨RX7, TX7, q_ClX7, by decide, (q_w 184 (by decide +kernel) (by decide +kernel)), rfl⟩
set_option maxRecDepth 20000 in
theorem fX7_21 : q_F RX7 21 7 4 5 true := ⟨RX7, TX7, q_ClX7, by decide, (q_w 185 (by decide +kernel) (by decide +kernel)), rfl⟩
set_option maxRecDepth 20000 in
theorem fX1_144 : q_F RX1 144 7 4 5 true := ⟨RX7, TX7, q_ClX7, by decide, (q_w 186 (by decide +kernel) (by decide +kernel)), rfl⟩
set_option maxRecDepth 20000 in
theorem fX11_420 : q_F RX11 420 7 4 5 true := ⟨RX7, TX7, q_ClX7, by decide, (q_w 187 (by decide +kernel) (by decide +kernel)), rfl⟩
set_option maxRecDepth 20000 in
theorem kX1_54 : Cond.classLink RX1 54 RX5 ∈ q_tb := (q_w 199 (by decide +kernel) (by decide +kernel))
set_option maxRecDepth 20000 in
theorem nX1_54 : q_LN RX1 54 5 6 := ⟨RX5, TX5, q_ClX5, kX1_54, (q_w 200 (by decide +kernel) (by decide +kernel)), (q_w 96 (by decide +kernel) (by decide +kernel)), by decide +kernel⟩
set_option maxRecDepth 20000 in
theorem lX1_56 : q_LIN RX1 56 mX5_init 0 := ⟨okX5_init, (q_wn 201 (by decide +kernel)), (q_w 202 (by decide +kernel) (by decide +kernel)), rfl, rfl⟩
set_option maxRecDepth 20000 in
theorem lX5_5 : Cond.methodLink RX5 5 Lib.objectInit ∈ q_tb := (q_w 204 (by decide +kernel) (by decide +kernel))
set_option maxRecDepth 20000 in
theorem fX5_25 : q_F RX5 25 5 0 6 false := ⟨RX5, TX5, q_ClX5, by decide, (q_w 205 (by decide +kernel) (by decide +kernel)), rfl⟩
set_option maxRecDepth 20000 in
theorem fX11_306 : q_F RX11 306 5 0 6 false := ⟨RX5, TX5, q_ClX5, by decide, (q_w 206 (by decide +kernel) (by decide +kernel)), rfl⟩
set_option maxRecDepth 20000 in
theorem fX5_11 : q_F RX5 11 5 1 6 true := ⟨RX5, TX5, q_ClX5, by decide, (q_w 207 (by decide +kernel) (by decide +kernel)), rfl⟩
set_option maxRecDepth 20000 in
theorem fX5_15 : q_F RX5 15 5 2 6 true := ⟨RX5, TX5, q_ClX5, by decide, (q_w 208 (by decide +kernel) (by decide +kernel)), rfl⟩
set_option maxRecDepth 20000 in
theorem fX5_35 : q_F RX5 35 5 3 6 false := ⟨RX5, TX5, q_ClX5, by decide, (q_w 209 (by decide +kernel) (by decide +kernel)), rfl⟩
set_option maxRecDepth 20000 in
theorem fX5_18 : q_F RX5 18 5 4 6 true := ⟨RX5, TX5, q_ClX5, by decide, (q_w 210 (by decide +kernel) (by decide +kernel)), rfl⟩
set_option maxRecDepth 20000 in
theorem fX5_21 : q_F RX5 21 5 5 6 true := ⟨RX5, TX5, q_ClX5, by decide, (q_w 211 (by decide +kernel) (by decide +kernel)), rfl⟩
set_option maxRecDepth 20000 in
theorem kX1_61 : Cond.constant RX1 61 (zi (100000)) ∈ q_tb := (q_w 226 (by decide +kernel) (by decide +kernel))
set_option maxRecDepth 20000 in
theorem lX1_62 : q_LIN RX1 62 mX4_init 0 := ⟨okX4_init, (q_wn 228 (by decide +kernel)), (q_w 229 (by decide +kernel) (by decide +kernel)), rfl, rfl⟩
set_option maxRecDepth 20000 in
theorem lX4_3 : Cond.methodLink RX4 3 Lib.objectInit ∈ q_tb := (q_w 231 (by decide +kernel) (by decide +kernel))
set_option maxRecDepth 20000 in
theorem fX4_24 : q_F RX4 24 4 0 10 false := ⟨RX4, TX4, q_ClX4, by decide, (q_w 232 (by decide +kernel) (by decide +kernel)), rfl⟩
set_option maxRecDepth 20000 in
theorem fX1_106 : q_F RX1 106 4 0 10 false := ⟨RX4, TX4, q_ClX4, by decide, (q_w 233 (by decide +kernel) (by decide +kernel)), rfl⟩
set_option maxRecDepth 20000 in
theorem fX11_172 : q_F RX11 172 4 0 10 false := ⟨RX4, TX4, q_ClX4, by decide, (q_w 234 (by decide +kernel) (by decide +kernel)), rfl⟩
set_option maxRecDepth 20000 in
theorem fX4_28 : q_F RX4 28 4 1 10 false := ⟨RX4, TX4, q_ClX4, by decide, (q_w 235 (by decide +kernel) (by decide +kernel)), rfl⟩
set_option maxRecDepth 20000 in
theorem fX1_113 : q_F RX1 113 4 1 10 false := ⟨RX4, TX4, q_ClX4, by decide, (q_w 236 (by decide +kernel) (by decide +kernel)), rfl⟩
set_option maxRecDepth 20000 in
theorem fX11_177 : q_F RX11 177 4 1 10 false := ⟨RX4, TX4, q_ClX4, by decide, (q_w 237 (by decide +kernel) (by decide +kernel)), rfl⟩
set_option maxRecDepth 20000 in
theorem fX4_31 : q_F RX4 31 4 2 10 false := ⟨RX4, TX4, q_ClX4, by decide, (q_w 238 (by decide +kernel) (by decide +kernel)), rfl⟩
set_option maxRecDepth 20000 in
theorem fX1_116 : q_F RX1 116 4 2 10 false := ⟨RX4, TX4, q_ClX4, by decide, (q_w 239 (by decide +kernel) (by decide +kernel)), rfl⟩
set_option maxRecDepth 20000 in
theorem fX11_180 : q_F RX11 180 4 2 10 false := ⟨RX4, TX4, q_ClX4, by decide, (q_w 240 (by decide +kernel) (by decide +kernel)), rfl⟩
set_option maxRecDepth 20000 in
theorem fX4_34 : q_F RX4 34 4 3 10 false := ⟨RX4, TX4, q_ClX4, by decide, (q_w 241 (by decide +kernel) (by decide +kernel)), rfl⟩
set_option maxRecDepth 20000 in
theorem fX11_183 : q_F RX11 183 4 3 10 false := ⟨RX4, TX4, q_ClX4, by decide, (q_w 242 (by decide +kernel) (by decide +kernel)), rfl⟩
set_option maxRecDepth 20000 in
theorem fX4_37 : q_F RX4 37 4 4 10 false := ⟨RX4, TX4, q_ClX4, by decide, (q_w 243 (by decide +kernel) (by decide +kernel)), rfl⟩
set_option maxRecDepth 20000 in
theorem fX1_95 : q_F RX1 95 4 4 10 false := ⟨RX4, TX4, q_ClX4, by decide, (q_w 244 (by decide +kernel) (by decide +kernel)), rfl⟩
set_option maxRecDepth 20000 in
theorem fX11_186 : q_F RX11 186 4 4 10 false := ⟨RX4, TX4, q_ClX4, by decide, (q_w 245 (by decide +kernel) (by decide +kernel)), rfl⟩
set_option maxRecDepth 20000 in
theorem fX4_40 : q_F RX4 40 4 5 10 false := ⟨RX4, TX4, q_ClX4, by decide, (q_w 246 (by decide +kernel) (by decide +kernel)), rfl⟩
set_option maxRecDepth 20000 in
theorem fX1_184 : q_F RX1 184 4 5 10 false := ⟨RX4, TX4, q_ClX4, by decide, (q_w 247 (by decide +kernel) (by decide +kernel)), rfl⟩
set_option maxRecDepth 20000 in
theorem fX11_350 : q_F RX11 350 4 5 10 false := ⟨RX4, TX4, q_ClX4, by decide, (q_w 248 (by decide +kernel) (by decide +kernel)), rfl⟩
set_option maxRecDepth 20000 in
theorem fX4_11 : q_F RX4 11 4 6 10 true := ⟨RX4, TX4, q_ClX4, by decide, (q_w 249 (by decide +kernel) (by decide +kernel)), rfl⟩
set_option maxRecDepth 20000 in
theorem fX4_15 : q_F RX4 15 4 7 10 true := ⟨RX4, TX4, q_ClX4, by decide, (q_w 250 (by decide +kernel) (by decide +kernel)), rfl⟩
set_option maxRecDepth 20000 in
theorem fX4_18 : q_F RX4 18 4 8 10 true := ⟨RX4, TX4, q_ClX4, by decide, (q_w 251 (by decide +kernel) (by decide +kernel)), rfl⟩
set_option maxRecDepth 20000 in
theorem fX4_21 : q_F RX4 21 4 9 10 true := ⟨RX4, TX4, q_ClX4, by decide, (q_w 252 (by decide +kernel) (by decide +kernel)), rfl⟩
set_option maxRecDepth 20000 in
theorem fX1_63 : q_F RX1 63 1 0 14 false := ⟨RX1, TX1, q_ClX1, by decide, (q_w 274 (by decide +kernel) (by decide +kernel)), rfl⟩
set_option maxRecDepth 20000 in
theorem fX10_39 : q_F RX10 39 1 0 14 false := ⟨RX1, TX1, q_ClX1, by decide, (q_w 275 (by decide +kernel) (by decide +kernel)), rfl⟩
set_option maxRecDepth 20000 in
theorem fX3_68 : q_F RX3 68 1 0 14 false := ⟨RX1, TX1, q_ClX1, by decide, (q_w 276 (by decide +kernel) (by decide +kernel)), rfl⟩
set_option maxRecDepth 20000 in
theorem fX11_135 : q_F RX11 135 1 0 14 false := ⟨RX1, TX1, q_ClX1, by decide, (q_w 277 (by decide +kernel) (by decide +kernel)), rfl⟩
set_option maxRecDepth 20000 in
theorem fX9_97 : q_F RX9 97 1 0 14 false := ⟨RX1, TX1, q_ClX1, by decide, (q_w 278 (by decide +kernel) (by decide +kernel)), rfl⟩
set_option maxRecDepth 20000 in
theorem fX1_66 : q_F RX1 66 1 1 14 false := ⟨RX1, TX1, q_ClX1, by decide, (q_w 279 (by decide +kernel) (by decide +kernel)), rfl⟩
set_option maxRecDepth 20000 in
theorem fX3_52 : q_F RX3 52 1 1 14 false := ⟨RX1, TX1, q_ClX1, by decide, (q_w 280 (by decide +kernel) (by decide +kernel)), rfl⟩
set_option maxRecDepth 20000 in
theorem fX10_94 : q_F RX10 94 1 1 14 false := ⟨RX1, TX1, q_ClX1, by decide, (q_w 281 (by decide +kernel) (by decide +kernel)), rfl⟩
set_option maxRecDepth 20000 in
theorem fX11_138 : q_F RX11 138 1 1 14 false := ⟨RX1, TX1, q_ClX1, by decide, (q_w 282 (by decide +kernel) (by decide +kernel)), rfl⟩
set_option maxRecDepth 20000 in
theorem fX1_9 : q_F RX1 9 1 2 14 false := ⟨RX1, TX1, q_ClX1, by decide, (q_w 283 (by decide +kernel) (by decide +kernel)), rfl⟩
set_option maxRecDepth 20000 in
theorem fX11_141 : q_F RX11 141 1 2 14 false := ⟨RX1, TX1, q_ClX1, by decide, (q_w 284 (by decide +kernel) (by decide +kernel)), rfl⟩
set_option maxRecDepth 20000 in
theorem fX9_71 : q_F RX9 71 1 2 14 false := ⟨RX1, TX1, q_ClX1, by decide, (q_w 285 (by decide +kernel) (by decide +kernel)), rfl⟩
set_option maxRecDepth 20000 in
theorem fX1_15 : q_F RX1 15 1 3 14 false := ⟨RX1, TX1, q_ClX1, by decide, (q_w 286 (by decide +kernel) (by decide +kernel)), rfl⟩
set_option maxRecDepth 20000 in
theorem fX11_144 : q_F RX11 144 1 3 14 false := ⟨RX1, TX1, q_ClX1, by decide, (q_w 287 (by decide +kernel) (by decide +kernel)), rfl⟩
set_option maxRecDepth 20000 in
theorem fX9_74 : q_F RX9 74 1 3 14 false := ⟨RX1, TX1, q_ClX1, by decide, (q_w 288 (by decide +kernel) (by decide +kernel)), rfl⟩
set_option maxRecDepth 20000 in
theorem fX1_18 : q_F RX1 18 1 4 14 false := ⟨RX1, TX1, q_ClX1, by decide, (q_w 289 (by decide +kernel) (by decide +kernel)), rfl⟩
set_option maxRecDepth 20000 in
theorem fX11_147 : q_F RX11 147 1 4 14 false := ⟨RX1, TX1, q_ClX1, by decide, (q_w 290 (by decide +kernel) (by decide +kernel)), rfl⟩
set_option maxRecDepth 20000 in
theorem fX9_77 : q_F RX9 77 1 4 14 false := ⟨RX1, TX1, q_ClX1, by decide, (q_w 291 (by decide +kernel) (by decide +kernel)), rfl⟩
set_option maxRecDepth 20000 in
theorem fX1_21 : q_F RX1 21 1 5 14 false := ⟨RX1, TX1, q_ClX1, by decide, (q_w 292 (by decide +kernel) (by decide +kernel)), rfl⟩
set_option maxRecDepth 20000 in
theorem fX11_150 : q_F RX11 150 1 5 14 false := ⟨RX1, TX1, q_ClX1, by decide, (q_w 293 (by decide +kernel) (by decide +kernel)), rfl⟩
set_option maxRecDepth 20000 in
theorem fX9_80 : q_F RX9 80 1 5 14 false := ⟨RX1, TX1, q_ClX1, by decide, (q_w 294 (by decide +kernel) (by decide +kernel)), rfl⟩
set_option maxRecDepth 20000 in
theorem fX1_24 : q_F RX1 24 1 6 14 false := ⟨RX1, TX1, q_ClX1, by decide, (q_w 295 (by decide +kernel) (by decide +kernel)), rfl⟩
set_option maxRecDepth 20000 in
theorem fX11_115 : q_F RX11 115 1 6 14 false := ⟨RX1, TX1, q_ClX1, by decide, (q_w 296 (by decide +kernel) (by decide +kernel)), rfl⟩
set_option maxRecDepth 20000 in
theorem fX9_83 : q_F RX9 83 1 6 14 false := ⟨RX1, TX1, q_ClX1, by decide, (q_w 297 (by decide +kernel) (by decide +kernel)), rfl⟩
set_option maxRecDepth 20000 in
theorem fX1_27 : q_F RX1 27 1 7 14 true := ⟨RX1, TX1, q_ClX1, by decide, (q_w 298 (by decide +kernel) (by decide +kernel)), rfl⟩
set_option maxRecDepth 20000 in
theorem fX10_91 : q_F RX10 91 1 7 14 true := ⟨RX1, TX1, q_ClX1, by decide, (q_w 299 (by decide +kernel) (by decide +kernel)), rfl⟩
set_option maxRecDepth 20000 in
theorem fX11_161 : q_F RX11 161 1 7 14 true := ⟨RX1, TX1, q_ClX1, by decide, (q_w 300 (by decide +kernel) (by decide +kernel)), rfl⟩
set_option maxRecDepth 20000 in
theorem fX9_93 : q_F RX9 93 1 7 14 true := ⟨RX1, TX1, q_ClX1, by decide, (q_w 301 (by decide +kernel) (by decide +kernel)), rfl⟩
set_option maxRecDepth 20000 in
theorem fX1_31 : q_F RX1 31 1 8 14 true := ⟨RX1, TX1, q_ClX1, by decide, (q_w 302 (by decide +kernel) (by decide +kernel)), rfl⟩
set_option maxRecDepth 20000 in
theorem fX10_82 : q_F RX10 82 1 8 14 true := ⟨RX1, TX1, q_ClX1, by decide, (q_w 303 (by decide +kernel) (by decide +kernel)), rfl⟩
set_option maxRecDepth 20000 in
theorem fX11_165 : q_F RX11 165 1 8 14 true := ⟨RX1, TX1, q_ClX1, by decide, (q_w 304 (by decide +kernel) (by decide +kernel)), rfl⟩
set_option maxRecDepth 20000 in
theorem fX1_36 : q_F RX1 36 1 9 14 true := ⟨RX1, TX1, q_ClX1, by decide, (q_w 305 (by decide +kernel) (by decide +kernel)), rfl⟩
set_option maxRecDepth 20000 in
theorem fX10_35 : q_F RX10 35 1 9 14 true := ⟨RX1, TX1, q_ClX1, by decide, (q_w 306 (by decide +kernel) (by decide +kernel)), rfl⟩
set_option maxRecDepth 20000 in
theorem fX11_407 : q_F RX11 407 1 9 14 true := ⟨RX1, TX1, q_ClX1, by decide, (q_w 307 (by decide +kernel) (by decide +kernel)), rfl⟩
set_option maxRecDepth 20000 in
theorem fX10_32 : q_F RX10 32 1 10 14 false := ⟨RX1, TX1, q_ClX1, by decide, (q_w 308 (by decide +kernel) (by decide +kernel)), rfl⟩
set_option maxRecDepth 20000 in
theorem fX3_45 : q_F RX3 45 1 10 14 false := ⟨RX1, TX1, q_ClX1, by decide, (q_w 309 (by decide +kernel) (by decide +kernel)), rfl⟩
set_option maxRecDepth 20000 in
theorem fX1_75 : q_F RX1 75 1 10 14 false := ⟨RX1, TX1, q_ClX1, by decide, (q_w 310 (by decide +kernel) (by decide +kernel)), rfl⟩
set_option maxRecDepth 20000 in
theorem fX11_153 : q_F RX11 153 1 10 14 false := ⟨RX1, TX1, q_ClX1, by decide, (q_w 311 (by decide +kernel) (by decide +kernel)), rfl⟩
set_option maxRecDepth 20000 in
theorem fX9_59 : q_F RX9 59 1 10 14 false := ⟨RX1, TX1, q_ClX1, by decide, (q_w 312 (by decide +kernel) (by decide +kernel)), rfl⟩
set_option maxRecDepth 20000 in
theorem fX1_43 : q_F RX1 43 1 11 14 true := ⟨RX1, TX1, q_ClX1, by decide, (q_w 313 (by decide +kernel) (by decide +kernel)), rfl⟩
set_option maxRecDepth 20000 in
theorem fX10_54 : q_F RX10 54 1 11 14 true := ⟨RX1, TX1, q_ClX1, by decide, (q_w 314 (by decide +kernel) (by decide +kernel)), rfl⟩
set_option maxRecDepth 20000 in
theorem fX11_254 : q_F RX11 254 1 11 14 true := ⟨RX1, TX1, q_ClX1, by decide, (q_w 315 (by decide +kernel) (by decide +kernel)), rfl⟩
set_option maxRecDepth 20000 in
theorem fX1_50 : q_F RX1 50 1 12 14 true := ⟨RX1, TX1, q_ClX1, by decide, (q_w 316 (by decide +kernel) (by decide +kernel)), rfl⟩
set_option maxRecDepth 20000 in
theorem fX11_111 : q_F RX11 111 1 12 14 true := ⟨RX1, TX1, q_ClX1, by decide, (q_w 317 (by decide +kernel) (by decide +kernel)), rfl⟩
set_option maxRecDepth 20000 in
theorem fX1_57 : q_F RX1 57 1 13 14 true := ⟨RX1, TX1, q_ClX1, by decide, (q_w 318 (by decide +kernel) (by decide +kernel)), rfl⟩
set_option maxRecDepth 20000 in
theorem fX11_101 : q_F RX11 101 1 13 14 true := ⟨RX1, TX1, q_ClX1, by decide, (q_w 319 (by decide +kernel) (by decide +kernel)), rfl⟩
set_option maxRecDepth 20000 in
theorem kX11_23 : Cond.classLink RX11 23 RX6 ∈ q_tb := (q_w 350 (by decide +kernel) (by decide +kernel))
set_option maxRecDepth 20000 in
theorem nX11_23 : q_LN RX11 23 6 3 := ⟨RX6, TX6, q_ClX6, kX11_23, (q_w 351 (by decide +kernel) (by decide +kernel)), (q_w 98 (by decide +kernel) (by decide +kernel)), by decide +kernel⟩
set_option maxRecDepth 20000 in
theorem lX11_25 : q_LIN RX11 25 mX6_init 0 := ⟨okX6_init, (q_wn 352 (by decide +kernel)), (q_w 353 (by decide +kernel) (by decide +kernel)), rfl, rfl⟩
set_option maxRecDepth 20000 in
theorem lX6_1 : Cond.methodLink RX6 1 Lib.objectInit ∈ q_tb := (q_w 355 (by decide +kernel) (by decide +kernel))
set_option maxRecDepth 20000 in
theorem kX6_9 : Cond.classLink RX6 9 RX1 ∈ q_tb := (q_w 356 (by decide +kernel) (by decide +kernel))
set_option maxRecDepth 20000 in
theorem nX6_9 : q_LN RX6 9 1 14 := ⟨RX1, TX1, q_ClX1, kX6_9, (q_w 121 (by decide +kernel) (by decide +kernel)), (q_w 93 (by decide +kernel) (by decide +kernel)), by decide +kernel⟩
set_option maxRecDepth 20000 in
theorem fX6_11 : q_F RX6 11 6 0 3 true := ⟨RX6, TX6, q_ClX6, by decide, (q_w 357 (by decide +kernel) (by decide +kernel)), rfl⟩
set_option maxRecDepth 20000 in
theorem fX6_15 : q_F RX6 15 6 1 3 false := ⟨RX6, TX6, q_ClX6, by decide, (q_w 358 (by decide +kernel) (by decide +kernel)), rfl⟩
set_option maxRecDepth 20000 in
theorem fX6_24 : q_F RX6 24 6 2 3 false := ⟨RX6, TX6, q_ClX6, by decide, (q_w 359 (by decide +kernel) (by decide +kernel)), rfl⟩
set_option maxRecDepth 20000 in
theorem fX11_157 : q_F RX11 157 6 2 3 false := ⟨RX6, TX6, q_ClX6, by decide, (q_w 360 (by decide +kernel) (by decide +kernel)), rfl⟩
set_option maxRecDepth 20000 in
theorem kX11_30 : Cond.classLink RX11 30 RX9 ∈ q_tb := (q_w 368 (by decide +kernel) (by decide +kernel))
set_option maxRecDepth 20000 in
theorem nX11_30 : q_LN RX11 30 9 3 := ⟨RX9, TX9, q_ClX9, kX11_30, (q_w 369 (by decide +kernel) (by decide +kernel)), (q_w 99 (by decide +kernel) (by decide +kernel)), by decide +kernel⟩
set_option maxRecDepth 20000 in
theorem lX11_32 : q_LIN RX11 32 mX9_init 0 := ⟨okX9_init, (q_wn 370 (by decide +kernel)), (q_w 371 (by decide +kernel) (by decide +kernel)), rfl, rfl⟩
set_option maxRecDepth 20000 in
theorem lX9_3 : Cond.methodLink RX9 3 Lib.objectInit ∈ q_tb := (q_w 373 (by decide +kernel) (by decide +kernel))
set_option maxRecDepth 20000 in
theorem kX9_9 : Cond.classLink RX9 9 RX2 ∈ q_tb := (q_w 374 (by decide +kernel) (by decide +kernel))
set_option maxRecDepth 20000 in
theorem nX9_9 : q_LN RX9 9 2 2 := ⟨RX2, TX2, q_ClX2, kX9_9, (q_w 375 (by decide +kernel) (by decide +kernel)), (q_w 100 (by decide +kernel) (by decide +kernel)), by decide +kernel⟩
set_option maxRecDepth 20000 in
theorem lX9_11 : q_LI RX9 11 mX2_init 1 := ⟨okX2_init, (q_w 376 (by decide +kernel) (by decide +kernel)), (q_w 377 (by decide +kernel) (by decide +kernel)), rfl, rfl⟩
set_option maxRecDepth 20000 in
theorem lX2_3 : Cond.methodLink RX2 3 Lib.objectInit ∈ q_tb := (q_w 379 (by decide +kernel) (by decide +kernel))
set_option maxRecDepth 20000 in
theorem lX2_9 : q_LS RX2 9 mJ9_max_7cf53 2 := ⟨okJ9_max_7cf53, (q_w 380 (by decide +kernel) (by decide +kernel)), (q_w 381 (by decide +kernel) (by decide +kernel))⟩
set_option maxRecDepth 20000 in
theorem fX2_15 : q_F RX2 15 2 0 2 true := ⟨RX2, TX2, q_ClX2, by decide, (q_w 383 (by decide +kernel) (by decide +kernel)), rfl⟩
set_option maxRecDepth 20000 in
theorem fX2_21 : q_F RX2 21 2 1 2 false := ⟨RX2, TX2, q_ClX2, by decide, (q_w 384 (by decide +kernel) (by decide +kernel)), rfl⟩
set_option maxRecDepth 20000 in
theorem fX11_80 : q_F RX11 80 2 1 2 false := ⟨RX2, TX2, q_ClX2, by decide, (q_w 385 (by decide +kernel) (by decide +kernel)), rfl⟩
set_option maxRecDepth 20000 in
theorem fX9_27 : q_F RX9 27 2 1 2 false := ⟨RX2, TX2, q_ClX2, by decide, (q_w 386 (by decide +kernel) (by decide +kernel)), rfl⟩
set_option maxRecDepth 20000 in
theorem fX9_14 : q_F RX9 14 9 0 3 true := ⟨RX9, TX9, q_ClX9, by decide, (q_w 392 (by decide +kernel) (by decide +kernel)), rfl⟩
set_option maxRecDepth 20000 in
theorem fX11_77 : q_F RX11 77 9 0 3 true := ⟨RX9, TX9, q_ClX9, by decide, (q_w 393 (by decide +kernel) (by decide +kernel)), rfl⟩
set_option maxRecDepth 20000 in
theorem fX9_24 : q_F RX9 24 9 1 3 false := ⟨RX9, TX9, q_ClX9, by decide, (q_w 394 (by decide +kernel) (by decide +kernel)), rfl⟩
set_option maxRecDepth 20000 in
theorem fX0_39 : q_F RX0 39 9 1 3 false := ⟨RX9, TX9, q_ClX9, by decide, (q_w 395 (by decide +kernel) (by decide +kernel)), rfl⟩
set_option maxRecDepth 20000 in
theorem fX5_48 : q_F RX5 48 9 1 3 false := ⟨RX9, TX9, q_ClX9, by decide, (q_w 396 (by decide +kernel) (by decide +kernel)), rfl⟩
set_option maxRecDepth 20000 in
theorem fX7_62 : q_F RX7 62 9 1 3 false := ⟨RX9, TX9, q_ClX9, by decide, (q_w 397 (by decide +kernel) (by decide +kernel)), rfl⟩
set_option maxRecDepth 20000 in
theorem fX9_20 : q_F RX9 20 9 2 3 false := ⟨RX9, TX9, q_ClX9, by decide, (q_w 398 (by decide +kernel) (by decide +kernel)), rfl⟩
set_option maxRecDepth 20000 in
theorem kX11_37 : Cond.classLink RX11 37 RX2 ∈ q_tb := (q_w 406 (by decide +kernel) (by decide +kernel))
set_option maxRecDepth 20000 in
theorem nX11_37 : q_LN RX11 37 2 2 := ⟨RX2, TX2, q_ClX2, kX11_37, (q_w 375 (by decide +kernel) (by decide +kernel)), (q_w 100 (by decide +kernel) (by decide +kernel)), by decide +kernel⟩
set_option maxRecDepth 20000 in
theorem lX11_39 : q_LI RX11 39 mX2_init 1 := ⟨okX2_init, (q_w 407 (by decide +kernel) (by decide +kernel)), (q_w 377 (by decide +kernel) (by decide +kernel)), rfl, rfl⟩
set_option maxRecDepth 20000 in
theorem kX11_46 : Cond.classLink RX11 46 RX0 ∈ q_tb := (q_w 408 (by decide +kernel) (by decide +kernel))
set_option maxRecDepth 20000 in
theorem nX11_46 : q_LN RX11 46 0 4 := ⟨RX0, TX0, q_ClX0, kX11_46, (q_w 409 (by decide +kernel) (by decide +kernel)), (q_w 102 (by decide +kernel) (by decide +kernel)), by decide +kernel⟩
set_option maxRecDepth 20000 in
theorem lX11_48 : q_LIN RX11 48 mX0_init 0 := ⟨okX0_init, (q_wn 410 (by decide +kernel)), (q_w 411 (by decide +kernel) (by decide +kernel)), rfl, rfl⟩
set_option maxRecDepth 20000 in
theorem lX0_3 : Cond.methodLink RX0 3 Lib.objectInit ∈ q_tb := (q_w 413 (by decide +kernel) (by decide +kernel))
set_option maxRecDepth 20000 in
theorem fX0_21 : q_F RX0 21 0 0 4 false := ⟨RX0, TX0, q_ClX0, by decide, (q_w 414 (by decide +kernel) (by decide +kernel)), rfl⟩
set_option maxRecDepth 20000 in
theorem fX11_130 : q_F RX11 130 0 0 4 false := ⟨RX0, TX0, q_ClX0, by decide, (q_w 415 (by decide +kernel) (by decide +kernel)), rfl⟩
set_option maxRecDepth 20000 in
theorem fX0_11 : q_F RX0 11 0 1 4 true := ⟨RX0, TX0, q_ClX0, by decide, (q_w 416 (by decide +kernel) (by decide +kernel)), rfl⟩
set_option maxRecDepth 20000 in
theorem fX11_449 : q_F RX11 449 0 1 4 true := ⟨RX0, TX0, q_ClX0, by decide, (q_w 417 (by decide +kernel) (by decide +kernel)), rfl⟩
set_option maxRecDepth 20000 in
theorem fX0_15 : q_F RX0 15 0 2 4 true := ⟨RX0, TX0, q_ClX0, by decide, (q_w 418 (by decide +kernel) (by decide +kernel)), rfl⟩
set_option maxRecDepth 20000 in
theorem fX11_447 : q_F RX11 447 0 2 4 true := ⟨RX0, TX0, q_ClX0, by decide, (q_w 419 (by decide +kernel) (by decide +kernel)), rfl⟩
set_option maxRecDepth 20000 in
theorem fX0_18 : q_F RX0 18 0 3 4 true := ⟨RX0, TX0, q_ClX0, by decide, (q_w 420 (by decide +kernel) (by decide +kernel)), rfl⟩
set_option maxRecDepth 20000 in
theorem fX11_452 : q_F RX11 452 0 3 4 true := ⟨RX0, TX0, q_ClX0, by decide, (q_w 421 (by decide +kernel) (by decide +kernel)), rfl⟩
set_option maxRecDepth 20000 in
theorem kX11_53 : Cond.classLink RX11 53 RX10 ∈ q_tb := (q_w 431 (by decide +kernel) (by decide +kernel))
set_option maxRecDepth 20000 in
theorem nX11_53 : q_LN RX11 53 10 6 := ⟨RX10, TX10, q_ClX10, kX11_53, (q_w 432 (by decide +kernel) (by decide +kernel)), (q_w 103 (by decide +kernel) (by decide +kernel)), by decide +kernel⟩
set_option maxRecDepth 20000 in
theorem lX11_55 : q_LIN RX11 55 mX10_init 0 := ⟨okX10_init, (q_wn 433 (by decide +kernel)), (q_w 434 (by decide +kernel) (by decide +kernel)), rfl, rfl⟩
set_option maxRecDepth 20000 in
theorem lX10_3 : Cond.methodLink RX10 3 Lib.objectInit ∈ q_tb := (q_w 436 (by decide +kernel) (by decide +kernel))
set_option maxRecDepth 20000 in
theorem fX10_9 : q_F RX10 9 10 0 6 true := ⟨RX10, TX10, q_ClX10, by decide, (q_w 437 (by decide +kernel) (by decide +kernel)), rfl⟩
set_option maxRecDepth 20000 in
theorem fX3_61 : q_F RX3 61 10 0 6 true := ⟨RX10, TX10, q_ClX10, by decide, (q_w 438 (by decide +kernel) (by decide +kernel)), rfl⟩
set_option maxRecDepth 20000 in
theorem fX11_395 : q_F RX11 395 10 0 6 true := ⟨RX10, TX10, q_ClX10, by decide, (q_w 439 (by decide +kernel) (by decide +kernel)), rfl⟩
set_option maxRecDepth 20000 in
theorem fX10_15 : q_F RX10 15 10 1 6 true := ⟨RX10, TX10, q_ClX10, by decide, (q_w 440 (by decide +kernel) (by decide +kernel)), rfl⟩
set_option maxRecDepth 20000 in
theorem fX3_64 : q_F RX3 64 10 1 6 true := ⟨RX10, TX10, q_ClX10, by decide, (q_w 441 (by decide +kernel) (by decide +kernel)), rfl⟩
set_option maxRecDepth 20000 in
theorem fX10_18 : q_F RX10 18 10 2 6 true := ⟨RX10, TX10, q_ClX10, by decide, (q_w 442 (by decide +kernel) (by decide +kernel)), rfl⟩
set_option maxRecDepth 20000 in
theorem fX10_21 : q_F RX10 21 10 3 6 true := ⟨RX10, TX10, q_ClX10, by decide, (q_w 443 (by decide +kernel) (by decide +kernel)), rfl⟩
set_option maxRecDepth 20000 in
theorem fX3_97 : q_F RX3 97 10 3 6 true := ⟨RX10, TX10, q_ClX10, by decide, (q_w 444 (by decide +kernel) (by decide +kernel)), rfl⟩
set_option maxRecDepth 20000 in
theorem fX10_25 : q_F RX10 25 10 4 6 true := ⟨RX10, TX10, q_ClX10, by decide, (q_w 445 (by decide +kernel) (by decide +kernel)), rfl⟩
set_option maxRecDepth 20000 in
theorem fX11_377 : q_F RX11 377 10 4 6 true := ⟨RX10, TX10, q_ClX10, by decide, (q_w 446 (by decide +kernel) (by decide +kernel)), rfl⟩
set_option maxRecDepth 20000 in
theorem fX10_28 : q_F RX10 28 10 5 6 false := ⟨RX10, TX10, q_ClX10, by decide, (q_w 447 (by decide +kernel) (by decide +kernel)), rfl⟩
set_option maxRecDepth 20000 in
theorem fX11_376 : q_F RX11 376 10 5 6 false := ⟨RX10, TX10, q_ClX10, by decide, (q_w 448 (by decide +kernel) (by decide +kernel)), rfl⟩
set_option maxRecDepth 20000 in
theorem kX11_60 : Cond.classLink RX11 60 RX3 ∈ q_tb := (q_w 462 (by decide +kernel) (by decide +kernel))
set_option maxRecDepth 20000 in
theorem nX11_60 : q_LN RX11 60 3 13 := ⟨RX3, TX3, q_ClX3, kX11_60, (q_w 463 (by decide +kernel) (by decide +kernel)), (q_w 104 (by decide +kernel) (by decide +kernel)), by decide +kernel⟩
set_option maxRecDepth 20000 in
theorem lX11_62 : q_LIN RX11 62 mX3_init 0 := ⟨okX3_init, (q_wn 464 (by decide +kernel)), (q_w 465 (by decide +kernel) (by decide +kernel)), rfl, rfl⟩
set_option maxRecDepth 20000 in
theorem lX3_1 : Cond.methodLink RX3 1 Lib.objectInit ∈ q_tb := (q_w 467 (by decide +kernel) (by decide +kernel))
set_option maxRecDepth 20000 in
theorem fX3_9 : q_F RX3 9 3 0 13 true := ⟨RX3, TX3, q_ClX3, by decide, (q_w 468 (by decide +kernel) (by decide +kernel)), rfl⟩
set_option maxRecDepth 20000 in
theorem fX3_13 : q_F RX3 13 3 1 13 true := ⟨RX3, TX3, q_ClX3, by decide, (q_w 469 (by decide +kernel) (by decide +kernel)), rfl⟩
set_option maxRecDepth 20000 in
theorem fX3_16 : q_F RX3 16 3 2 13 true := ⟨RX3, TX3, q_ClX3, by decide, (q_w 470 (by decide +kernel) (by decide +kernel)), rfl⟩
set_option maxRecDepth 20000 in
theorem fX3_19 : q_F RX3 19 3 3 13 true := ⟨RX3, TX3, q_ClX3, by decide, (q_w 471 (by decide +kernel) (by decide +kernel)), rfl⟩
set_option maxRecDepth 20000 in
theorem fX3_22 : q_F RX3 22 3 4 13 true := ⟨RX3, TX3, q_ClX3, by decide, (q_w 472 (by decide +kernel) (by decide +kernel)), rfl⟩
set_option maxRecDepth 20000 in
theorem fX3_25 : q_F RX3 25 3 5 13 true := ⟨RX3, TX3, q_ClX3, by decide, (q_w 473 (by decide +kernel) (by decide +kernel)), rfl⟩
set_option maxRecDepth 20000 in
theorem fX3_28 : q_F RX3 28 3 6 13 true := ⟨RX3, TX3, q_ClX3, by decide, (q_w 474 (by decide +kernel) (by decide +kernel)), rfl⟩
set_option maxRecDepth 20000 in
theorem fX3_41 : q_F RX3 41 3 7 13 false := ⟨RX3, TX3, q_ClX3, by decide, (q_w 475 (by decide +kernel) (by decide +kernel)), rfl⟩
set_option maxRecDepth 20000 in
theorem fX3_37 : q_F RX3 37 3 8 13 false := ⟨RX3, TX3, q_ClX3, by decide, (q_w 476 (by decide +kernel) (by decide +kernel)), rfl⟩
set_option maxRecDepth 20000 in
theorem fX11_327 : q_F RX11 327 3 8 13 false := ⟨RX3, TX3, q_ClX3, by decide, (q_w 477 (by decide +kernel) (by decide +kernel)), rfl⟩
set_option maxRecDepth 20000 in
theorem fX3_85 : q_F RX3 85 3 9 13 false := ⟨RX3, TX3, q_ClX3, by decide, (q_w 478 (by decide +kernel) (by decide +kernel)), rfl⟩
set_option maxRecDepth 20000 in
theorem fX11_331 : q_F RX11 331 3 9 13 false := ⟨RX3, TX3, q_ClX3, by decide, (q_w 479 (by decide +kernel) (by decide +kernel)), rfl⟩
set_option maxRecDepth 20000 in
theorem fX3_123 : q_F RX3 123 3 10 13 false := ⟨RX3, TX3, q_ClX3, by decide, (q_w 480 (by decide +kernel) (by decide +kernel)), rfl⟩
set_option maxRecDepth 20000 in
theorem fX11_428 : q_F RX11 428 3 10 13 false := ⟨RX3, TX3, q_ClX3, by decide, (q_w 481 (by decide +kernel) (by decide +kernel)), rfl⟩
set_option maxRecDepth 20000 in
theorem fX3_94 : q_F RX3 94 3 11 13 false := ⟨RX3, TX3, q_ClX3, by decide, (q_w 482 (by decide +kernel) (by decide +kernel)), rfl⟩
set_option maxRecDepth 20000 in
theorem fX11_334 : q_F RX11 334 3 11 13 false := ⟨RX3, TX3, q_ClX3, by decide, (q_w 483 (by decide +kernel) (by decide +kernel)), rfl⟩
set_option maxRecDepth 20000 in
theorem fX3_113 : q_F RX3 113 3 12 13 false := ⟨RX3, TX3, q_ClX3, by decide, (q_w 484 (by decide +kernel) (by decide +kernel)), rfl⟩
set_option maxRecDepth 20000 in
theorem fX11_383 : q_F RX11 383 3 12 13 false := ⟨RX3, TX3, q_ClX3, by decide, (q_w 485 (by decide +kernel) (by decide +kernel)), rfl⟩
set_option maxRecDepth 20000 in
theorem fX11_10 : q_F RX11 10 11 0 12 false := ⟨RX11, TX11, q_ClX11, by decide, (q_w 513 (by decide +kernel) (by decide +kernel)), rfl⟩
set_option maxRecDepth 20000 in
theorem fX11_16 : q_F RX11 16 11 1 12 false := ⟨RX11, TX11, q_ClX11, by decide, (q_w 514 (by decide +kernel) (by decide +kernel)), rfl⟩
set_option maxRecDepth 20000 in
theorem fX11_19 : q_F RX11 19 11 2 12 true := ⟨RX11, TX11, q_ClX11, by decide, (q_w 515 (by decide +kernel) (by decide +kernel)), rfl⟩
set_option maxRecDepth 20000 in
theorem fX11_26 : q_F RX11 26 11 3 12 true := ⟨RX11, TX11, q_ClX11, by decide, (q_w 516 (by decide +kernel) (by decide +kernel)), rfl⟩
set_option maxRecDepth 20000 in
theorem fX11_33 : q_F RX11 33 11 4 12 true := ⟨RX11, TX11, q_ClX11, by decide, (q_w 517 (by decide +kernel) (by decide +kernel)), rfl⟩
set_option maxRecDepth 20000 in
theorem fX11_42 : q_F RX11 42 11 5 12 true := ⟨RX11, TX11, q_ClX11, by decide, (q_w 518 (by decide +kernel) (by decide +kernel)), rfl⟩
set_option maxRecDepth 20000 in
theorem fX11_49 : q_F RX11 49 11 6 12 true := ⟨RX11, TX11, q_ClX11, by decide, (q_w 519 (by decide +kernel) (by decide +kernel)), rfl⟩
set_option maxRecDepth 20000 in
theorem fX11_56 : q_F RX11 56 11 7 12 true := ⟨RX11, TX11, q_ClX11, by decide, (q_w 520 (by decide +kernel) (by decide +kernel)), rfl⟩
set_option maxRecDepth 20000 in
theorem fX11_63 : q_F RX11 63 11 8 12 true := ⟨RX11, TX11, q_ClX11, by decide, (q_w 521 (by decide +kernel) (by decide +kernel)), rfl⟩
set_option maxRecDepth 20000 in
theorem fX11_67 : q_F RX11 67 11 9 12 false := ⟨RX11, TX11, q_ClX11, by decide, (q_w 522 (by decide +kernel) (by decide +kernel)), rfl⟩
set_option maxRecDepth 20000 in
theorem fX11_71 : q_F RX11 71 11 10 12 false := ⟨RX11, TX11, q_ClX11, by decide, (q_w 523 (by decide +kernel) (by decide +kernel)), rfl⟩
set_option maxRecDepth 20000 in
theorem fX11_74 : q_F RX11 74 11 11 12 false := ⟨RX11, TX11, q_ClX11, by decide, (q_w 524 (by decide +kernel) (by decide +kernel)), rfl⟩
set_option maxRecDepth 20000 in
theorem lL_13 : q_LV RL 13 mX11_feed 5 := ⟨okX11_feed, (q_w 550 (by decide +kernel) (by decide +kernel)), (q_w 551 (by decide +kernel) (by decide +kernel)), (q_w 552 (by decide +kernel) (by decide +kernel))⟩
set_option maxRecDepth 20000 in
theorem lX11_83 : q_LV RX11 83 mX2_addWord 1 := ⟨okX2_addWord, (q_w 554 (by decide +kernel) (by decide +kernel)), (q_w 555 (by decide +kernel) (by decide +kernel)), (q_w 556 (by decide +kernel) (by decide +kernel))⟩
set_option maxRecDepth 20000 in
theorem lX2_25 : q_LV RX2 25 mX2_add 1 := ⟨okX2_add, (q_w 558 (by decide +kernel) (by decide +kernel)), (q_w 559 (by decide +kernel) (by decide +kernel)), (q_w 560 (by decide +kernel) (by decide +kernel))⟩
set_option maxRecDepth 20000 in
theorem lL_18 : q_LV RL 18 mX11_end 1 := ⟨okX11_end, (q_w 562 (by decide +kernel) (by decide +kernel)), (q_w 563 (by decide +kernel) (by decide +kernel)), (q_w 564 (by decide +kernel) (by decide +kernel))⟩
set_option maxRecDepth 20000 in
theorem lL_23 : q_LV RL 23 mX11_text 0 := ⟨okX11_text, (q_w 566 (by decide +kernel) (by decide +kernel)), (q_w 567 (by decide +kernel) (by decide +kernel)), (q_w 568 (by decide +kernel) (by decide +kernel))⟩
set_option maxRecDepth 20000 in
theorem lX11_86 : q_LV RX11 86 mX1_copyFrom 1 := ⟨okX1_copyFrom, (q_w 570 (by decide +kernel) (by decide +kernel)), (q_w 571 (by decide +kernel) (by decide +kernel)), (q_w 572 (by decide +kernel) (by decide +kernel))⟩
set_option maxRecDepth 20000 in
theorem lX1_69 : Cond.methodLink RX1 69 arraycopyName ∈ q_tb := (q_w 574 (by decide +kernel) (by decide +kernel))
set_option maxRecDepth 20000 in
theorem lX1_78 : q_LV RX1 78 mX4_copyFrom 1 := ⟨okX4_copyFrom, (q_w 577 (by decide +kernel) (by decide +kernel)), (q_w 578 (by decide +kernel) (by decide +kernel)), (q_w 579 (by decide +kernel) (by decide +kernel))⟩
set_option maxRecDepth 20000 in
theorem lX4_43 : Cond.methodLink RX4 43 arraycopyName ∈ q_tb := (q_w 581 (by decide +kernel) (by decide +kernel))
set_option maxRecDepth 20000 in
theorem lX1_82 : q_LV RX1 82 mX8_copyFrom 1 := ⟨okX8_copyFrom, (q_w 582 (by decide +kernel) (by decide +kernel)), (q_w 583 (by decide +kernel) (by decide +kernel)), (q_w 584 (by decide +kernel) (by decide +kernel))⟩
set_option maxRecDepth 20000 in
theorem lX8_32 : Cond.methodLink RX8 32 arraycopyName ∈ q_tb := (q_w 586 (by decide +kernel) (by decide +kernel))
set_option maxRecDepth 20000 in
theorem lX1_85 : q_LV RX1 85 mX7_copyFrom 1 := ⟨okX7_copyFrom, (q_w 587 (by decide +kernel) (by decide +kernel)), (q_w 588 (by decide +kernel) (by decide +kernel)), (q_w 589 (by decide +kernel) (by decide +kernel))⟩
set_option maxRecDepth 20000 in
theorem lX7_28 : Cond.methodLink RX7 28 arraycopyName ∈ q_tb := (q_w 591 (by decide +kernel) (by decide +kernel))
set_option maxRecDepth 20000 in
theorem lX1_88 : q_LV RX1 88 mX5_copyFrom 1 := ⟨okX5_copyFrom, (q_w 592 (by decide +kernel) (by decide +kernel)), (q_w 593 (by decide +kernel) (by decide +kernel)), (q_w 594 (by decide +kernel) (by decide +kernel))⟩
set_option maxRecDepth 20000 in
theorem lX5_29 : Cond.methodLink RX5 29 arraycopyName ∈ q_tb := (q_w 596 (by decide +kernel) (by decide +kernel))
set_option maxRecDepth 20000 in
theorem lX11_90 : q_LV RX11 90 mX9_begin 0 := ⟨okX9_begin, (q_w 597 (by decide +kernel) (by decide +kernel)), (q_w 598 (by decide +kernel) (by decide +kernel)), (q_w 599 (by decide +kernel) (by decide +kernel))⟩
set_option maxRecDepth 20000 in
theorem lX11_93 : q_LV RX11 93 mX9_readItems 1 := ⟨okX9_readItems, (q_w 601 (by decide +kernel) (by decide +kernel)), (q_w 602 (by decide +kernel) (by decide +kernel)), (q_w 603 (by decide +kernel) (by decide +kernel))⟩
set_option maxRecDepth 20000 in
theorem lX9_51 : q_LV RX9 51 mX9_hasMore 0 := ⟨okX9_hasMore, (q_w 605 (by decide +kernel) (by decide +kernel)), (q_w 606 (by decide +kernel) (by decide +kernel)), (q_w 607 (by decide +kernel) (by decide +kernel))⟩
set_option maxRecDepth 20000 in
theorem lX9_55 : q_LV RX9 55 mX9_readItem 1 := ⟨okX9_readItem, (q_w 609 (by decide +kernel) (by decide +kernel)), (q_w 611 (by decide +kernel) (by decide +kernel)), (q_w 0 (by decide +kernel) (by decide +kernel))⟩
set_option maxRecDepth 20000 in
theorem lX9_33 : q_LV RX9 33 mX9_peek 0 := ⟨okX9_peek, (q_w 613 (by decide +kernel) (by decide +kernel)), (q_w 614 (by decide +kernel) (by decide +kernel)), (q_w 615 (by decide +kernel) (by decide +kernel))⟩
set_option maxRecDepth 20000 in
theorem lX9_30 : q_LV RX9 30 mX2_at 1 := ⟨okX2_at, (q_w 617 (by decide +kernel) (by decide +kernel)), (q_w 618 (by decide +kernel) (by decide +kernel)), (q_w 619 (by decide +kernel) (by decide +kernel))⟩
set_option maxRecDepth 20000 in
theorem lX9_41 : q_LV RX9 41 mX9_fail 1 := ⟨okX9_fail, (q_w 621 (by decide +kernel) (by decide +kernel)), (q_w 622 (by decide +kernel) (by decide +kernel)), (q_w 623 (by decide +kernel) (by decide +kernel))⟩
set_option maxRecDepth 20000 in
theorem lX9_62 : q_LV RX9 62 mX9_skip 0 := ⟨okX9_skip, (q_w 625 (by decide +kernel) (by decide +kernel)), (q_w 626 (by decide +kernel) (by decide +kernel)), (q_w 627 (by decide +kernel) (by decide +kernel))⟩
set_option maxRecDepth 20000 in
theorem lX9_65 : q_LV RX9 65 mX9_readLimit 1 := ⟨okX9_readLimit, (q_w 629 (by decide +kernel) (by decide +kernel)), (q_w 631 (by decide +kernel) (by decide +kernel)), (q_w 1 (by decide +kernel) (by decide +kernel))⟩
set_option maxRecDepth 20000 in
theorem lX9_68 : q_LV RX9 68 mX9_numberAndComma 2 := ⟨okX9_numberAndComma, (q_w 633 (by decide +kernel) (by decide +kernel)), (q_w 634 (by decide +kernel) (by decide +kernel)), (q_w 635 (by decide +kernel) (by decide +kernel))⟩
set_option maxRecDepth 20000 in
theorem lX9_44 : q_LV RX9 44 mX9_number 2 := ⟨okX9_number, (q_w 637 (by decide +kernel) (by decide +kernel)), (q_w 638 (by decide +kernel) (by decide +kernel)), (q_w 639 (by decide +kernel) (by decide +kernel))⟩
set_option maxRecDepth 20000 in
theorem lX9_37 : q_LS RX9 37 mX9_isDigit 1 := ⟨okX9_isDigit, (q_w 641 (by decide +kernel) (by decide +kernel)), (q_w 642 (by decide +kernel) (by decide +kernel))⟩
set_option maxRecDepth 20000 in
theorem lX9_48 : q_LV RX9 48 mX9_expect 1 := ⟨okX9_expect, (q_w 644 (by decide +kernel) (by decide +kernel)), (q_w 645 (by decide +kernel) (by decide +kernel)), (q_w 646 (by decide +kernel) (by decide +kernel))⟩
set_option maxRecDepth 20000 in
theorem kX9_89 : Cond.constant RX9 89 (zi (999999)) ∈ q_tb := (q_w 648 (by decide +kernel) (by decide +kernel))
set_option maxRecDepth 20000 in
theorem lX9_90 : q_LSN RX9 90 mX11_isYear 1 := ⟨okX11_isYear, (q_wn 649 (by decide +kernel)), (q_w 650 (by decide +kernel) (by decide +kernel))⟩
set_option maxRecDepth 20000 in
theorem lX9_86 : q_LV RX9 86 mX9_readContract 1 := ⟨okX9_readContract, (q_w 652 (by decide +kernel) (by decide +kernel)), (q_w 654 (by decide +kernel) (by decide +kernel)), (q_w 2 (by decide +kernel) (by decide +kernel))⟩
set_option maxRecDepth 20000 in
theorem lX9_100 : q_LS RX9 100 mJ9_min_7cf53 2 := ⟨okJ9_min_7cf53, (q_w 656 (by decide +kernel) (by decide +kernel)), (q_w 657 (by decide +kernel) (by decide +kernel))⟩
set_option maxRecDepth 20000 in
theorem kX9_105 : Cond.constant RX9 105 (zi (99999)) ∈ q_tb := (q_w 659 (by decide +kernel) (by decide +kernel))
set_option maxRecDepth 20000 in
theorem lX9_106 : q_LV RX9 106 mX1_addContract 0 := ⟨okX1_addContract, (q_w 660 (by decide +kernel) (by decide +kernel)), (q_w 661 (by decide +kernel) (by decide +kernel)), (q_w 662 (by decide +kernel) (by decide +kernel))⟩
set_option maxRecDepth 20000 in
theorem lX9_110 : q_LV RX9 110 mX4_start 4 := ⟨okX4_start, (q_w 664 (by decide +kernel) (by decide +kernel)), (q_w 665 (by decide +kernel) (by decide +kernel)), (q_w 666 (by decide +kernel) (by decide +kernel))⟩
set_option maxRecDepth 20000 in
theorem lX9_116 : q_LV RX9 116 mX4_spread 2 := ⟨okX4_spread, (q_w 668 (by decide +kernel) (by decide +kernel)), (q_w 669 (by decide +kernel) (by decide +kernel)), (q_w 670 (by decide +kernel) (by decide +kernel))⟩
set_option maxRecDepth 20000 in
theorem lX4_88 : q_LV RX4 88 mX4_partOf 3 := ⟨okX4_partOf, (q_w 672 (by decide +kernel) (by decide +kernel)), (q_w 673 (by decide +kernel) (by decide +kernel)), (q_w 674 (by decide +kernel) (by decide +kernel))⟩
set_option maxRecDepth 20000 in
theorem lX4_77 : q_LV RX4 77 mX4_lastYear 0 := ⟨okX4_lastYear, (q_w 676 (by decide +kernel) (by decide +kernel)), (q_w 677 (by decide +kernel) (by decide +kernel)), (q_w 678 (by decide +kernel) (by decide +kernel))⟩
set_option maxRecDepth 20000 in
theorem lX4_81 : q_LS RX4 81 mX4_partOfMany 3 := ⟨okX4_partOfMany, (q_w 680 (by decide +kernel) (by decide +kernel)), (q_w 681 (by decide +kernel) (by decide +kernel))⟩
set_option maxRecDepth 20000 in
theorem lX4_85 : q_LS RX4 85 mJ9_min_7cf53 2 := ⟨okJ9_min_7cf53, (q_w 683 (by decide +kernel) (by decide +kernel)), (q_w 657 (by decide +kernel) (by decide +kernel))⟩
set_option maxRecDepth 20000 in
theorem lX9_120 : q_LV RX9 120 mX4_putPay 3 := ⟨okX4_putPay, (q_w 684 (by decide +kernel) (by decide +kernel)), (q_w 685 (by decide +kernel) (by decide +kernel)), (q_w 686 (by decide +kernel) (by decide +kernel))⟩
set_option maxRecDepth 20000 in
theorem lX11_97 : q_LV RX11 97 mX11_takeDraft 1 := ⟨okX11_takeDraft, (q_w 688 (by decide +kernel) (by decide +kernel)), (q_w 690 (by decide +kernel) (by decide +kernel)), (q_w 3 (by decide +kernel) (by decide +kernel))⟩
set_option maxRecDepth 20000 in
theorem lX11_126 : q_LV RX11 126 mX9_finish 0 := ⟨okX9_finish, (q_w 692 (by decide +kernel) (by decide +kernel)), (q_w 693 (by decide +kernel) (by decide +kernel)), (q_w 694 (by decide +kernel) (by decide +kernel))⟩
set_option maxRecDepth 20000 in
theorem lX11_247 : q_LV RX11 247 mX6_push 1 := ⟨okX6_push, (q_w 696 (by decide +kernel) (by decide +kernel)), (q_w 697 (by decide +kernel) (by decide +kernel)), (q_w 698 (by decide +kernel) (by decide +kernel))⟩
set_option maxRecDepth 20000 in
theorem lX6_19 : q_LI RX6 19 mX1_init 0 := ⟨okX1_init, (q_w 700 (by decide +kernel) (by decide +kernel)), (q_w 123 (by decide +kernel) (by decide +kernel)), rfl, rfl⟩
set_option maxRecDepth 20000 in
theorem lX6_20 : q_LV RX6 20 mX1_copyFrom 1 := ⟨okX1_copyFrom, (q_w 701 (by decide +kernel) (by decide +kernel)), (q_w 571 (by decide +kernel) (by decide +kernel)), (q_w 572 (by decide +kernel) (by decide +kernel))⟩
set_option maxRecDepth 20000 in
theorem lX6_27 : q_LS RX6 27 mJ9_min_7cf53 2 := ⟨okJ9_min_7cf53, (q_w 702 (by decide +kernel) (by decide +kernel)), (q_w 657 (by decide +kernel) (by decide +kernel))⟩
set_option maxRecDepth 20000 in
theorem lL_28 : q_LV RL 28 mX11_policy 0 := ⟨okX11_policy, (q_w 703 (by decide +kernel) (by decide +kernel)), (q_w 704 (by decide +kernel) (by decide +kernel)), (q_w 705 (by decide +kernel) (by decide +kernel))⟩
set_option maxRecDepth 20000 in
theorem lX11_105 : q_LV RX11 105 mX5_read 1 := ⟨okX5_read, (q_w 707 (by decide +kernel) (by decide +kernel)), (q_w 708 (by decide +kernel) (by decide +kernel)), (q_w 709 (by decide +kernel) (by decide +kernel))⟩
set_option maxRecDepth 20000 in
theorem lX5_38 : q_LV RX5 38 mX9_hasMore 0 := ⟨okX9_hasMore, (q_w 711 (by decide +kernel) (by decide +kernel)), (q_w 606 (by decide +kernel) (by decide +kernel)), (q_w 607 (by decide +kernel) (by decide +kernel))⟩
set_option maxRecDepth 20000 in
theorem lX5_44 : q_LV RX5 44 mX9_peek 0 := ⟨okX9_peek, (q_w 712 (by decide +kernel) (by decide +kernel)), (q_w 614 (by decide +kernel) (by decide +kernel)), (q_w 615 (by decide +kernel) (by decide +kernel))⟩
set_option maxRecDepth 20000 in
theorem lX5_51 : q_LV RX5 51 mX9_fail 1 := ⟨okX9_fail, (q_w 713 (by decide +kernel) (by decide +kernel)), (q_w 622 (by decide +kernel) (by decide +kernel)), (q_w 623 (by decide +kernel) (by decide +kernel))⟩
set_option maxRecDepth 20000 in
theorem lX5_55 : q_LV RX5 55 mX9_skip 0 := ⟨okX9_skip, (q_w 714 (by decide +kernel) (by decide +kernel)), (q_w 626 (by decide +kernel) (by decide +kernel)), (q_w 627 (by decide +kernel) (by decide +kernel))⟩
set_option maxRecDepth 20000 in
theorem lX5_58 : q_LV RX5 58 mX5_hold 1 := ⟨okX5_hold, (q_w 715 (by decide +kernel) (by decide +kernel)), (q_w 717 (by decide +kernel) (by decide +kernel)), (q_w 4 (by decide +kernel) (by decide +kernel))⟩
set_option maxRecDepth 20000 in
theorem lX5_61 : q_LV RX5 61 mX5_readThing 1 := ⟨okX5_readThing, (q_w 719 (by decide +kernel) (by decide +kernel)), (q_w 721 (by decide +kernel) (by decide +kernel)), (q_w 5 (by decide +kernel) (by decide +kernel))⟩
set_option maxRecDepth 20000 in
theorem lX5_74 : q_LS RX5 74 mX5_placeOf 1 := ⟨okX5_placeOf, (q_w 723 (by decide +kernel) (by decide +kernel)), (q_w 724 (by decide +kernel) (by decide +kernel))⟩
set_option maxRecDepth 20000 in
theorem lX5_88 : q_LV RX5 88 mJ0_charAt_5068e 1 := ⟨okJ0_charAt_5068e, (q_w 727 (by decide +kernel) (by decide +kernel)), (q_w 728 (by decide +kernel) (by decide +kernel)), (q_w 729 (by decide +kernel) (by decide +kernel))⟩
set_option maxRecDepth 20000 in
theorem lJ0_492 : q_LV RJ0 492 mJ0_isLatin1_aae02 0 := ⟨okJ0_isLatin1_aae02, (q_w 731 (by decide +kernel) (by decide +kernel)), (q_w 732 (by decide +kernel) (by decide +kernel)), (q_w 733 (by decide +kernel) (by decide +kernel))⟩
set_option maxRecDepth 20000 in
theorem lJ0_495 : q_LS RJ0 495 mJ1_charAt_3b067 2 := ⟨okJ1_charAt_3b067, (q_w 737 (by decide +kernel) (by decide +kernel)), (q_w 738 (by decide +kernel) (by decide +kernel))⟩
set_option maxRecDepth 20000 in
theorem lJ1_9 : q_LS RJ1 9 mJ0_checkIndex_df160 2 := ⟨okJ0_checkIndex_df160, (q_w 740 (by decide +kernel) (by decide +kernel)), (q_w 741 (by decide +kernel) (by decide +kernel))⟩
set_option maxRecDepth 20000 in
theorem lJ0_1059 : q_LS RJ0 1059 mJ3_checkIndex_8e157 3 := ⟨okJ3_checkIndex_8e157, (q_w 745 (by decide +kernel) (by decide +kernel)), (q_w 746 (by decide +kernel) (by decide +kernel))⟩
set_option maxRecDepth 20000 in
theorem lJ0_498 : q_LS RJ0 498 mJ2_charAt_3b067 2 := ⟨okJ2_charAt_3b067, (q_w 748 (by decide +kernel) (by decide +kernel)), (q_w 749 (by decide +kernel) (by decide +kernel))⟩
set_option maxRecDepth 20000 in
theorem lJ2_67 : q_LS RJ2 67 mJ2_checkIndex_2214a 2 := ⟨okJ2_checkIndex_2214a, (q_w 751 (by decide +kernel) (by decide +kernel)), (q_w 752 (by decide +kernel) (by decide +kernel))⟩
set_option maxRecDepth 20000 in
theorem lJ2_48 : q_LS RJ2 48 mJ2_length_9d52b 1 := ⟨okJ2_length_9d52b, (q_w 754 (by decide +kernel) (by decide +kernel)), (q_w 755 (by decide +kernel) (by decide +kernel))⟩
set_option maxRecDepth 20000 in
theorem lJ2_414 : q_LS RJ2 414 mJ0_checkIndex_df160 2 := ⟨okJ0_checkIndex_df160, (q_w 757 (by decide +kernel) (by decide +kernel)), (q_w 741 (by decide +kernel) (by decide +kernel))⟩
set_option maxRecDepth 20000 in
theorem lJ2_71 : q_LS RJ2 71 mJ2_getChar_3b067 2 := ⟨okJ2_getChar_3b067, (q_w 758 (by decide +kernel) (by decide +kernel)), (q_w 759 (by decide +kernel) (by decide +kernel))⟩
set_option maxRecDepth 20000 in
theorem kX5_78 : Cond.constant RX5 78 (zi (999999)) ∈ q_tb := (q_w 767 (by decide +kernel) (by decide +kernel))
set_option maxRecDepth 20000 in
theorem lX5_79 : q_LV RX5 79 mX9_number 2 := ⟨okX9_number, (q_w 768 (by decide +kernel) (by decide +kernel)), (q_w 638 (by decide +kernel) (by decide +kernel)), (q_w 639 (by decide +kernel) (by decide +kernel))⟩
set_option maxRecDepth 20000 in
theorem lX5_83 : q_LV RX5 83 mX5_emit 1 := ⟨okX5_emit, (q_w 769 (by decide +kernel) (by decide +kernel)), (q_w 771 (by decide +kernel) (by decide +kernel)), (q_w 6 (by decide +kernel) (by decide +kernel))⟩
set_option maxRecDepth 20000 in
theorem lX5_65 : q_LV RX5 65 mX5_closeBracket 0 := ⟨okX5_closeBracket, (q_w 773 (by decide +kernel) (by decide +kernel)), (q_w 775 (by decide +kernel) (by decide +kernel)), (q_w 7 (by decide +kernel) (by decide +kernel))⟩
set_option maxRecDepth 20000 in
theorem lX5_71 : q_LV RX5 71 mX5_emitWaiting 1 := ⟨okX5_emitWaiting, (q_w 777 (by decide +kernel) (by decide +kernel)), (q_w 779 (by decide +kernel) (by decide +kernel)), (q_w 8 (by decide +kernel) (by decide +kernel))⟩
set_option maxRecDepth 20000 in
theorem lX5_97 : q_LS RX5 97 mJ9_max_7cf53 2 := ⟨okJ9_max_7cf53, (q_w 781 (by decide +kernel) (by decide +kernel)), (q_w 381 (by decide +kernel) (by decide +kernel))⟩
set_option maxRecDepth 20000 in
theorem lX5_94 : q_LS RX5 94 mX5_strength 1 := ⟨okX5_strength, (q_w 782 (by decide +kernel) (by decide +kernel)), (q_w 783 (by decide +kernel) (by decide +kernel))⟩
set_option maxRecDepth 20000 in
theorem lX5_68 : q_LV RX5 68 mX5_readOperator 1 := ⟨okX5_readOperator, (q_w 785 (by decide +kernel) (by decide +kernel)), (q_w 787 (by decide +kernel) (by decide +kernel)), (q_w 9 (by decide +kernel) (by decide +kernel))⟩
set_option maxRecDepth 20000 in
theorem lL_32 : q_LV RL 32 mX11_market 0 := ⟨okX11_market, (q_w 790 (by decide +kernel) (by decide +kernel)), (q_w 791 (by decide +kernel) (by decide +kernel)), (q_w 792 (by decide +kernel) (by decide +kernel))⟩
set_option maxRecDepth 20000 in
theorem lX11_118 : q_LV RX11 118 mX7_read 2 := ⟨okX7_read, (q_w 794 (by decide +kernel) (by decide +kernel)), (q_w 795 (by decide +kernel) (by decide +kernel)), (q_w 796 (by decide +kernel) (by decide +kernel))⟩
set_option maxRecDepth 20000 in
theorem lX7_44 : q_LV RX7 44 mX9_hasMore 0 := ⟨okX9_hasMore, (q_w 798 (by decide +kernel) (by decide +kernel)), (q_w 606 (by decide +kernel) (by decide +kernel)), (q_w 607 (by decide +kernel) (by decide +kernel))⟩
set_option maxRecDepth 20000 in
theorem lX7_50 : q_LV RX7 50 mX9_numberAndComma 2 := ⟨okX9_numberAndComma, (q_w 799 (by decide +kernel) (by decide +kernel)), (q_w 634 (by decide +kernel) (by decide +kernel)), (q_w 635 (by decide +kernel) (by decide +kernel))⟩
set_option maxRecDepth 20000 in
theorem kX7_54 : Cond.constant RX7 54 (zi (99999)) ∈ q_tb := (q_w 800 (by decide +kernel) (by decide +kernel))
set_option maxRecDepth 20000 in
theorem lX7_55 : q_LV RX7 55 mX9_number 2 := ⟨okX9_number, (q_w 801 (by decide +kernel) (by decide +kernel)), (q_w 638 (by decide +kernel) (by decide +kernel)), (q_w 639 (by decide +kernel) (by decide +kernel))⟩
set_option maxRecDepth 20000 in
theorem lX7_58 : q_LV RX7 58 mX9_expect 1 := ⟨okX9_expect, (q_w 802 (by decide +kernel) (by decide +kernel)), (q_w 645 (by decide +kernel) (by decide +kernel)), (q_w 646 (by decide +kernel) (by decide +kernel))⟩
set_option maxRecDepth 20000 in
theorem lX7_65 : q_LV RX7 65 mX9_fail 1 := ⟨okX9_fail, (q_w 803 (by decide +kernel) (by decide +kernel)), (q_w 622 (by decide +kernel) (by decide +kernel)), (q_w 623 (by decide +kernel) (by decide +kernel))⟩
set_option maxRecDepth 20000 in
theorem lL_36 : q_LV RL 36 mX11_acts 0 := ⟨okX11_acts, (q_w 804 (by decide +kernel) (by decide +kernel)), (q_w 805 (by decide +kernel) (by decide +kernel)), (q_w 806 (by decide +kernel) (by decide +kernel))⟩
set_option maxRecDepth 20000 in
theorem lX11_123 : q_LV RX11 123 mX0_read 1 := ⟨okX0_read, (q_w 808 (by decide +kernel) (by decide +kernel)), (q_w 809 (by decide +kernel) (by decide +kernel)), (q_w 810 (by decide +kernel) (by decide +kernel))⟩
set_option maxRecDepth 20000 in
theorem lX0_25 : q_LV RX0 25 mX9_hasMore 0 := ⟨okX9_hasMore, (q_w 812 (by decide +kernel) (by decide +kernel)), (q_w 606 (by decide +kernel) (by decide +kernel)), (q_w 607 (by decide +kernel) (by decide +kernel))⟩
set_option maxRecDepth 20000 in
theorem lX0_31 : q_LV RX0 31 mX0_readAct 2 := ⟨okX0_readAct, (q_w 813 (by decide +kernel) (by decide +kernel)), (q_w 815 (by decide +kernel) (by decide +kernel)), (q_w 10 (by decide +kernel) (by decide +kernel))⟩
set_option maxRecDepth 20000 in
theorem lX0_45 : q_LV RX0 45 mX9_peek 0 := ⟨okX9_peek, (q_w 817 (by decide +kernel) (by decide +kernel)), (q_w 614 (by decide +kernel) (by decide +kernel)), (q_w 615 (by decide +kernel) (by decide +kernel))⟩
set_option maxRecDepth 20000 in
theorem lX0_49 : q_LV RX0 49 mX9_skip 0 := ⟨okX9_skip, (q_w 818 (by decide +kernel) (by decide +kernel)), (q_w 626 (by decide +kernel) (by decide +kernel)), (q_w 627 (by decide +kernel) (by decide +kernel))⟩
set_option maxRecDepth 20000 in
theorem kX0_52 : Cond.constant RX0 52 (zi (999999)) ∈ q_tb := (q_w 819 (by decide +kernel) (by decide +kernel))
set_option maxRecDepth 20000 in
theorem lX0_53 : q_LV RX0 53 mX9_number 2 := ⟨okX9_number, (q_w 820 (by decide +kernel) (by decide +kernel)), (q_w 638 (by decide +kernel) (by decide +kernel)), (q_w 639 (by decide +kernel) (by decide +kernel))⟩
set_option maxRecDepth 20000 in
theorem lX0_57 : q_LV RX0 57 mX9_numberAndComma 2 := ⟨okX9_numberAndComma, (q_w 821 (by decide +kernel) (by decide +kernel)), (q_w 634 (by decide +kernel) (by decide +kernel)), (q_w 635 (by decide +kernel) (by decide +kernel))⟩
set_option maxRecDepth 20000 in
theorem lX0_42 : q_LV RX0 42 mX9_fail 1 := ⟨okX9_fail, (q_w 822 (by decide +kernel) (by decide +kernel)), (q_w 622 (by decide +kernel) (by decide +kernel)), (q_w 623 (by decide +kernel) (by decide +kernel))⟩
set_option maxRecDepth 20000 in
theorem lX0_35 : q_LV RX0 35 mX9_expect 1 := ⟨okX9_expect, (q_w 823 (by decide +kernel) (by decide +kernel)), (q_w 645 (by decide +kernel) (by decide +kernel)), (q_w 646 (by decide +kernel) (by decide +kernel))⟩
set_option maxRecDepth 20000 in
theorem lX11_131 : q_LV RX11 131 mX11_perform 1 := ⟨okX11_perform, (q_w 824 (by decide +kernel) (by decide +kernel)), (q_w 826 (by decide +kernel) (by decide +kernel)), (q_w 11 (by decide +kernel) (by decide +kernel))⟩
set_option maxRecDepth 20000 in
theorem lX11_240 : q_LV RX11 240 mX11_letGo 2 := ⟨okX11_letGo, (q_w 828 (by decide +kernel) (by decide +kernel)), (q_w 830 (by decide +kernel) (by decide +kernel)), (q_w 12 (by decide +kernel) (by decide +kernel))⟩
set_option maxRecDepth 20000 in
theorem lX11_463 : q_LV RX11 463 mX1_refusal 1 := ⟨okX1_refusal, (q_w 832 (by decide +kernel) (by decide +kernel)), (q_w 833 (by decide +kernel) (by decide +kernel)), (q_w 834 (by decide +kernel) (by decide +kernel))⟩
set_option maxRecDepth 20000 in
theorem lX1_98 : q_LV RX1 98 mX1_find 1 := ⟨okX1_find, (q_w 836 (by decide +kernel) (by decide +kernel)), (q_w 837 (by decide +kernel) (by decide +kernel)), (q_w 838 (by decide +kernel) (by decide +kernel))⟩
set_option maxRecDepth 20000 in
theorem lX1_102 : q_LV RX1 102 mX4_isOpen 0 := ⟨okX4_isOpen, (q_w 840 (by decide +kernel) (by decide +kernel)), (q_w 841 (by decide +kernel) (by decide +kernel)), (q_w 842 (by decide +kernel) (by decide +kernel))⟩
set_option maxRecDepth 20000 in
theorem lX11_319 : q_LV RX11 319 mX1_release 2 := ⟨okX1_release, (q_w 844 (by decide +kernel) (by decide +kernel)), (q_w 845 (by decide +kernel) (by decide +kernel)), (q_w 846 (by decide +kernel) (by decide +kernel))⟩
set_option maxRecDepth 20000 in
theorem lX1_175 : q_LV RX1 175 mX1_findBegun 1 := ⟨okX1_findBegun, (q_w 848 (by decide +kernel) (by decide +kernel)), (q_w 849 (by decide +kernel) (by decide +kernel)), (q_w 850 (by decide +kernel) (by decide +kernel))⟩
set_option maxRecDepth 20000 in
theorem lX1_91 : q_LV RX1 91 mX1_refusal 1 := ⟨okX1_refusal, (q_w 852 (by decide +kernel) (by decide +kernel)), (q_w 833 (by decide +kernel) (by decide +kernel)), (q_w 834 (by decide +kernel) (by decide +kernel))⟩
set_option maxRecDepth 20000 in
theorem lX1_171 : q_LV RX1 171 mX1_deadPartsNow 2 := ⟨okX1_deadPartsNow, (q_w 853 (by decide +kernel) (by decide +kernel)), (q_w 854 (by decide +kernel) (by decide +kernel)), (q_w 855 (by decide +kernel) (by decide +kernel))⟩
set_option maxRecDepth 20000 in
theorem lX1_161 : q_LV RX1 161 mX4_partsFrom 1 := ⟨okX4_partsFrom, (q_w 857 (by decide +kernel) (by decide +kernel)), (q_w 858 (by decide +kernel) (by decide +kernel)), (q_w 859 (by decide +kernel) (by decide +kernel))⟩
set_option maxRecDepth 20000 in
theorem lX4_57 : q_LS RX4 57 mJ9_max_7cf53 2 := ⟨okJ9_max_7cf53, (q_w 861 (by decide +kernel) (by decide +kernel)), (q_w 381 (by decide +kernel) (by decide +kernel))⟩
set_option maxRecDepth 20000 in
theorem lX1_164 : q_LV RX1 164 mX4_partsIn 1 := ⟨okX4_partsIn, (q_w 862 (by decide +kernel) (by decide +kernel)), (q_w 863 (by decide +kernel) (by decide +kernel)), (q_w 864 (by decide +kernel) (by decide +kernel))⟩
set_option maxRecDepth 20000 in
theorem lX1_178 : q_LV RX1 178 mX1_deadNow 2 := ⟨okX1_deadNow, (q_w 866 (by decide +kernel) (by decide +kernel)), (q_w 867 (by decide +kernel) (by decide +kernel)), (q_w 868 (by decide +kernel) (by decide +kernel))⟩
set_option maxRecDepth 20000 in
theorem lX1_167 : q_LV RX1 167 mX1_deadPay 3 := ⟨okX1_deadPay, (q_w 870 (by decide +kernel) (by decide +kernel)), (q_w 871 (by decide +kernel) (by decide +kernel)), (q_w 872 (by decide +kernel) (by decide +kernel))⟩
set_option maxRecDepth 20000 in
theorem lX1_155 : q_LV RX1 155 mX4_sureBase 1 := ⟨okX4_sureBase, (q_w 874 (by decide +kernel) (by decide +kernel)), (q_w 875 (by decide +kernel) (by decide +kernel)), (q_w 876 (by decide +kernel) (by decide +kernel))⟩
set_option maxRecDepth 20000 in
theorem lX1_158 : q_LV RX1 158 mX4_rosterBonus 1 := ⟨okX4_rosterBonus, (q_w 878 (by decide +kernel) (by decide +kernel)), (q_w 879 (by decide +kernel) (by decide +kernel)), (q_w 880 (by decide +kernel) (by decide +kernel))⟩
set_option maxRecDepth 20000 in
theorem lX4_53 : q_LV RX4 53 mX4_plays 1 := ⟨okX4_plays, (q_w 882 (by decide +kernel) (by decide +kernel)), (q_w 884 (by decide +kernel) (by decide +kernel)), (q_w 13 (by decide +kernel) (by decide +kernel))⟩
set_option maxRecDepth 20000 in
theorem lX1_181 : q_LV RX1 181 mX1_deadNext 2 := ⟨okX1_deadNext, (q_w 886 (by decide +kernel) (by decide +kernel)), (q_w 887 (by decide +kernel) (by decide +kernel)), (q_w 888 (by decide +kernel) (by decide +kernel))⟩
set_option maxRecDepth 20000 in
theorem lX11_154 : q_LV RX11 154 mX1_manyThatAre 1 := ⟨okX1_manyThatAre, (q_w 890 (by decide +kernel) (by decide +kernel)), (q_w 891 (by decide +kernel) (by decide +kernel)), (q_w 892 (by decide +kernel) (by decide +kernel))⟩
set_option maxRecDepth 20000 in
theorem lX11_455 : q_LV RX11 455 mX11_turn 2 := ⟨okX11_turn, (q_w 894 (by decide +kernel) (by decide +kernel)), (q_w 895 (by decide +kernel) (by decide +kernel)), (q_w 896 (by decide +kernel) (by decide +kernel))⟩
set_option maxRecDepth 20000 in
theorem lX11_282 : q_LV RX11 282 mX1_payRefusal 2 := ⟨okX1_payRefusal, (q_w 898 (by decide +kernel) (by decide +kernel)), (q_w 899 (by decide +kernel) (by decide +kernel)), (q_w 900 (by decide +kernel) (by decide +kernel))⟩
set_option maxRecDepth 20000 in
theorem kX1_109 : Cond.constant RX1 109 (zi (99999)) ∈ q_tb := (q_w 902 (by decide +kernel) (by decide +kernel))
set_option maxRecDepth 20000 in
theorem lX1_110 : q_LV RX1 110 mX4_basePay 1 := ⟨okX4_basePay, (q_w 903 (by decide +kernel) (by decide +kernel)), (q_w 904 (by decide +kernel) (by decide +kernel)), (q_w 905 (by decide +kernel) (by decide +kernel))⟩
set_option maxRecDepth 20000 in
theorem lX11_168 : q_LV RX11 168 mX1_find 1 := ⟨okX1_find, (q_w 907 (by decide +kernel) (by decide +kernel)), (q_w 837 (by decide +kernel) (by decide +kernel)), (q_w 838 (by decide +kernel) (by decide +kernel))⟩
set_option maxRecDepth 20000 in
theorem lX11_286 : q_LV RX11 286 mX4_takeFromBase 2 := ⟨okX4_takeFromBase, (q_w 908 (by decide +kernel) (by decide +kernel)), (q_w 909 (by decide +kernel) (by decide +kernel)), (q_w 910 (by decide +kernel) (by decide +kernel))⟩
set_option maxRecDepth 20000 in
theorem lX11_290 : q_LV RX11 290 mX4_spread 2 := ⟨okX4_spread, (q_w 912 (by decide +kernel) (by decide +kernel)), (q_w 669 (by decide +kernel) (by decide +kernel)), (q_w 670 (by decide +kernel) (by decide +kernel))⟩
set_option maxRecDepth 20000 in
theorem lX11_196 : q_LV RX11 196 mX4_hit 1 := ⟨okX4_hit, (q_w 913 (by decide +kernel) (by decide +kernel)), (q_w 914 (by decide +kernel) (by decide +kernel)), (q_w 915 (by decide +kernel) (by decide +kernel))⟩
set_option maxRecDepth 20000 in
theorem lX4_63 : q_LV RX4 63 mX4_basePay 1 := ⟨okX4_basePay, (q_w 917 (by decide +kernel) (by decide +kernel)), (q_w 904 (by decide +kernel) (by decide +kernel)), (q_w 905 (by decide +kernel) (by decide +kernel))⟩
set_option maxRecDepth 20000 in
theorem lX4_67 : q_LV RX4 67 mX4_rosterBonus 1 := ⟨okX4_rosterBonus, (q_w 918 (by decide +kernel) (by decide +kernel)), (q_w 879 (by decide +kernel) (by decide +kernel)), (q_w 880 (by decide +kernel) (by decide +kernel))⟩
set_option maxRecDepth 20000 in
theorem lX4_70 : q_LV RX4 70 mX4_partsIn 1 := ⟨okX4_partsIn, (q_w 919 (by decide +kernel) (by decide +kernel)), (q_w 863 (by decide +kernel) (by decide +kernel)), (q_w 864 (by decide +kernel) (by decide +kernel))⟩
set_option maxRecDepth 20000 in
theorem lX11_458 : q_LV RX11 458 mX11_days 1 := ⟨okX11_days, (q_w 920 (by decide +kernel) (by decide +kernel)), (q_w 921 (by decide +kernel) (by decide +kernel)), (q_w 922 (by decide +kernel) (by decide +kernel))⟩
set_option maxRecDepth 20000 in
theorem lX11_461 : q_LV RX11 461 mX11_year 0 := ⟨okX11_year, (q_w 924 (by decide +kernel) (by decide +kernel)), (q_w 925 (by decide +kernel) (by decide +kernel)), (q_w 926 (by decide +kernel) (by decide +kernel))⟩
set_option maxRecDepth 20000 in
theorem lX11_211 : q_LV RX11 211 mX10_load 1 := ⟨okX10_load, (q_w 928 (by decide +kernel) (by decide +kernel)), (q_w 929 (by decide +kernel) (by decide +kernel)), (q_w 930 (by decide +kernel) (by decide +kernel))⟩
set_option maxRecDepth 20000 in
theorem lX10_42 : q_LV RX10 42 mX4_hit 1 := ⟨okX4_hit, (q_w 932 (by decide +kernel) (by decide +kernel)), (q_w 914 (by decide +kernel) (by decide +kernel)), (q_w 915 (by decide +kernel) (by decide +kernel))⟩
set_option maxRecDepth 20000 in
theorem lX10_47 : q_LV RX10 47 mX4_partsIn 1 := ⟨okX4_partsIn, (q_w 933 (by decide +kernel) (by decide +kernel)), (q_w 863 (by decide +kernel) (by decide +kernel)), (q_w 864 (by decide +kernel) (by decide +kernel))⟩
set_option maxRecDepth 20000 in
theorem lX10_50 : q_LV RX10 50 mX4_isOpen 0 := ⟨okX4_isOpen, (q_w 934 (by decide +kernel) (by decide +kernel)), (q_w 841 (by decide +kernel) (by decide +kernel)), (q_w 842 (by decide +kernel) (by decide +kernel))⟩
set_option maxRecDepth 20000 in
theorem lX10_58 : q_LV RX10 58 mX10_loadPromises 2 := ⟨okX10_loadPromises, (q_w 935 (by decide +kernel) (by decide +kernel)), (q_w 937 (by decide +kernel) (by decide +kernel)), (q_w 14 (by decide +kernel) (by decide +kernel))⟩
set_option maxRecDepth 20000 in
theorem lX10_62 : q_LV RX10 62 mX10_rank 0 := ⟨okX10_rank, (q_w 939 (by decide +kernel) (by decide +kernel)), (q_w 940 (by decide +kernel) (by decide +kernel)), (q_w 941 (by decide +kernel) (by decide +kernel))⟩
set_option maxRecDepth 20000 in
theorem lX10_78 : q_LV RX10 78 mX10_isAhead 2 := ⟨okX10_isAhead, (q_w 943 (by decide +kernel) (by decide +kernel)), (q_w 945 (by decide +kernel) (by decide +kernel)), (q_w 15 (by decide +kernel) (by decide +kernel))⟩
set_option maxRecDepth 20000 in
theorem lX11_218 : q_LV RX11 218 mX10_room 1 := ⟨okX10_room, (q_w 947 (by decide +kernel) (by decide +kernel)), (q_w 948 (by decide +kernel) (by decide +kernel)), (q_w 949 (by decide +kernel) (by decide +kernel))⟩
set_option maxRecDepth 20000 in
theorem lX10_97 : q_LV RX10 97 mX10_count 2 := ⟨okX10_count, (q_w 951 (by decide +kernel) (by decide +kernel)), (q_w 952 (by decide +kernel) (by decide +kernel)), (q_w 953 (by decide +kernel) (by decide +kernel))⟩
set_option maxRecDepth 20000 in
theorem lX10_85 : q_LV RX10 85 mX1_fullPlaces 1 := ⟨okX1_fullPlaces, (q_w 955 (by decide +kernel) (by decide +kernel)), (q_w 956 (by decide +kernel) (by decide +kernel)), (q_w 957 (by decide +kernel) (by decide +kernel))⟩
set_option maxRecDepth 20000 in
theorem lX10_88 : q_LV RX10 88 mX10_total 1 := ⟨okX10_total, (q_w 959 (by decide +kernel) (by decide +kernel)), (q_w 961 (by decide +kernel) (by decide +kernel)), (q_w 16 (by decide +kernel) (by decide +kernel))⟩
set_option maxRecDepth 20000 in
theorem lX11_303 : q_LV RX11 303 mX1_passYear 1 := ⟨okX1_passYear, (q_w 963 (by decide +kernel) (by decide +kernel)), (q_w 964 (by decide +kernel) (by decide +kernel)), (q_w 965 (by decide +kernel) (by decide +kernel))⟩
set_option maxRecDepth 20000 in
theorem lX1_187 : q_LS RX1 187 mJ9_max_7cf53 2 := ⟨okJ9_max_7cf53, (q_w 967 (by decide +kernel) (by decide +kernel)), (q_w 381 (by decide +kernel) (by decide +kernel))⟩
set_option maxRecDepth 20000 in
theorem lX1_205 : q_LV RX1 205 mX1_promisesSettled 0 := ⟨okX1_promisesSettled, (q_w 968 (by decide +kernel) (by decide +kernel)), (q_w 970 (by decide +kernel) (by decide +kernel)), (q_w 17 (by decide +kernel) (by decide +kernel))⟩
set_option maxRecDepth 20000 in
theorem lX1_218 : q_LV RX1 218 mX8_settled 1 := ⟨okX8_settled, (q_w 972 (by decide +kernel) (by decide +kernel)), (q_w 973 (by decide +kernel) (by decide +kernel)), (q_w 974 (by decide +kernel) (by decide +kernel))⟩
set_option maxRecDepth 20000 in
theorem kX1_208 : Cond.constant RX1 208 (zi (999999)) ∈ q_tb := (q_w 976 (by decide +kernel) (by decide +kernel))
set_option maxRecDepth 20000 in
theorem lX1_209 : q_LS RX1 209 mJ9_min_7cf53 2 := ⟨okJ9_min_7cf53, (q_w 977 (by decide +kernel) (by decide +kernel)), (q_w 657 (by decide +kernel) (by decide +kernel))⟩
set_option maxRecDepth 20000 in
theorem lL_40 : q_LV RL 40 mX11_fault 0 := ⟨okX11_fault, (q_w 978 (by decide +kernel) (by decide +kernel)), (q_w 979 (by decide +kernel) (by decide +kernel)), (q_w 980 (by decide +kernel) (by decide +kernel))⟩
set_option maxRecDepth 20000 in
theorem lL_44 : q_LV RL 44 mX11_ended 0 := ⟨okX11_ended, (q_w 982 (by decide +kernel) (by decide +kernel)), (q_w 983 (by decide +kernel) (by decide +kernel)), (q_w 984 (by decide +kernel) (by decide +kernel))⟩
set_option maxRecDepth 20000 in
theorem lL_48 : q_LV RL 48 mX11_why 0 := ⟨okX11_why, (q_w 986 (by decide +kernel) (by decide +kernel)), (q_w 987 (by decide +kernel) (by decide +kernel)), (q_w 988 (by decide +kernel) (by decide +kernel))⟩
set_option maxRecDepth 20000 in
theorem lL_52 : q_LV RL 52 mX11_is 1 := ⟨okX11_is, (q_w 990 (by decide +kernel) (by decide +kernel)), (q_w 991 (by decide +kernel) (by decide +kernel)), (q_w 992 (by decide +kernel) (by decide +kernel))⟩
set_option maxRecDepth 20000 in
theorem lL_56 : q_LV RL 56 mX11_limit 1 := ⟨okX11_limit, (q_w 994 (by decide +kernel) (by decide +kernel)), (q_w 995 (by decide +kernel) (by decide +kernel)), (q_w 996 (by decide +kernel) (by decide +kernel))⟩
set_option maxRecDepth 20000 in
theorem lX11_158 : q_LS RX11 158 mX11_isYear 1 := ⟨okX11_isYear, (q_w 998 (by decide +kernel) (by decide +kernel)), (q_w 650 (by decide +kernel) (by decide +kernel))⟩
set_option maxRecDepth 20000 in
theorem lL_60 : q_LV RL 60 mX11_dead 1 := ⟨okX11_dead, (q_w 999 (by decide +kernel) (by decide +kernel)), (q_w 1000 (by decide +kernel) (by decide +kernel)), (q_w 1001 (by decide +kernel) (by decide +kernel))⟩
set_option maxRecDepth 20000 in
theorem lL_64 : q_LV RL 64 mX11_contract 2 := ⟨okX11_contract, (q_w 1003 (by decide +kernel) (by decide +kernel)), (q_w 1004 (by decide +kernel) (by decide +kernel)), (q_w 1005 (by decide +kernel) (by decide +kernel))⟩
set_option maxRecDepth 20000 in
theorem lX11_189 : q_LV RX11 189 mX4_yearsLeft 1 := ⟨okX4_yearsLeft, (q_w 1007 (by decide +kernel) (by decide +kernel)), (q_w 1008 (by decide +kernel) (by decide +kernel)), (q_w 1009 (by decide +kernel) (by decide +kernel))⟩
set_option maxRecDepth 20000 in
theorem lX4_49 : q_LV RX4 49 mX4_isOpen 0 := ⟨okX4_isOpen, (q_w 1011 (by decide +kernel) (by decide +kernel)), (q_w 841 (by decide +kernel) (by decide +kernel)), (q_w 842 (by decide +kernel) (by decide +kernel))⟩
set_option maxRecDepth 20000 in
theorem lX11_192 : q_LV RX11 192 mX4_isOpen 0 := ⟨okX4_isOpen, (q_w 1012 (by decide +kernel) (by decide +kernel)), (q_w 841 (by decide +kernel) (by decide +kernel)), (q_w 842 (by decide +kernel) (by decide +kernel))⟩
set_option maxRecDepth 20000 in
theorem lX11_199 : q_LV RX11 199 mX11_countsInFull 1 := ⟨okX11_countsInFull, (q_w 1013 (by decide +kernel) (by decide +kernel)), (q_w 1015 (by decide +kernel) (by decide +kernel)), (q_w 18 (by decide +kernel) (by decide +kernel))⟩
set_option maxRecDepth 20000 in
theorem lX11_397 : q_LV RX11 397 mX1_fullPlaces 1 := ⟨okX1_fullPlaces, (q_w 1017 (by decide +kernel) (by decide +kernel)), (q_w 956 (by decide +kernel) (by decide +kernel)), (q_w 957 (by decide +kernel) (by decide +kernel))⟩
set_option maxRecDepth 20000 in
theorem lX11_353 : q_LS RX11 353 mJ9_min_7cf53 2 := ⟨okJ9_min_7cf53, (q_w 1018 (by decide +kernel) (by decide +kernel)), (q_w 657 (by decide +kernel) (by decide +kernel))⟩
set_option maxRecDepth 20000 in
theorem lL_69 : q_LV RL 69 mX11_pay 3 := ⟨okX11_pay, (q_w 1019 (by decide +kernel) (by decide +kernel)), (q_w 1020 (by decide +kernel) (by decide +kernel)), (q_w 1021 (by decide +kernel) (by decide +kernel))⟩
set_option maxRecDepth 20000 in
theorem lX11_202 : q_LV RX11 202 mX4_basePay 1 := ⟨okX4_basePay, (q_w 1023 (by decide +kernel) (by decide +kernel)), (q_w 904 (by decide +kernel) (by decide +kernel)), (q_w 905 (by decide +kernel) (by decide +kernel))⟩
set_option maxRecDepth 20000 in
theorem lX11_205 : q_LV RX11 205 mX4_rosterBonus 1 := ⟨okX4_rosterBonus, (q_w 1024 (by decide +kernel) (by decide +kernel)), (q_w 879 (by decide +kernel) (by decide +kernel)), (q_w 880 (by decide +kernel) (by decide +kernel))⟩
set_option maxRecDepth 20000 in
theorem lX11_208 : q_LV RX11 208 mX4_partsIn 1 := ⟨okX4_partsIn, (q_w 1025 (by decide +kernel) (by decide +kernel)), (q_w 863 (by decide +kernel) (by decide +kernel)), (q_w 864 (by decide +kernel) (by decide +kernel))⟩
set_option maxRecDepth 20000 in
theorem lL_74 : q_LV RL 74 mX11_now 1 := ⟨okX11_now, (q_w 1026 (by decide +kernel) (by decide +kernel)), (q_w 1027 (by decide +kernel) (by decide +kernel)), (q_w 1028 (by decide +kernel) (by decide +kernel))⟩
set_option maxRecDepth 20000 in
theorem lX11_214 : q_LV RX11 214 mX10_count 2 := ⟨okX10_count, (q_w 1030 (by decide +kernel) (by decide +kernel)), (q_w 952 (by decide +kernel) (by decide +kernel)), (q_w 953 (by decide +kernel) (by decide +kernel))⟩
set_option maxRecDepth 20000 in
theorem kX11_221 : Cond.constant RX11 221 (zi (-1000000000)) ∈ q_tb := (q_w 1031 (by decide +kernel) (by decide +kernel))
set_option maxRecDepth 20000 in
theorem lL_78 : q_LV RL 78 mX11_would 2 := ⟨okX11_would, (q_w 1032 (by decide +kernel) (by decide +kernel)), (q_w 1033 (by decide +kernel) (by decide +kernel)), (q_w 1034 (by decide +kernel) (by decide +kernel))⟩
set_option maxRecDepth 20000 in
theorem lX11_222 : q_LV RX11 222 mX1_findBegun 1 := ⟨okX1_findBegun, (q_w 1036 (by decide +kernel) (by decide +kernel)), (q_w 849 (by decide +kernel) (by decide +kernel)), (q_w 850 (by decide +kernel) (by decide +kernel))⟩
set_option maxRecDepth 20000 in
theorem lX11_225 : q_LV RX11 225 mX1_deadNow 2 := ⟨okX1_deadNow, (q_w 1037 (by decide +kernel) (by decide +kernel)), (q_w 867 (by decide +kernel) (by decide +kernel)), (q_w 868 (by decide +kernel) (by decide +kernel))⟩
set_option maxRecDepth 20000 in
theorem lX11_229 : q_LV RX11 229 mX1_deadNext 2 := ⟨okX1_deadNext, (q_w 1038 (by decide +kernel) (by decide +kernel)), (q_w 887 (by decide +kernel) (by decide +kernel)), (q_w 888 (by decide +kernel) (by decide +kernel))⟩
set_option maxRecDepth 20000 in
theorem lX11_232 : q_LV RX11 232 mX1_deadInAll 1 := ⟨okX1_deadInAll, (q_w 1039 (by decide +kernel) (by decide +kernel)), (q_w 1040 (by decide +kernel) (by decide +kernel)), (q_w 1041 (by decide +kernel) (by decide +kernel))⟩
set_option maxRecDepth 20000 in
theorem lX11_236 : q_LV RX11 236 mX10_saved 3 := ⟨okX10_saved, (q_w 1043 (by decide +kernel) (by decide +kernel)), (q_w 1044 (by decide +kernel) (by decide +kernel)), (q_w 1045 (by decide +kernel) (by decide +kernel))⟩
set_option maxRecDepth 20000 in
theorem lX10_101 : q_LV RX10 101 mX1_findBegun 1 := ⟨okX1_findBegun, (q_w 1047 (by decide +kernel) (by decide +kernel)), (q_w 849 (by decide +kernel) (by decide +kernel)), (q_w 850 (by decide +kernel) (by decide +kernel))⟩
set_option maxRecDepth 20000 in
theorem lX10_105 : q_LV RX10 105 mX1_deadNow 2 := ⟨okX1_deadNow, (q_w 1048 (by decide +kernel) (by decide +kernel)), (q_w 867 (by decide +kernel) (by decide +kernel)), (q_w 868 (by decide +kernel) (by decide +kernel))⟩
set_option maxRecDepth 20000 in
theorem lL_82 : q_LV RL 82 mX11_cut 1 := ⟨okX11_cut, (q_w 1049 (by decide +kernel) (by decide +kernel)), (q_w 1050 (by decide +kernel) (by decide +kernel)), (q_w 1051 (by decide +kernel) (by decide +kernel))⟩
set_option maxRecDepth 20000 in
theorem lL_86 : q_LV RL 86 mX11_trade 1 := ⟨okX11_trade, (q_w 1053 (by decide +kernel) (by decide +kernel)), (q_w 1054 (by decide +kernel) (by decide +kernel)), (q_w 1055 (by decide +kernel) (by decide +kernel))⟩
set_option maxRecDepth 20000 in
theorem lL_90 : q_LV RL 90 mX11_sign 1 := ⟨okX11_sign, (q_w 1057 (by decide +kernel) (by decide +kernel)), (q_w 1058 (by decide +kernel) (by decide +kernel)), (q_w 1059 (by decide +kernel) (by decide +kernel))⟩
set_option maxRecDepth 20000 in
theorem lX11_244 : q_LV RX11 244 mX1_signRefusal 1 := ⟨okX1_signRefusal, (q_w 1061 (by decide +kernel) (by decide +kernel)), (q_w 1062 (by decide +kernel) (by decide +kernel)), (q_w 1063 (by decide +kernel) (by decide +kernel))⟩
set_option maxRecDepth 20000 in
theorem lX1_123 : q_LV RX1 123 mX7_has 1 := ⟨okX7_has, (q_w 1065 (by decide +kernel) (by decide +kernel)), (q_w 1066 (by decide +kernel) (by decide +kernel)), (q_w 1067 (by decide +kernel) (by decide +kernel))⟩
set_option maxRecDepth 20000 in
theorem lX11_250 : q_LV RX11 250 mX1_takeOffer 1 := ⟨okX1_takeOffer, (q_w 1069 (by decide +kernel) (by decide +kernel)), (q_w 1070 (by decide +kernel) (by decide +kernel)), (q_w 1071 (by decide +kernel) (by decide +kernel))⟩
set_option maxRecDepth 20000 in
theorem lX1_129 : q_LV RX1 129 mX1_addContract 0 := ⟨okX1_addContract, (q_w 1073 (by decide +kernel) (by decide +kernel)), (q_w 661 (by decide +kernel) (by decide +kernel)), (q_w 662 (by decide +kernel) (by decide +kernel))⟩
set_option maxRecDepth 20000 in
theorem lX1_133 : q_LV RX1 133 mX4_start 4 := ⟨okX4_start, (q_w 1074 (by decide +kernel) (by decide +kernel)), (q_w 665 (by decide +kernel) (by decide +kernel)), (q_w 666 (by decide +kernel) (by decide +kernel))⟩
set_option maxRecDepth 20000 in
theorem lX1_140 : q_LV RX1 140 mX4_spread 2 := ⟨okX4_spread, (q_w 1075 (by decide +kernel) (by decide +kernel)), (q_w 669 (by decide +kernel) (by decide +kernel)), (q_w 670 (by decide +kernel) (by decide +kernel))⟩
set_option maxRecDepth 20000 in
theorem lX1_147 : q_LV RX1 147 mX4_putPay 3 := ⟨okX4_putPay, (q_w 1076 (by decide +kernel) (by decide +kernel)), (q_w 685 (by decide +kernel) (by decide +kernel)), (q_w 686 (by decide +kernel) (by decide +kernel))⟩
set_option maxRecDepth 20000 in
theorem lX1_151 : q_LV RX1 151 mX7_remove 1 := ⟨okX7_remove, (q_w 1077 (by decide +kernel) (by decide +kernel)), (q_w 1078 (by decide +kernel) (by decide +kernel)), (q_w 1079 (by decide +kernel) (by decide +kernel))⟩
set_option maxRecDepth 20000 in
theorem lX7_40 : q_LV RX7 40 mX7_has 1 := ⟨okX7_has, (q_w 1081 (by decide +kernel) (by decide +kernel)), (q_w 1066 (by decide +kernel) (by decide +kernel)), (q_w 1067 (by decide +kernel) (by decide +kernel))⟩
set_option maxRecDepth 20000 in
theorem lL_94 : q_LV RL 94 mX11_promise 4 := ⟨okX11_promise, (q_w 1082 (by decide +kernel) (by decide +kernel)), (q_w 1083 (by decide +kernel) (by decide +kernel)), (q_w 1084 (by decide +kernel) (by decide +kernel))⟩
set_option maxRecDepth 20000 in
theorem kX11_253 : Cond.constant RX11 253 (zi (99999)) ∈ q_tb := (q_w 1086 (by decide +kernel) (by decide +kernel))
set_option maxRecDepth 20000 in
theorem lX11_258 : q_LV RX11 258 mX8_isFull 0 := ⟨okX8_isFull, (q_w 1087 (by decide +kernel) (by decide +kernel)), (q_w 1088 (by decide +kernel) (by decide +kernel)), (q_w 1089 (by decide +kernel) (by decide +kernel))⟩
set_option maxRecDepth 20000 in
theorem lX11_263 : q_LV RX11 263 mX8_add 4 := ⟨okX8_add, (q_w 1091 (by decide +kernel) (by decide +kernel)), (q_w 1092 (by decide +kernel) (by decide +kernel)), (q_w 1093 (by decide +kernel) (by decide +kernel))⟩
set_option maxRecDepth 20000 in
theorem lX8_38 : q_LV RX8 38 mX8_isFull 0 := ⟨okX8_isFull, (q_w 1095 (by decide +kernel) (by decide +kernel)), (q_w 1088 (by decide +kernel) (by decide +kernel)), (q_w 1089 (by decide +kernel) (by decide +kernel))⟩
set_option maxRecDepth 20000 in
theorem lL_99 : q_LV RL 99 mX11_earn 1 := ⟨okX11_earn, (q_w 1096 (by decide +kernel) (by decide +kernel)), (q_w 1097 (by decide +kernel) (by decide +kernel)), (q_w 1098 (by decide +kernel) (by decide +kernel))⟩
set_option maxRecDepth 20000 in
theorem lX11_267 : q_LV RX11 267 mX8_has 1 := ⟨okX8_has, (q_w 1100 (by decide +kernel) (by decide +kernel)), (q_w 1101 (by decide +kernel) (by decide +kernel)), (q_w 1102 (by decide +kernel) (by decide +kernel))⟩
set_option maxRecDepth 20000 in
theorem lL_103 : q_LV RL 103 mX11_turn 2 := ⟨okX11_turn, (q_w 1104 (by decide +kernel) (by decide +kernel)), (q_w 895 (by decide +kernel) (by decide +kernel)), (q_w 896 (by decide +kernel) (by decide +kernel))⟩
set_option maxRecDepth 20000 in
theorem lL_107 : q_LV RL 107 mX11_longer 4 := ⟨okX11_longer, (q_w 1105 (by decide +kernel) (by decide +kernel)), (q_w 1106 (by decide +kernel) (by decide +kernel)), (q_w 1107 (by decide +kernel) (by decide +kernel))⟩
set_option maxRecDepth 20000 in
theorem lX11_293 : q_LV RX11 293 mX1_longerRefusal 4 := ⟨okX1_longerRefusal, (q_w 1109 (by decide +kernel) (by decide +kernel)), (q_w 1110 (by decide +kernel) (by decide +kernel)), (q_w 1111 (by decide +kernel) (by decide +kernel))⟩
set_option maxRecDepth 20000 in
theorem lX1_119 : q_LV RX1 119 mX4_lastYear 0 := ⟨okX4_lastYear, (q_w 1113 (by decide +kernel) (by decide +kernel)), (q_w 677 (by decide +kernel) (by decide +kernel)), (q_w 678 (by decide +kernel) (by decide +kernel))⟩
set_option maxRecDepth 20000 in
theorem lX11_297 : q_LV RX11 297 mX4_addYears 2 := ⟨okX4_addYears, (q_w 1114 (by decide +kernel) (by decide +kernel)), (q_w 1115 (by decide +kernel) (by decide +kernel)), (q_w 1116 (by decide +kernel) (by decide +kernel))⟩
set_option maxRecDepth 20000 in
theorem lX4_73 : q_LV RX4 73 mX4_putPay 3 := ⟨okX4_putPay, (q_w 1118 (by decide +kernel) (by decide +kernel)), (q_w 685 (by decide +kernel) (by decide +kernel)), (q_w 686 (by decide +kernel) (by decide +kernel))⟩
set_option maxRecDepth 20000 in
theorem lX11_300 : q_LV RX11 300 mX4_lastYear 0 := ⟨okX4_lastYear, (q_w 1119 (by decide +kernel) (by decide +kernel)), (q_w 677 (by decide +kernel) (by decide +kernel)), (q_w 678 (by decide +kernel) (by decide +kernel))⟩
set_option maxRecDepth 20000 in
theorem lL_112 : q_LV RL 112 mX11_lower 2 := ⟨okX11_lower, (q_w 1120 (by decide +kernel) (by decide +kernel)), (q_w 1121 (by decide +kernel) (by decide +kernel)), (q_w 1122 (by decide +kernel) (by decide +kernel))⟩
set_option maxRecDepth 20000 in
theorem lL_116 : q_LV RL 116 mX11_days 1 := ⟨okX11_days, (q_w 1124 (by decide +kernel) (by decide +kernel)), (q_w 921 (by decide +kernel) (by decide +kernel)), (q_w 922 (by decide +kernel) (by decide +kernel))⟩
set_option maxRecDepth 20000 in
theorem lL_120 : q_LV RL 120 mX11_year 0 := ⟨okX11_year, (q_w 1125 (by decide +kernel) (by decide +kernel)), (q_w 925 (by decide +kernel) (by decide +kernel)), (q_w 926 (by decide +kernel) (by decide +kernel))⟩
set_option maxRecDepth 20000 in
theorem lL_124 : q_LV RL 124 mX11_says 1 := ⟨okX11_says, (q_w 1126 (by decide +kernel) (by decide +kernel)), (q_w 1127 (by decide +kernel) (by decide +kernel)), (q_w 1128 (by decide +kernel) (by decide +kernel))⟩
set_option maxRecDepth 20000 in
theorem kX11_307 : Cond.constantLong RX11 307 (-1000000000000) ∈ q_tb := (q_w 1130 (by decide +kernel) (by decide +kernel))
set_option maxRecDepth 20000 in
theorem lX11_309 : q_LV RX11 309 mX11_policySum 1 := ⟨okX11_policySum, (q_w 1131 (by decide +kernel) (by decide +kernel)), (q_w 1133 (by decide +kernel) (by decide +kernel)), (q_w 19 (by decide +kernel) (by decide +kernel))⟩
set_option maxRecDepth 20000 in
theorem lX11_466 : q_LV RX11 466 mX5_put 2 := ⟨okX5_put, (q_w 1135 (by decide +kernel) (by decide +kernel)), (q_w 1136 (by decide +kernel) (by decide +kernel)), (q_w 1137 (by decide +kernel) (by decide +kernel))⟩
set_option maxRecDepth 20000 in
theorem lX11_469 : q_LV RX11 469 mX5_value 0 := ⟨okX5_value, (q_w 1139 (by decide +kernel) (by decide +kernel)), (q_w 1140 (by decide +kernel) (by decide +kernel)), (q_w 1141 (by decide +kernel) (by decide +kernel))⟩
set_option maxRecDepth 20000 in
theorem lX5_102 : q_LS RX5 102 mX5_join 3 := ⟨okX5_join, (q_w 1143 (by decide +kernel) (by decide +kernel)), (q_w 1144 (by decide +kernel) (by decide +kernel))⟩
set_option maxRecDepth 20000 in
theorem lL_129 : q_LV RL 129 mX11_byPolicy 1 := ⟨okX11_byPolicy, (q_w 1146 (by decide +kernel) (by decide +kernel)), (q_w 1147 (by decide +kernel) (by decide +kernel)), (q_w 1148 (by decide +kernel) (by decide +kernel))⟩
set_option maxRecDepth 20000 in
theorem lX11_313 : q_LS RX11 313 mX11_isGoal 1 := ⟨okX11_isGoal, (q_w 1150 (by decide +kernel) (by decide +kernel)), (q_w 1151 (by decide +kernel) (by decide +kernel))⟩
set_option maxRecDepth 20000 in
theorem kX11_445 : Cond.constant RX11 445 (zi (-999999)) ∈ q_tb := (q_w 1153 (by decide +kernel) (by decide +kernel))
set_option maxRecDepth 20000 in
theorem kX11_446 : Cond.constant RX11 446 (zi (999999)) ∈ q_tb := (q_w 1154 (by decide +kernel) (by decide +kernel))
set_option maxRecDepth 20000 in
theorem lX11_316 : q_LV RX11 316 mX11_greatestByPolicy 0 := ⟨okX11_greatestByPolicy, (q_w 1155 (by decide +kernel) (by decide +kernel)), (q_w 1157 (by decide +kernel) (by decide +kernel)), (q_w 20 (by decide +kernel) (by decide +kernel))⟩
set_option maxRecDepth 20000 in
theorem lL_133 : q_LV RL 133 mX11_set 2 := ⟨okX11_set, (q_w 1159 (by decide +kernel) (by decide +kernel)), (q_w 1160 (by decide +kernel) (by decide +kernel)), (q_w 1161 (by decide +kernel) (by decide +kernel))⟩
set_option maxRecDepth 20000 in
theorem lX11_323 : q_LV RX11 323 mX3_chooseSet 3 := ⟨okX3_chooseSet, (q_w 1163 (by decide +kernel) (by decide +kernel)), (q_w 1164 (by decide +kernel) (by decide +kernel)), (q_w 1165 (by decide +kernel) (by decide +kernel))⟩
set_option maxRecDepth 20000 in
theorem lX3_77 : q_LV RX3 77 mX3_gather 3 := ⟨okX3_gather, (q_w 1167 (by decide +kernel) (by decide +kernel)), (q_w 1169 (by decide +kernel) (by decide +kernel)), (q_w 21 (by decide +kernel) (by decide +kernel))⟩
set_option maxRecDepth 20000 in
theorem lX3_31 : q_LV RX3 31 mX10_load 1 := ⟨okX10_load, (q_w 1171 (by decide +kernel) (by decide +kernel)), (q_w 929 (by decide +kernel) (by decide +kernel)), (q_w 930 (by decide +kernel) (by decide +kernel))⟩
set_option maxRecDepth 20000 in
theorem lX3_48 : q_LV RX3 48 mX1_findBegun 1 := ⟨okX1_findBegun, (q_w 1172 (by decide +kernel) (by decide +kernel)), (q_w 849 (by decide +kernel) (by decide +kernel)), (q_w 850 (by decide +kernel) (by decide +kernel))⟩
set_option maxRecDepth 20000 in
theorem lX3_55 : q_LV RX3 55 mX1_deadNow 2 := ⟨okX1_deadNow, (q_w 1173 (by decide +kernel) (by decide +kernel)), (q_w 867 (by decide +kernel) (by decide +kernel)), (q_w 868 (by decide +kernel) (by decide +kernel))⟩
set_option maxRecDepth 20000 in
theorem lX3_58 : q_LV RX3 58 mX1_deadInAll 1 := ⟨okX1_deadInAll, (q_w 1174 (by decide +kernel) (by decide +kernel)), (q_w 1040 (by decide +kernel) (by decide +kernel)), (q_w 1041 (by decide +kernel) (by decide +kernel))⟩
set_option maxRecDepth 20000 in
theorem lX3_65 : q_LV RX3 65 mX1_mostTurned 1 := ⟨okX1_mostTurned, (q_w 1175 (by decide +kernel) (by decide +kernel)), (q_w 1176 (by decide +kernel) (by decide +kernel)), (q_w 1177 (by decide +kernel) (by decide +kernel))⟩
set_option maxRecDepth 20000 in
theorem lX3_71 : q_LV RX3 71 mX4_partOf 3 := ⟨okX4_partOf, (q_w 1179 (by decide +kernel) (by decide +kernel)), (q_w 673 (by decide +kernel) (by decide +kernel)), (q_w 674 (by decide +kernel) (by decide +kernel))⟩
set_option maxRecDepth 20000 in
theorem lX3_81 : q_LV RX3 81 mX3_sumOf 2 := ⟨okX3_sumOf, (q_w 1180 (by decide +kernel) (by decide +kernel)), (q_w 1182 (by decide +kernel) (by decide +kernel)), (q_w 22 (by decide +kernel) (by decide +kernel))⟩
set_option maxRecDepth 20000 in
theorem lX3_88 : q_LS RX3 88 mJ6_bitCount_0f7a4 1 := ⟨okJ6_bitCount_0f7a4, (q_w 1184 (by decide +kernel) (by decide +kernel)), (q_w 1185 (by decide +kernel) (by decide +kernel))⟩
set_option maxRecDepth 20000 in
theorem kJ6_265 : Cond.constant RJ6 265 (zi (1431655765)) ∈ q_tb := (q_w 1187 (by decide +kernel) (by decide +kernel))
set_option maxRecDepth 20000 in
theorem kJ6_266 : Cond.constant RJ6 266 (zi (858993459)) ∈ q_tb := (q_w 1188 (by decide +kernel) (by decide +kernel))
set_option maxRecDepth 20000 in
theorem kJ6_267 : Cond.constant RJ6 267 (zi (252645135)) ∈ q_tb := (q_w 1189 (by decide +kernel) (by decide +kernel))
set_option maxRecDepth 20000 in
theorem lX3_101 : q_LV RX3 101 mX10_room 1 := ⟨okX10_room, (q_w 1190 (by decide +kernel) (by decide +kernel)), (q_w 948 (by decide +kernel) (by decide +kernel)), (q_w 949 (by decide +kernel) (by decide +kernel))⟩
set_option maxRecDepth 20000 in
theorem lL_137 : q_LV RL 137 mX11_turned 2 := ⟨okX11_turned, (q_w 1191 (by decide +kernel) (by decide +kernel)), (q_w 1192 (by decide +kernel) (by decide +kernel)), (q_w 1193 (by decide +kernel) (by decide +kernel))⟩
set_option maxRecDepth 20000 in
theorem lX11_337 : q_LV RX11 337 mX1_mostTurned 1 := ⟨okX1_mostTurned, (q_w 1195 (by decide +kernel) (by decide +kernel)), (q_w 1176 (by decide +kernel) (by decide +kernel)), (q_w 1177 (by decide +kernel) (by decide +kernel))⟩
set_option maxRecDepth 20000 in
theorem lX11_340 : q_LV RX11 340 mX11_savedByTurn 2 := ⟨okX11_savedByTurn, (q_w 1196 (by decide +kernel) (by decide +kernel)), (q_w 1198 (by decide +kernel) (by decide +kernel)), (q_w 23 (by decide +kernel) (by decide +kernel))⟩
set_option maxRecDepth 20000 in
theorem lX11_365 : q_LV RX11 365 mX4_partOf 3 := ⟨okX4_partOf, (q_w 1200 (by decide +kernel) (by decide +kernel)), (q_w 673 (by decide +kernel) (by decide +kernel)), (q_w 674 (by decide +kernel) (by decide +kernel))⟩
set_option maxRecDepth 20000 in
theorem lX11_369 : q_LV RX11 369 mX10_shift 3 := ⟨okX10_shift, (q_w 1201 (by decide +kernel) (by decide +kernel)), (q_w 1202 (by decide +kernel) (by decide +kernel)), (q_w 1203 (by decide +kernel) (by decide +kernel))⟩
set_option maxRecDepth 20000 in
theorem lX11_373 : q_LV RX11 373 mX10_rank 0 := ⟨okX10_rank, (q_w 1205 (by decide +kernel) (by decide +kernel)), (q_w 940 (by decide +kernel) (by decide +kernel)), (q_w 941 (by decide +kernel) (by decide +kernel))⟩
set_option maxRecDepth 20000 in
theorem lL_141 : q_LV RL 141 mX11_ahead 1 := ⟨okX11_ahead, (q_w 1206 (by decide +kernel) (by decide +kernel)), (q_w 1207 (by decide +kernel) (by decide +kernel)), (q_w 1208 (by decide +kernel) (by decide +kernel))⟩
set_option maxRecDepth 20000 in
theorem lX11_344 : q_LV RX11 344 mX1_countAhead 1 := ⟨okX1_countAhead, (q_w 1210 (by decide +kernel) (by decide +kernel)), (q_w 1211 (by decide +kernel) (by decide +kernel)), (q_w 1212 (by decide +kernel) (by decide +kernel))⟩
set_option maxRecDepth 20000 in
theorem lX1_193 : q_LSN RX1 193 mX11_isYear 1 := ⟨okX11_isYear, (q_wn 1214 (by decide +kernel)), (q_w 650 (by decide +kernel) (by decide +kernel))⟩
set_option maxRecDepth 20000 in
theorem lX1_196 : q_LV RX1 196 mX4_hit 1 := ⟨okX4_hit, (q_w 1215 (by decide +kernel) (by decide +kernel)), (q_w 914 (by decide +kernel) (by decide +kernel)), (q_w 915 (by decide +kernel) (by decide +kernel))⟩
set_option maxRecDepth 20000 in
theorem lX1_199 : q_LV RX1 199 mX8_likelyOf 2 := ⟨okX8_likelyOf, (q_w 1216 (by decide +kernel) (by decide +kernel)), (q_w 1217 (by decide +kernel) (by decide +kernel)), (q_w 1218 (by decide +kernel) (by decide +kernel))⟩
set_option maxRecDepth 20000 in
theorem lL_145 : q_LV RL 145 mX11_bestDay 1 := ⟨okX11_bestDay, (q_w 1220 (by decide +kernel) (by decide +kernel)), (q_w 1221 (by decide +kernel) (by decide +kernel)), (q_w 1222 (by decide +kernel) (by decide +kernel))⟩
set_option maxRecDepth 20000 in
theorem lL_149 : q_LV RL 149 mX11_coins 2 := ⟨okX11_coins, (q_w 1224 (by decide +kernel) (by decide +kernel)), (q_w 1225 (by decide +kernel) (by decide +kernel)), (q_w 1226 (by decide +kernel) (by decide +kernel))⟩
set_option maxRecDepth 20000 in
theorem lX11_347 : q_LV RX11 347 mX4_partsFrom 1 := ⟨okX4_partsFrom, (q_w 1228 (by decide +kernel) (by decide +kernel)), (q_w 858 (by decide +kernel) (by decide +kernel)), (q_w 859 (by decide +kernel) (by decide +kernel))⟩
set_option maxRecDepth 20000 in
theorem lL_153 : q_LV RL 153 mX11_freeYear 1 := ⟨okX11_freeYear, (q_w 1229 (by decide +kernel) (by decide +kernel)), (q_w 1230 (by decide +kernel) (by decide +kernel)), (q_w 1231 (by decide +kernel) (by decide +kernel))⟩
set_option maxRecDepth 20000 in
theorem lX11_358 : q_LS RX11 358 mJ9_max_7cf53 2 := ⟨okJ9_max_7cf53, (q_w 1233 (by decide +kernel) (by decide +kernel)), (q_w 381 (by decide +kernel) (by decide +kernel))⟩
set_option maxRecDepth 20000 in
theorem lX11_361 : q_LV RX11 361 mX1_deadPay 3 := ⟨okX1_deadPay, (q_w 1234 (by decide +kernel) (by decide +kernel)), (q_w 871 (by decide +kernel) (by decide +kernel)), (q_w 872 (by decide +kernel) (by decide +kernel))⟩
set_option maxRecDepth 20000 in
theorem lL_157 : q_LV RL 157 mX11_allTurned 0 := ⟨okX11_allTurned, (q_w 1235 (by decide +kernel) (by decide +kernel)), (q_w 1236 (by decide +kernel) (by decide +kernel)), (q_w 1237 (by decide +kernel) (by decide +kernel))⟩
set_option maxRecDepth 20000 in
theorem lL_161 : q_LV RL 161 mX11_ranked 1 := ⟨okX11_ranked, (q_w 1239 (by decide +kernel) (by decide +kernel)), (q_w 1240 (by decide +kernel) (by decide +kernel)), (q_w 1241 (by decide +kernel) (by decide +kernel))⟩
set_option maxRecDepth 20000 in
theorem lL_165 : q_LV RL 165 mX11_fit 2 := ⟨okX11_fit, (q_w 1243 (by decide +kernel) (by decide +kernel)), (q_w 1244 (by decide +kernel) (by decide +kernel)), (q_w 1245 (by decide +kernel) (by decide +kernel))⟩
set_option maxRecDepth 20000 in
theorem lX11_380 : q_LV RX11 380 mX3_chooseFit 3 := ⟨okX3_chooseFit, (q_w 1247 (by decide +kernel) (by decide +kernel)), (q_w 1248 (by decide +kernel) (by decide +kernel)), (q_w 1249 (by decide +kernel) (by decide +kernel))⟩
set_option maxRecDepth 20000 in
theorem lX3_105 : q_LV RX3 105 mX3_digits 2 := ⟨okX3_digits, (q_w 1251 (by decide +kernel) (by decide +kernel)), (q_w 1253 (by decide +kernel) (by decide +kernel)), (q_w 24 (by decide +kernel) (by decide +kernel))⟩
set_option maxRecDepth 20000 in
theorem lX3_109 : q_LV RX3 109 mX3_arrange 3 := ⟨okX3_arrange, (q_w 1255 (by decide +kernel) (by decide +kernel)), (q_w 1257 (by decide +kernel) (by decide +kernel)), (q_w 25 (by decide +kernel) (by decide +kernel))⟩
set_option maxRecDepth 20000 in
theorem lX3_116 : q_LV RX3 116 mX10_shift 3 := ⟨okX10_shift, (q_w 1259 (by decide +kernel) (by decide +kernel)), (q_w 1202 (by decide +kernel) (by decide +kernel)), (q_w 1203 (by decide +kernel) (by decide +kernel))⟩
set_option maxRecDepth 20000 in
theorem lX3_120 : q_LV RX3 120 mX10_rank 0 := ⟨okX10_rank, (q_w 1260 (by decide +kernel) (by decide +kernel)), (q_w 940 (by decide +kernel) (by decide +kernel)), (q_w 941 (by decide +kernel) (by decide +kernel))⟩
set_option maxRecDepth 20000 in
theorem lL_169 : q_LV RL 169 mX11_piece 3 := ⟨okX11_piece, (q_w 1261 (by decide +kernel) (by decide +kernel)), (q_w 1262 (by decide +kernel) (by decide +kernel)), (q_w 1263 (by decide +kernel) (by decide +kernel))⟩
set_option maxRecDepth 20000 in
theorem lL_173 : q_LV RL 173 mX11_lastDay 2 := ⟨okX11_lastDay, (q_w 1265 (by decide +kernel) (by decide +kernel)), (q_w 1266 (by decide +kernel) (by decide +kernel)), (q_w 1267 (by decide +kernel) (by decide +kernel))⟩
set_option maxRecDepth 20000 in
theorem lX11_386 : q_LV RX11 386 mX11_dayIfSaved 3 := ⟨okX11_dayIfSaved, (q_w 1269 (by decide +kernel) (by decide +kernel)), (q_w 1271 (by decide +kernel) (by decide +kernel)), (q_w 26 (by decide +kernel) (by decide +kernel))⟩
set_option maxRecDepth 20000 in
theorem lL_177 : q_LV RL 177 mX11_cash 2 := ⟨okX11_cash, (q_w 1273 (by decide +kernel) (by decide +kernel)), (q_w 1274 (by decide +kernel) (by decide +kernel)), (q_w 1275 (by decide +kernel) (by decide +kernel))⟩
set_option maxRecDepth 20000 in
theorem lX11_389 : q_LV RX11 389 mX4_cashIn 1 := ⟨okX4_cashIn, (q_w 1277 (by decide +kernel) (by decide +kernel)), (q_w 1278 (by decide +kernel) (by decide +kernel)), (q_w 1279 (by decide +kernel) (by decide +kernel))⟩
set_option maxRecDepth 20000 in
theorem lL_181 : q_LV RL 181 mX11_allCash 1 := ⟨okX11_allCash, (q_w 1281 (by decide +kernel) (by decide +kernel)), (q_w 1282 (by decide +kernel) (by decide +kernel)), (q_w 1283 (by decide +kernel) (by decide +kernel))⟩
set_option maxRecDepth 20000 in
theorem lX11_392 : q_LV RX11 392 mX1_cashOfAll 1 := ⟨okX1_cashOfAll, (q_w 1285 (by decide +kernel) (by decide +kernel)), (q_w 1286 (by decide +kernel) (by decide +kernel)), (q_w 1287 (by decide +kernel) (by decide +kernel))⟩
set_option maxRecDepth 20000 in
theorem lX1_202 : q_LV RX1 202 mX4_cashIn 1 := ⟨okX4_cashIn, (q_w 1289 (by decide +kernel) (by decide +kernel)), (q_w 1278 (by decide +kernel) (by decide +kernel)), (q_w 1279 (by decide +kernel) (by decide +kernel))⟩
set_option maxRecDepth 20000 in
theorem lL_185 : q_LV RL 185 mX11_tag 1 := ⟨okX11_tag, (q_w 1290 (by decide +kernel) (by decide +kernel)), (q_w 1291 (by decide +kernel) (by decide +kernel)), (q_w 1292 (by decide +kernel) (by decide +kernel))⟩
set_option maxRecDepth 20000 in
theorem lL_189 : q_LV RL 189 mX11_counted 1 := ⟨okX11_counted, (q_w 1294 (by decide +kernel) (by decide +kernel)), (q_w 1295 (by decide +kernel) (by decide +kernel)), (q_w 1296 (by decide +kernel) (by decide +kernel))⟩
set_option maxRecDepth 20000 in
theorem lL_193 : q_LV RL 193 mX11_share 1 := ⟨okX11_share, (q_w 1298 (by decide +kernel) (by decide +kernel)), (q_w 1299 (by decide +kernel) (by decide +kernel)), (q_w 1300 (by decide +kernel) (by decide +kernel))⟩
set_option maxRecDepth 20000 in
theorem kX11_400 : Cond.constantLong RX11 400 (10000) ∈ q_tb := (q_w 1302 (by decide +kernel) (by decide +kernel))
set_option maxRecDepth 20000 in
theorem kX11_402 : Cond.constantLong RX11 402 (1000000000) ∈ q_tb := (q_w 1303 (by decide +kernel) (by decide +kernel))
set_option maxRecDepth 20000 in
theorem lX11_404 : q_LS RX11 404 mJ9_min_f86c9 2 := ⟨okJ9_min_f86c9, (q_w 1304 (by decide +kernel) (by decide +kernel)), (q_w 1305 (by decide +kernel) (by decide +kernel))⟩
set_option maxRecDepth 20000 in
theorem lL_197 : q_LV RL 197 mX11_dearest 1 := ⟨okX11_dearest, (q_w 1307 (by decide +kernel) (by decide +kernel)), (q_w 1308 (by decide +kernel) (by decide +kernel)), (q_w 1309 (by decide +kernel) (by decide +kernel))⟩
set_option maxRecDepth 20000 in
theorem lL_201 : q_LV RL 201 mX11_offer 2 := ⟨okX11_offer, (q_w 1311 (by decide +kernel) (by decide +kernel)), (q_w 1312 (by decide +kernel) (by decide +kernel)), (q_w 1313 (by decide +kernel) (by decide +kernel))⟩
set_option maxRecDepth 20000 in
theorem lX11_411 : q_LV RX11 411 mX7_has 1 := ⟨okX7_has, (q_w 1315 (by decide +kernel) (by decide +kernel)), (q_w 1066 (by decide +kernel) (by decide +kernel)), (q_w 1067 (by decide +kernel) (by decide +kernel))⟩
set_option maxRecDepth 20000 in
theorem lX11_423 : q_LV RX11 423 mX7_hit 1 := ⟨okX7_hit, (q_w 1316 (by decide +kernel) (by decide +kernel)), (q_w 1317 (by decide +kernel) (by decide +kernel)), (q_w 1318 (by decide +kernel) (by decide +kernel))⟩
set_option maxRecDepth 20000 in
theorem lX7_34 : q_LS RX7 34 mX4_partOfMany 3 := ⟨okX4_partOfMany, (q_w 1320 (by decide +kernel) (by decide +kernel)), (q_w 681 (by decide +kernel) (by decide +kernel))⟩
set_option maxRecDepth 20000 in
theorem lL_205 : q_LV RL 205 mX11_buys 1 := ⟨okX11_buys, (q_w 1321 (by decide +kernel) (by decide +kernel)), (q_w 1322 (by decide +kernel) (by decide +kernel)), (q_w 1323 (by decide +kernel) (by decide +kernel))⟩
set_option maxRecDepth 20000 in
theorem lX11_424 : q_LV RX11 424 mX3_chooseOffers 2 := ⟨okX3_chooseOffers, (q_w 1325 (by decide +kernel) (by decide +kernel)), (q_w 1326 (by decide +kernel) (by decide +kernel)), (q_w 1327 (by decide +kernel) (by decide +kernel))⟩
set_option maxRecDepth 20000 in
theorem lX3_129 : q_LS RX3 129 mJ9_min_7cf53 2 := ⟨okJ9_min_7cf53, (q_w 1329 (by decide +kernel) (by decide +kernel)), (q_w 657 (by decide +kernel) (by decide +kernel))⟩
set_option maxRecDepth 20000 in
theorem lX3_134 : q_LV RX3 134 mX7_hit 1 := ⟨okX7_hit, (q_w 1330 (by decide +kernel) (by decide +kernel)), (q_w 1317 (by decide +kernel) (by decide +kernel)), (q_w 1318 (by decide +kernel) (by decide +kernel))⟩
set_option maxRecDepth 20000 in
theorem lL_209 : q_LV RL 209 mX11_promised 2 := ⟨okX11_promised, (q_w 1331 (by decide +kernel) (by decide +kernel)), (q_w 1332 (by decide +kernel) (by decide +kernel)), (q_w 1333 (by decide +kernel) (by decide +kernel))⟩
set_option maxRecDepth 20000 in
theorem lL_213 : q_LV RL 213 mX11_floor 2 := ⟨okX11_floor, (q_w 1335 (by decide +kernel) (by decide +kernel)), (q_w 1336 (by decide +kernel) (by decide +kernel)), (q_w 1337 (by decide +kernel) (by decide +kernel))⟩
set_option maxRecDepth 20000 in
theorem lL_217 : q_LV RL 217 mX11_over 1 := ⟨okX11_over, (q_w 1339 (by decide +kernel) (by decide +kernel)), (q_w 1340 (by decide +kernel) (by decide +kernel)), (q_w 1341 (by decide +kernel) (by decide +kernel))⟩
set_option maxRecDepth 20000 in
theorem lL_221 : q_LV RL 221 mX11_undo 0 := ⟨okX11_undo, (q_w 1343 (by decide +kernel) (by decide +kernel)), (q_w 1344 (by decide +kernel) (by decide +kernel)), (q_w 1345 (by decide +kernel) (by decide +kernel))⟩
set_option maxRecDepth 20000 in
theorem lX11_433 : q_LV RX11 433 mX6_pop 0 := ⟨okX6_pop, (q_w 1347 (by decide +kernel) (by decide +kernel)), (q_w 1348 (by decide +kernel) (by decide +kernel)), (q_w 1349 (by decide +kernel) (by decide +kernel))⟩
set_option maxRecDepth 20000 in
theorem lL_225 : q_LV RL 225 mX11_keep 1 := ⟨okX11_keep, (q_w 1351 (by decide +kernel) (by decide +kernel)), (q_w 1352 (by decide +kernel) (by decide +kernel)), (q_w 1353 (by decide +kernel) (by decide +kernel))⟩
set_option maxRecDepth 20000 in
theorem lL_230 : q_LV RL 230 mX11_restore 1 := ⟨okX11_restore, (q_w 1355 (by decide +kernel) (by decide +kernel)), (q_w 1356 (by decide +kernel) (by decide +kernel)), (q_w 1357 (by decide +kernel) (by decide +kernel))⟩
set_option maxRecDepth 20000 in
theorem lL_234 : q_LV RL 234 mX11_write 0 := ⟨okX11_write, (q_w 1359 (by decide +kernel) (by decide +kernel)), (q_w 1360 (by decide +kernel) (by decide +kernel)), (q_w 1361 (by decide +kernel) (by decide +kernel))⟩
set_option maxRecDepth 20000 in
theorem lX11_437 : q_LV RX11 437 mX2_add 1 := ⟨okX2_add, (q_w 1363 (by decide +kernel) (by decide +kernel)), (q_w 559 (by decide +kernel) (by decide +kernel)), (q_w 560 (by decide +kernel) (by decide +kernel))⟩
set_option maxRecDepth 20000 in
theorem lX11_439 : q_LV RX11 439 mX2_addNumber 1 := ⟨okX2_addNumber, (q_w 1364 (by decide +kernel) (by decide +kernel)), (q_w 1365 (by decide +kernel) (by decide +kernel)), (q_w 1366 (by decide +kernel) (by decide +kernel))⟩
set_option maxRecDepth 20000 in
theorem kX2_29 : Cond.constant RX2 29 (zi (100000)) ∈ q_tb := (q_w 1368 (by decide +kernel) (by decide +kernel))
set_option maxRecDepth 20000 in
theorem lL_238 : q_LV RL 238 mX11_octet 1 := ⟨okX11_octet, (q_w 1369 (by decide +kernel) (by decide +kernel)), (q_w 1370 (by decide +kernel) (by decide +kernel)), (q_w 1371 (by decide +kernel) (by decide +kernel))⟩
set_option maxRecDepth 20000 in
theorem lX11_442 : q_LV RX11 442 mX2_at 1 := ⟨okX2_at, (q_w 1373 (by decide +kernel) (by decide +kernel)), (q_w 618 (by decide +kernel) (by decide +kernel)), (q_w 619 (by decide +kernel) (by decide +kernel))⟩
set_option maxRecDepth 20000 in
theorem kL_10 : Cond.classLink RL 10 RX12 ∈ q_tb := (q_w 1374 (by decide +kernel) (by decide +kernel))
set_option maxRecDepth 20000 in
theorem nL_10 : q_LN RL 10 12 27 := ⟨RX12, TX12, q_ClX12, kL_10, (q_w 1375 (by decide +kernel) (by decide +kernel)), (q_w 105 (by decide +kernel) (by decide +kernel)), by decide +kernel⟩
set_option maxRecDepth 20000 in
theorem lL_12 : q_LI RL 12 mX12_init 0 := ⟨okX12_init, (q_w 1376 (by decide +kernel) (by decide +kernel)), (q_w 1377 (by decide +kernel) (by decide +kernel)), rfl, rfl⟩
set_option maxRecDepth 20000 in
theorem lX12_7 : Cond.methodLink RX12 7 Lib.objectInit ∈ q_tb := (q_w 1379 (by decide +kernel) (by decide +kernel))
set_option maxRecDepth 20000 in
theorem kX12_13 : Cond.constant RX12 13 (zi (44880)) ∈ q_tb := (q_w 1380 (by decide +kernel) (by decide +kernel))
set_option maxRecDepth 20000 in
theorem kX12_60 : Cond.constant RX12 60 (zi (100000)) ∈ q_tb := (q_w 1381 (by decide +kernel) (by decide +kernel))
set_option maxRecDepth 20000 in
theorem fX12_3 : q_F RX12 3 12 0 27 true := ⟨RX12, TX12, q_ClX12, by decide, (q_w 1382 (by decide +kernel) (by decide +kernel)), rfl⟩
set_option maxRecDepth 20000 in
theorem fX12_61 : q_F RX12 61 12 1 27 false := ⟨RX12, TX12, q_ClX12, by decide, (q_w 1383 (by decide +kernel) (by decide +kernel)), rfl⟩
set_option maxRecDepth 20000 in
theorem fX12_14 : q_F RX12 14 12 2 27 true := ⟨RX12, TX12, q_ClX12, by decide, (q_w 1384 (by decide +kernel) (by decide +kernel)), rfl⟩
set_option maxRecDepth 20000 in
theorem fX12_18 : q_F RX12 18 12 3 27 true := ⟨RX12, TX12, q_ClX12, by decide, (q_w 1385 (by decide +kernel) (by decide +kernel)), rfl⟩
set_option maxRecDepth 20000 in
theorem fX12_76 : q_F RX12 76 12 4 27 false := ⟨RX12, TX12, q_ClX12, by decide, (q_w 1386 (by decide +kernel) (by decide +kernel)), rfl⟩
set_option maxRecDepth 20000 in
theorem fX12_82 : q_F RX12 82 12 5 27 false := ⟨RX12, TX12, q_ClX12, by decide, (q_w 1387 (by decide +kernel) (by decide +kernel)), rfl⟩
set_option maxRecDepth 20000 in
theorem fX12_22 : q_F RX12 22 12 6 27 false := ⟨RX12, TX12, q_ClX12, by decide, (q_w 1388 (by decide +kernel) (by decide +kernel)), rfl⟩
set_option maxRecDepth 20000 in
theorem fX12_93 : q_F RX12 93 12 7 27 false := ⟨RX12, TX12, q_ClX12, by decide, (q_w 1389 (by decide +kernel) (by decide +kernel)), rfl⟩
set_option maxRecDepth 20000 in
theorem fX12_26 : q_F RX12 26 12 8 27 true := ⟨RX12, TX12, q_ClX12, by decide, (q_w 1390 (by decide +kernel) (by decide +kernel)), rfl⟩
set_option maxRecDepth 20000 in
theorem fX12_29 : q_F RX12 29 12 9 27 true := ⟨RX12, TX12, q_ClX12, by decide, (q_w 1391 (by decide +kernel) (by decide +kernel)), rfl⟩
set_option maxRecDepth 20000 in
theorem fX12_162 : q_F RX12 162 12 10 27 false := ⟨RX12, TX12, q_ClX12, by decide, (q_w 1392 (by decide +kernel) (by decide +kernel)), rfl⟩
set_option maxRecDepth 20000 in
theorem fX12_165 : q_F RX12 165 12 11 27 false := ⟨RX12, TX12, q_ClX12, by decide, (q_w 1393 (by decide +kernel) (by decide +kernel)), rfl⟩
set_option maxRecDepth 20000 in
theorem fX12_175 : q_F RX12 175 12 12 27 false := ⟨RX12, TX12, q_ClX12, by decide, (q_w 1394 (by decide +kernel) (by decide +kernel)), rfl⟩
set_option maxRecDepth 20000 in
theorem fX12_178 : q_F RX12 178 12 13 27 false := ⟨RX12, TX12, q_ClX12, by decide, (q_w 1395 (by decide +kernel) (by decide +kernel)), rfl⟩
set_option maxRecDepth 20000 in
theorem fX12_32 : q_F RX12 32 12 14 27 true := ⟨RX12, TX12, q_ClX12, by decide, (q_w 1396 (by decide +kernel) (by decide +kernel)), rfl⟩
set_option maxRecDepth 20000 in
theorem fX12_36 : q_F RX12 36 12 15 27 true := ⟨RX12, TX12, q_ClX12, by decide, (q_w 1397 (by decide +kernel) (by decide +kernel)), rfl⟩
set_option maxRecDepth 20000 in
theorem fX12_39 : q_F RX12 39 12 16 27 true := ⟨RX12, TX12, q_ClX12, by decide, (q_w 1398 (by decide +kernel) (by decide +kernel)), rfl⟩
set_option maxRecDepth 20000 in
theorem fX12_42 : q_F RX12 42 12 17 27 true := ⟨RX12, TX12, q_ClX12, by decide, (q_w 1399 (by decide +kernel) (by decide +kernel)), rfl⟩
set_option maxRecDepth 20000 in
theorem fX12_45 : q_F RX12 45 12 18 27 true := ⟨RX12, TX12, q_ClX12, by decide, (q_w 1400 (by decide +kernel) (by decide +kernel)), rfl⟩
set_option maxRecDepth 20000 in
theorem fX12_272 : q_F RX12 272 12 19 27 false := ⟨RX12, TX12, q_ClX12, by decide, (q_w 1401 (by decide +kernel) (by decide +kernel)), rfl⟩
set_option maxRecDepth 20000 in
theorem fX12_48 : q_F RX12 48 12 20 27 true := ⟨RX12, TX12, q_ClX12, by decide, (q_w 1402 (by decide +kernel) (by decide +kernel)), rfl⟩
set_option maxRecDepth 20000 in
theorem fX12_333 : q_F RX12 333 12 21 27 false := ⟨RX12, TX12, q_ClX12, by decide, (q_w 1403 (by decide +kernel) (by decide +kernel)), rfl⟩
set_option maxRecDepth 20000 in
theorem fX12_51 : q_F RX12 51 12 22 27 true := ⟨RX12, TX12, q_ClX12, by decide, (q_w 1404 (by decide +kernel) (by decide +kernel)), rfl⟩
set_option maxRecDepth 20000 in
theorem fX12_366 : q_F RX12 366 12 23 27 false := ⟨RX12, TX12, q_ClX12, by decide, (q_w 1405 (by decide +kernel) (by decide +kernel)), rfl⟩
set_option maxRecDepth 20000 in
theorem fX12_54 : q_F RX12 54 12 24 27 false := ⟨RX12, TX12, q_ClX12, by decide, (q_w 1406 (by decide +kernel) (by decide +kernel)), rfl⟩
set_option maxRecDepth 20000 in
theorem fX12_57 : q_F RX12 57 12 25 27 true := ⟨RX12, TX12, q_ClX12, by decide, (q_w 1407 (by decide +kernel) (by decide +kernel)), rfl⟩
set_option maxRecDepth 20000 in
theorem fX12_387 : q_F RX12 387 12 26 27 false := ⟨RX12, TX12, q_ClX12, by decide, (q_w 1408 (by decide +kernel) (by decide +kernel)), rfl⟩
set_option maxRecDepth 20000 in
theorem lL_224 : q_LV RL 224 mX12_undo 0 := ⟨okX12_undo, (q_w 1464 (by decide +kernel) (by decide +kernel)), (q_w 1465 (by decide +kernel) (by decide +kernel)), (q_w 1466 (by decide +kernel) (by decide +kernel))⟩
set_option maxRecDepth 20000 in
theorem lX12_64 : q_LV RX12 64 mX12_copyRow 2 := ⟨okX12_copyRow, (q_w 1468 (by decide +kernel) (by decide +kernel)), (q_w 1470 (by decide +kernel) (by decide +kernel)), (q_w 27 (by decide +kernel) (by decide +kernel))⟩
set_option maxRecDepth 20000 in
theorem lL_229 : q_LV RL 229 mX12_keep 1 := ⟨okX12_keep, (q_w 1472 (by decide +kernel) (by decide +kernel)), (q_w 1473 (by decide +kernel) (by decide +kernel)), (q_w 1474 (by decide +kernel) (by decide +kernel))⟩
set_option maxRecDepth 20000 in
theorem lX12_68 : q_LS RX12 68 mX12_isIn 3 := ⟨okX12_isIn, (q_w 1476 (by decide +kernel) (by decide +kernel)), (q_w 1477 (by decide +kernel) (by decide +kernel))⟩
set_option maxRecDepth 20000 in
theorem lL_233 : q_LV RL 233 mX12_restore 1 := ⟨okX12_restore, (q_w 1479 (by decide +kernel) (by decide +kernel)), (q_w 1480 (by decide +kernel) (by decide +kernel)), (q_w 1481 (by decide +kernel) (by decide +kernel))⟩
set_option maxRecDepth 20000 in
theorem lX12_72 : q_LV RX12 72 mX12_deedOf 1 := ⟨okX12_deedOf, (q_w 1483 (by decide +kernel) (by decide +kernel)), (q_w 1485 (by decide +kernel) (by decide +kernel)), (q_w 28 (by decide +kernel) (by decide +kernel))⟩
set_option maxRecDepth 20000 in
theorem lL_17 : q_LV RL 17 mX12_feed 5 := ⟨okX12_feed, (q_w 1487 (by decide +kernel) (by decide +kernel)), (q_w 1488 (by decide +kernel) (by decide +kernel)), (q_w 1489 (by decide +kernel) (by decide +kernel))⟩
set_option maxRecDepth 20000 in
theorem lX12_79 : q_LV RX12 79 mX12_four 1 := ⟨okX12_four, (q_w 1491 (by decide +kernel) (by decide +kernel)), (q_w 1493 (by decide +kernel) (by decide +kernel)), (q_w 29 (by decide +kernel) (by decide +kernel))⟩
set_option maxRecDepth 20000 in
theorem lL_22 : q_LV RL 22 mX12_end 1 := ⟨okX12_end, (q_w 1495 (by decide +kernel) (by decide +kernel)), (q_w 1496 (by decide +kernel) (by decide +kernel)), (q_w 1497 (by decide +kernel) (by decide +kernel))⟩
set_option maxRecDepth 20000 in
theorem lL_43 : q_LV RL 43 mX12_fault 0 := ⟨okX12_fault, (q_w 1499 (by decide +kernel) (by decide +kernel)), (q_w 1500 (by decide +kernel) (by decide +kernel)), (q_w 1501 (by decide +kernel) (by decide +kernel))⟩
set_option maxRecDepth 20000 in
theorem lL_35 : q_LV RL 35 mX12_market 0 := ⟨okX12_market, (q_w 1503 (by decide +kernel) (by decide +kernel)), (q_w 1504 (by decide +kernel) (by decide +kernel)), (q_w 1505 (by decide +kernel) (by decide +kernel))⟩
set_option maxRecDepth 20000 in
theorem lX12_150 : q_LV RX12 150 mX12_beginText 0 := ⟨okX12_beginText, (q_w 1507 (by decide +kernel) (by decide +kernel)), (q_w 1509 (by decide +kernel) (by decide +kernel)), (q_w 30 (by decide +kernel) (by decide +kernel))⟩
set_option maxRecDepth 20000 in
theorem lX12_153 : q_LV RX12 153 mX12_readOffer 0 := ⟨okX12_readOffer, (q_w 1511 (by decide +kernel) (by decide +kernel)), (q_w 1513 (by decide +kernel) (by decide +kernel)), (q_w 31 (by decide +kernel) (by decide +kernel))⟩
set_option maxRecDepth 20000 in
theorem lX12_89 : q_LV RX12 89 mX12_fails 1 := ⟨okX12_fails, (q_w 1515 (by decide +kernel) (by decide +kernel)), (q_w 1517 (by decide +kernel) (by decide +kernel)), (q_w 32 (by decide +kernel) (by decide +kernel))⟩
set_option maxRecDepth 20000 in
theorem lX12_107 : q_LV RX12 107 mX12_reads 3 := ⟨okX12_reads, (q_w 1519 (by decide +kernel) (by decide +kernel)), (q_w 1521 (by decide +kernel) (by decide +kernel)), (q_w 33 (by decide +kernel) (by decide +kernel))⟩
set_option maxRecDepth 20000 in
theorem lX12_99 : q_LV RX12 99 mX12_readNumber 2 := ⟨okX12_readNumber, (q_w 1523 (by decide +kernel) (by decide +kernel)), (q_w 1525 (by decide +kernel) (by decide +kernel)), (q_w 34 (by decide +kernel) (by decide +kernel))⟩
set_option maxRecDepth 20000 in
theorem lX12_85 : q_LV RX12 85 mX12_here 0 := ⟨okX12_here, (q_w 1527 (by decide +kernel) (by decide +kernel)), (q_w 1529 (by decide +kernel) (by decide +kernel)), (q_w 35 (by decide +kernel) (by decide +kernel))⟩
set_option maxRecDepth 20000 in
theorem lX12_96 : q_LS RX12 96 mX12_isFigure 1 := ⟨okX12_isFigure, (q_w 1531 (by decide +kernel) (by decide +kernel)), (q_w 1532 (by decide +kernel) (by decide +kernel))⟩
set_option maxRecDepth 20000 in
theorem lX12_103 : q_LV RX12 103 mX12_takes 1 := ⟨okX12_takes, (q_w 1534 (by decide +kernel) (by decide +kernel)), (q_w 1536 (by decide +kernel) (by decide +kernel)), (q_w 36 (by decide +kernel) (by decide +kernel))⟩
set_option maxRecDepth 20000 in
theorem kX12_135 : Cond.constant RX12 135 (zi (99999)) ∈ q_tb := (q_w 1538 (by decide +kernel) (by decide +kernel))
set_option maxRecDepth 20000 in
theorem lX12_156 : q_LV RX12 156 mX12_ends 0 := ⟨okX12_ends, (q_w 1539 (by decide +kernel) (by decide +kernel)), (q_w 1541 (by decide +kernel) (by decide +kernel)), (q_w 37 (by decide +kernel) (by decide +kernel))⟩
set_option maxRecDepth 20000 in
theorem lL_27 : q_LV RL 27 mX12_text 0 := ⟨okX12_text, (q_w 1543 (by decide +kernel) (by decide +kernel)), (q_w 1544 (by decide +kernel) (by decide +kernel)), (q_w 1545 (by decide +kernel) (by decide +kernel))⟩
set_option maxRecDepth 20000 in
theorem lX12_159 : q_LV RX12 159 mX12_readItem 0 := ⟨okX12_readItem, (q_w 1547 (by decide +kernel) (by decide +kernel)), (q_w 1549 (by decide +kernel) (by decide +kernel)), (q_w 38 (by decide +kernel) (by decide +kernel))⟩
set_option maxRecDepth 20000 in
theorem lX12_140 : q_LV RX12 140 mX12_readLimit 0 := ⟨okX12_readLimit, (q_w 1551 (by decide +kernel) (by decide +kernel)), (q_w 1553 (by decide +kernel) (by decide +kernel)), (q_w 39 (by decide +kernel) (by decide +kernel))⟩
set_option maxRecDepth 20000 in
theorem kX12_106 : Cond.constant RX12 106 (zi (999999)) ∈ q_tb := (q_w 1555 (by decide +kernel) (by decide +kernel))
set_option maxRecDepth 20000 in
theorem lX12_144 : q_LV RX12 144 mX12_readDays 0 := ⟨okX12_readDays, (q_w 1556 (by decide +kernel) (by decide +kernel)), (q_w 1558 (by decide +kernel) (by decide +kernel)), (q_w 40 (by decide +kernel) (by decide +kernel))⟩
set_option maxRecDepth 20000 in
theorem lX12_147 : q_LV RX12 147 mX12_readContract 0 := ⟨okX12_readContract, (q_w 1560 (by decide +kernel) (by decide +kernel)), (q_w 1562 (by decide +kernel) (by decide +kernel)), (q_w 41 (by decide +kernel) (by decide +kernel))⟩
set_option maxRecDepth 20000 in
theorem lX12_111 : q_LS RX12 111 mX12_placeOf 2 := ⟨okX12_placeOf, (q_w 1564 (by decide +kernel) (by decide +kernel)), (q_w 1565 (by decide +kernel) (by decide +kernel))⟩
set_option maxRecDepth 20000 in
theorem lX12_115 : q_LV RX12 115 mX12_of 2 := ⟨okX12_of, (q_w 1567 (by decide +kernel) (by decide +kernel)), (q_w 1569 (by decide +kernel) (by decide +kernel)), (q_w 42 (by decide +kernel) (by decide +kernel))⟩
set_option maxRecDepth 20000 in
theorem lX12_122 : q_LS RX12 122 mX12_lesser 2 := ⟨okX12_lesser, (q_w 1571 (by decide +kernel) (by decide +kernel)), (q_w 1572 (by decide +kernel) (by decide +kernel))⟩
set_option maxRecDepth 20000 in
theorem lX12_132 : q_LV RX12 132 mX12_endOf 1 := ⟨okX12_endOf, (q_w 1574 (by decide +kernel) (by decide +kernel)), (q_w 1576 (by decide +kernel) (by decide +kernel)), (q_w 43 (by decide +kernel) (by decide +kernel))⟩
set_option maxRecDepth 20000 in
theorem lX12_136 : q_LV RX12 136 mX12_spreads 3 := ⟨okX12_spreads, (q_w 1578 (by decide +kernel) (by decide +kernel)), (q_w 1580 (by decide +kernel) (by decide +kernel)), (q_w 44 (by decide +kernel) (by decide +kernel))⟩
set_option maxRecDepth 20000 in
theorem lX12_125 : q_LV RX12 125 mX12_partsFrom 2 := ⟨okX12_partsFrom, (q_w 1582 (by decide +kernel) (by decide +kernel)), (q_w 1584 (by decide +kernel) (by decide +kernel)), (q_w 45 (by decide +kernel) (by decide +kernel))⟩
set_option maxRecDepth 20000 in
theorem lX12_118 : q_LV RX12 118 mX12_lastOf 1 := ⟨okX12_lastOf, (q_w 1586 (by decide +kernel) (by decide +kernel)), (q_w 1588 (by decide +kernel) (by decide +kernel)), (q_w 46 (by decide +kernel) (by decide +kernel))⟩
set_option maxRecDepth 20000 in
theorem lX12_128 : q_LS RX12 128 mX12_pieceOf 3 := ⟨okX12_pieceOf, (q_w 1590 (by decide +kernel) (by decide +kernel)), (q_w 1591 (by decide +kernel) (by decide +kernel))⟩
set_option maxRecDepth 20000 in
theorem lL_31 : q_LV RL 31 mX12_policy 0 := ⟨okX12_policy, (q_w 1593 (by decide +kernel) (by decide +kernel)), (q_w 1594 (by decide +kernel) (by decide +kernel)), (q_w 1595 (by decide +kernel) (by decide +kernel))⟩
set_option maxRecDepth 20000 in
theorem lX12_197 : q_LV RX12 197 mX12_readSum 0 := ⟨okX12_readSum, (q_w 1597 (by decide +kernel) (by decide +kernel)), (q_w 1599 (by decide +kernel) (by decide +kernel)), (q_w 47 (by decide +kernel) (by decide +kernel))⟩
set_option maxRecDepth 20000 in
theorem lX12_191 : q_LV RX12 191 mX12_readThing 0 := ⟨okX12_readThing, (q_w 1601 (by decide +kernel) (by decide +kernel)), (q_w 1603 (by decide +kernel) (by decide +kernel)), (q_w 48 (by decide +kernel) (by decide +kernel))⟩
set_option maxRecDepth 20000 in
theorem lX12_181 : q_LV RX12 181 mX12_waitsFor 1 := ⟨okX12_waitsFor, (q_w 1605 (by decide +kernel) (by decide +kernel)), (q_w 1607 (by decide +kernel) (by decide +kernel)), (q_w 49 (by decide +kernel) (by decide +kernel))⟩
set_option maxRecDepth 20000 in
theorem lX12_184 : q_LS RX12 184 mX12_nameOf 1 := ⟨okX12_nameOf, (q_w 1609 (by decide +kernel) (by decide +kernel)), (q_w 1610 (by decide +kernel) (by decide +kernel))⟩
set_option maxRecDepth 20000 in
theorem lX12_172 : q_LV RX12 172 mX12_does 1 := ⟨okX12_does, (q_w 1612 (by decide +kernel) (by decide +kernel)), (q_w 1614 (by decide +kernel) (by decide +kernel)), (q_w 50 (by decide +kernel) (by decide +kernel))⟩
set_option maxRecDepth 20000 in
theorem kX12_187 : Cond.constant RX12 187 (zi (1000000)) ∈ q_tb := (q_w 1616 (by decide +kernel) (by decide +kernel))
set_option maxRecDepth 20000 in
theorem lX12_194 : q_LV RX12 194 mX12_closes 0 := ⟨okX12_closes, (q_w 1617 (by decide +kernel) (by decide +kernel)), (q_w 1619 (by decide +kernel) (by decide +kernel)), (q_w 51 (by decide +kernel) (by decide +kernel))⟩
set_option maxRecDepth 20000 in
theorem lX12_188 : q_LV RX12 188 mX12_doesWaiting 1 := ⟨okX12_doesWaiting, (q_w 1621 (by decide +kernel) (by decide +kernel)), (q_w 1623 (by decide +kernel) (by decide +kernel)), (q_w 52 (by decide +kernel) (by decide +kernel))⟩
set_option maxRecDepth 20000 in
theorem lX12_168 : q_LS RX12 168 mX12_rankOf 1 := ⟨okX12_rankOf, (q_w 1625 (by decide +kernel) (by decide +kernel)), (q_w 1626 (by decide +kernel) (by decide +kernel))⟩
set_option maxRecDepth 20000 in
theorem kX12_171 : Cond.constant RX12 171 (zi (2000000)) ∈ q_tb := (q_w 1628 (by decide +kernel) (by decide +kernel))
set_option maxRecDepth 20000 in
theorem lL_77 : q_LV RL 77 mX12_now 1 := ⟨okX12_now, (q_w 1629 (by decide +kernel) (by decide +kernel)), (q_w 1630 (by decide +kernel) (by decide +kernel)), (q_w 1631 (by decide +kernel) (by decide +kernel))⟩
set_option maxRecDepth 20000 in
theorem kX12_245 : Cond.constant RX12 245 (zi (-1000000000)) ∈ q_tb := (q_w 1633 (by decide +kernel) (by decide +kernel))
set_option maxRecDepth 20000 in
theorem lX12_241 : q_LV RX12 241 mX12_countOf 3 := ⟨okX12_countOf, (q_w 1634 (by decide +kernel) (by decide +kernel)), (q_w 1636 (by decide +kernel) (by decide +kernel)), (q_w 53 (by decide +kernel) (by decide +kernel))⟩
set_option maxRecDepth 20000 in
theorem lX12_233 : q_LV RX12 233 mX12_layHits 3 := ⟨okX12_layHits, (q_w 1638 (by decide +kernel) (by decide +kernel)), (q_w 1640 (by decide +kernel) (by decide +kernel)), (q_w 54 (by decide +kernel) (by decide +kernel))⟩
set_option maxRecDepth 20000 in
theorem lX12_209 : q_LV RX12 209 mX12_isOpen 1 := ⟨okX12_isOpen, (q_w 1642 (by decide +kernel) (by decide +kernel)), (q_w 1644 (by decide +kernel) (by decide +kernel)), (q_w 55 (by decide +kernel) (by decide +kernel))⟩
set_option maxRecDepth 20000 in
theorem lX12_227 : q_LV RX12 227 mX12_mostOf 1 := ⟨okX12_mostOf, (q_w 1646 (by decide +kernel) (by decide +kernel)), (q_w 1648 (by decide +kernel) (by decide +kernel)), (q_w 56 (by decide +kernel) (by decide +kernel))⟩
set_option maxRecDepth 20000 in
theorem lX12_224 : q_LS RX12 224 mX12_greater 2 := ⟨okX12_greater, (q_w 1650 (by decide +kernel) (by decide +kernel)), (q_w 1651 (by decide +kernel) (by decide +kernel))⟩
set_option maxRecDepth 20000 in
theorem lX12_230 : q_LV RX12 230 mX12_hitOf 2 := ⟨okX12_hitOf, (q_w 1653 (by decide +kernel) (by decide +kernel)), (q_w 1655 (by decide +kernel) (by decide +kernel)), (q_w 57 (by decide +kernel) (by decide +kernel))⟩
set_option maxRecDepth 20000 in
theorem lX12_218 : q_LV RX12 218 mX12_deadNow 2 := ⟨okX12_deadNow, (q_w 1657 (by decide +kernel) (by decide +kernel)), (q_w 1659 (by decide +kernel) (by decide +kernel)), (q_w 58 (by decide +kernel) (by decide +kernel))⟩
set_option maxRecDepth 20000 in
theorem lX12_212 : q_LV RX12 212 mX12_partsBehind 2 := ⟨okX12_partsBehind, (q_w 1661 (by decide +kernel) (by decide +kernel)), (q_w 1663 (by decide +kernel) (by decide +kernel)), (q_w 59 (by decide +kernel) (by decide +kernel))⟩
set_option maxRecDepth 20000 in
theorem lX12_215 : q_LV RX12 215 mX12_sureOf 2 := ⟨okX12_sureOf, (q_w 1665 (by decide +kernel) (by decide +kernel)), (q_w 1667 (by decide +kernel) (by decide +kernel)), (q_w 60 (by decide +kernel) (by decide +kernel))⟩
set_option maxRecDepth 20000 in
theorem lX12_237 : q_LV RX12 237 mX12_promisesOf 4 := ⟨okX12_promisesOf, (q_w 1669 (by decide +kernel) (by decide +kernel)), (q_w 1671 (by decide +kernel) (by decide +kernel)), (q_w 61 (by decide +kernel) (by decide +kernel))⟩
set_option maxRecDepth 20000 in
theorem lX12_246 : q_LV RX12 246 mX12_roomOf 2 := ⟨okX12_roomOf, (q_w 1673 (by decide +kernel) (by decide +kernel)), (q_w 1675 (by decide +kernel) (by decide +kernel)), (q_w 62 (by decide +kernel) (by decide +kernel))⟩
set_option maxRecDepth 20000 in
theorem lL_55 : q_LV RL 55 mX12_is 1 := ⟨okX12_is, (q_w 1677 (by decide +kernel) (by decide +kernel)), (q_w 1678 (by decide +kernel) (by decide +kernel)), (q_w 1679 (by decide +kernel) (by decide +kernel))⟩
set_option maxRecDepth 20000 in
theorem lX12_250 : q_LV RX12 250 mX12_howMany 1 := ⟨okX12_howMany, (q_w 1681 (by decide +kernel) (by decide +kernel)), (q_w 1683 (by decide +kernel) (by decide +kernel)), (q_w 63 (by decide +kernel) (by decide +kernel))⟩
set_option maxRecDepth 20000 in
theorem lL_59 : q_LV RL 59 mX12_limit 1 := ⟨okX12_limit, (q_w 1685 (by decide +kernel) (by decide +kernel)), (q_w 1686 (by decide +kernel) (by decide +kernel)), (q_w 1687 (by decide +kernel) (by decide +kernel))⟩
set_option maxRecDepth 20000 in
theorem lX12_253 : q_LS RX12 253 mX12_isYear 1 := ⟨okX12_isYear, (q_w 1689 (by decide +kernel) (by decide +kernel)), (q_w 1690 (by decide +kernel) (by decide +kernel))⟩
set_option maxRecDepth 20000 in
theorem kX12_204 : Cond.constantLong RX12 204 (19) ∈ q_tb := (q_w 1692 (by decide +kernel) (by decide +kernel))
set_option maxRecDepth 20000 in
theorem lL_63 : q_LV RL 63 mX12_dead 1 := ⟨okX12_dead, (q_w 1693 (by decide +kernel) (by decide +kernel)), (q_w 1694 (by decide +kernel) (by decide +kernel)), (q_w 1695 (by decide +kernel) (by decide +kernel))⟩
set_option maxRecDepth 20000 in
theorem lL_68 : q_LV RL 68 mX12_contract 2 := ⟨okX12_contract, (q_w 1697 (by decide +kernel) (by decide +kernel)), (q_w 1698 (by decide +kernel) (by decide +kernel)), (q_w 1699 (by decide +kernel) (by decide +kernel))⟩
set_option maxRecDepth 20000 in
theorem lX12_206 : q_LV RX12 206 mX12_isContract 1 := ⟨okX12_isContract, (q_w 1701 (by decide +kernel) (by decide +kernel)), (q_w 1703 (by decide +kernel) (by decide +kernel)), (q_w 64 (by decide +kernel) (by decide +kernel))⟩
set_option maxRecDepth 20000 in
theorem kX12_256 : Cond.constantLong RX12 256 (7) ∈ q_tb := (q_w 1705 (by decide +kernel) (by decide +kernel))
set_option maxRecDepth 20000 in
theorem lX12_258 : q_LV RX12 258 mX12_yearsLeft 1 := ⟨okX12_yearsLeft, (q_w 1706 (by decide +kernel) (by decide +kernel)), (q_w 1708 (by decide +kernel) (by decide +kernel)), (q_w 65 (by decide +kernel) (by decide +kernel))⟩
set_option maxRecDepth 20000 in
theorem lL_73 : q_LV RL 73 mX12_pay 3 := ⟨okX12_pay, (q_w 1710 (by decide +kernel) (by decide +kernel)), (q_w 1711 (by decide +kernel) (by decide +kernel)), (q_w 1712 (by decide +kernel) (by decide +kernel))⟩
set_option maxRecDepth 20000 in
theorem lL_81 : q_LV RL 81 mX12_would 2 := ⟨okX12_would, (q_w 1714 (by decide +kernel) (by decide +kernel)), (q_w 1715 (by decide +kernel) (by decide +kernel)), (q_w 1716 (by decide +kernel) (by decide +kernel))⟩
set_option maxRecDepth 20000 in
theorem lX12_261 : q_LV RX12 261 mX12_canCut 1 := ⟨okX12_canCut, (q_w 1718 (by decide +kernel) (by decide +kernel)), (q_w 1720 (by decide +kernel) (by decide +kernel)), (q_w 66 (by decide +kernel) (by decide +kernel))⟩
set_option maxRecDepth 20000 in
theorem kX12_264 : Cond.constantLong RX12 264 (3) ∈ q_tb := (q_w 1722 (by decide +kernel) (by decide +kernel))
set_option maxRecDepth 20000 in
theorem lX12_221 : q_LV RX12 221 mX12_deadLater 2 := ⟨okX12_deadLater, (q_w 1723 (by decide +kernel) (by decide +kernel)), (q_w 1725 (by decide +kernel) (by decide +kernel)), (q_w 67 (by decide +kernel) (by decide +kernel))⟩
set_option maxRecDepth 20000 in
theorem lX12_266 : q_LV RX12 266 mX12_deadInAll 1 := ⟨okX12_deadInAll, (q_w 1727 (by decide +kernel) (by decide +kernel)), (q_w 1729 (by decide +kernel) (by decide +kernel)), (q_w 68 (by decide +kernel) (by decide +kernel))⟩
set_option maxRecDepth 20000 in
theorem lX12_269 : q_LV RX12 269 mX12_savedOn 2 := ⟨okX12_savedOn, (q_w 1731 (by decide +kernel) (by decide +kernel)), (q_w 1733 (by decide +kernel) (by decide +kernel)), (q_w 69 (by decide +kernel) (by decide +kernel))⟩
set_option maxRecDepth 20000 in
theorem lL_51 : q_LV RL 51 mX12_why 0 := ⟨okX12_why, (q_w 1735 (by decide +kernel) (by decide +kernel)), (q_w 1736 (by decide +kernel) (by decide +kernel)), (q_w 1737 (by decide +kernel) (by decide +kernel))⟩
set_option maxRecDepth 20000 in
theorem lL_85 : q_LV RL 85 mX12_cut 1 := ⟨okX12_cut, (q_w 1739 (by decide +kernel) (by decide +kernel)), (q_w 1740 (by decide +kernel) (by decide +kernel)), (q_w 1741 (by decide +kernel) (by decide +kernel))⟩
set_option maxRecDepth 20000 in
theorem lX12_278 : q_LV RX12 278 mX12_whyNot 1 := ⟨okX12_whyNot, (q_w 1743 (by decide +kernel) (by decide +kernel)), (q_w 1745 (by decide +kernel) (by decide +kernel)), (q_w 70 (by decide +kernel) (by decide +kernel))⟩
set_option maxRecDepth 20000 in
theorem lX12_281 : q_LV RX12 281 mX12_refuses 1 := ⟨okX12_refuses, (q_w 1747 (by decide +kernel) (by decide +kernel)), (q_w 1749 (by decide +kernel) (by decide +kernel)), (q_w 71 (by decide +kernel) (by decide +kernel))⟩
set_option maxRecDepth 20000 in
theorem lX12_284 : q_LV RX12 284 mX12_cuts 1 := ⟨okX12_cuts, (q_w 1751 (by decide +kernel) (by decide +kernel)), (q_w 1753 (by decide +kernel) (by decide +kernel)), (q_w 72 (by decide +kernel) (by decide +kernel))⟩
set_option maxRecDepth 20000 in
theorem lX12_275 : q_LV RX12 275 mX12_closesFor 2 := ⟨okX12_closesFor, (q_w 1755 (by decide +kernel) (by decide +kernel)), (q_w 1757 (by decide +kernel) (by decide +kernel)), (q_w 73 (by decide +kernel) (by decide +kernel))⟩
set_option maxRecDepth 20000 in
theorem lL_89 : q_LV RL 89 mX12_trade 1 := ⟨okX12_trade, (q_w 1759 (by decide +kernel) (by decide +kernel)), (q_w 1760 (by decide +kernel) (by decide +kernel)), (q_w 1761 (by decide +kernel) (by decide +kernel))⟩
set_option maxRecDepth 20000 in
theorem lL_98 : q_LV RL 98 mX12_promise 4 := ⟨okX12_promise, (q_w 1763 (by decide +kernel) (by decide +kernel)), (q_w 1764 (by decide +kernel) (by decide +kernel)), (q_w 1765 (by decide +kernel) (by decide +kernel))⟩
set_option maxRecDepth 20000 in
theorem kX12_287 : Cond.constantLong RX12 287 (99999) ∈ q_tb := (q_w 1767 (by decide +kernel) (by decide +kernel))
set_option maxRecDepth 20000 in
theorem lL_102 : q_LV RL 102 mX12_earn 1 := ⟨okX12_earn, (q_w 1768 (by decide +kernel) (by decide +kernel)), (q_w 1769 (by decide +kernel) (by decide +kernel)), (q_w 1770 (by decide +kernel) (by decide +kernel))⟩
set_option maxRecDepth 20000 in
theorem lX12_289 : q_LV RX12 289 mX12_isPromise 1 := ⟨okX12_isPromise, (q_w 1772 (by decide +kernel) (by decide +kernel)), (q_w 1774 (by decide +kernel) (by decide +kernel)), (q_w 74 (by decide +kernel) (by decide +kernel))⟩
set_option maxRecDepth 20000 in
theorem lL_212 : q_LV RL 212 mX12_promised 2 := ⟨okX12_promised, (q_w 1776 (by decide +kernel) (by decide +kernel)), (q_w 1777 (by decide +kernel) (by decide +kernel)), (q_w 1778 (by decide +kernel) (by decide +kernel))⟩
set_option maxRecDepth 20000 in
theorem kX12_292 : Cond.constantLong RX12 292 (4) ∈ q_tb := (q_w 1780 (by decide +kernel) (by decide +kernel))
set_option maxRecDepth 20000 in
theorem lL_204 : q_LV RL 204 mX12_offer 2 := ⟨okX12_offer, (q_w 1781 (by decide +kernel) (by decide +kernel)), (q_w 1782 (by decide +kernel) (by decide +kernel)), (q_w 1783 (by decide +kernel) (by decide +kernel))⟩
set_option maxRecDepth 20000 in
theorem lX12_294 : q_LV RX12 294 mX12_isOffer 1 := ⟨okX12_isOffer, (q_w 1785 (by decide +kernel) (by decide +kernel)), (q_w 1787 (by decide +kernel) (by decide +kernel)), (q_w 75 (by decide +kernel) (by decide +kernel))⟩
set_option maxRecDepth 20000 in
theorem lX12_297 : q_LV RX12 297 mX12_hitOfOffer 1 := ⟨okX12_hitOfOffer, (q_w 1789 (by decide +kernel) (by decide +kernel)), (q_w 1791 (by decide +kernel) (by decide +kernel)), (q_w 76 (by decide +kernel) (by decide +kernel))⟩
set_option maxRecDepth 20000 in
theorem lL_208 : q_LV RL 208 mX12_buys 1 := ⟨okX12_buys, (q_w 1793 (by decide +kernel) (by decide +kernel)), (q_w 1794 (by decide +kernel) (by decide +kernel)), (q_w 1795 (by decide +kernel) (by decide +kernel))⟩
set_option maxRecDepth 20000 in
theorem kX12_300 : Cond.constantLong RX12 300 (2) ∈ q_tb := (q_w 1797 (by decide +kernel) (by decide +kernel))
set_option maxRecDepth 20000 in
theorem lX12_302 : q_LS RX12 302 mX12_bits 1 := ⟨okX12_bits, (q_w 1798 (by decide +kernel) (by decide +kernel)), (q_w 1799 (by decide +kernel) (by decide +kernel))⟩
set_option maxRecDepth 20000 in
theorem lL_93 : q_LV RL 93 mX12_sign 1 := ⟨okX12_sign, (q_w 1801 (by decide +kernel) (by decide +kernel)), (q_w 1802 (by decide +kernel) (by decide +kernel)), (q_w 1803 (by decide +kernel) (by decide +kernel))⟩
set_option maxRecDepth 20000 in
theorem lX12_305 : q_LV RX12 305 mX12_whyNotSign 1 := ⟨okX12_whyNotSign, (q_w 1805 (by decide +kernel) (by decide +kernel)), (q_w 1807 (by decide +kernel) (by decide +kernel)), (q_w 77 (by decide +kernel) (by decide +kernel))⟩
set_option maxRecDepth 20000 in
theorem lL_106 : q_LV RL 106 mX12_turn 2 := ⟨okX12_turn, (q_w 1809 (by decide +kernel) (by decide +kernel)), (q_w 1810 (by decide +kernel) (by decide +kernel)), (q_w 1811 (by decide +kernel) (by decide +kernel))⟩
set_option maxRecDepth 20000 in
theorem lX12_308 : q_LV RX12 308 mX12_whyNotLess 2 := ⟨okX12_whyNotLess, (q_w 1813 (by decide +kernel) (by decide +kernel)), (q_w 1815 (by decide +kernel) (by decide +kernel)), (q_w 78 (by decide +kernel) (by decide +kernel))⟩
set_option maxRecDepth 20000 in
theorem lL_115 : q_LV RL 115 mX12_lower 2 := ⟨okX12_lower, (q_w 1817 (by decide +kernel) (by decide +kernel)), (q_w 1818 (by decide +kernel) (by decide +kernel)), (q_w 1819 (by decide +kernel) (by decide +kernel))⟩
set_option maxRecDepth 20000 in
theorem lL_111 : q_LV RL 111 mX12_longer 4 := ⟨okX12_longer, (q_w 1821 (by decide +kernel) (by decide +kernel)), (q_w 1822 (by decide +kernel) (by decide +kernel)), (q_w 1823 (by decide +kernel) (by decide +kernel))⟩
set_option maxRecDepth 20000 in
theorem lX12_313 : q_LV RX12 313 mX12_whyNotLonger 4 := ⟨okX12_whyNotLonger, (q_w 1825 (by decide +kernel) (by decide +kernel)), (q_w 1827 (by decide +kernel) (by decide +kernel)), (q_w 79 (by decide +kernel) (by decide +kernel))⟩
set_option maxRecDepth 20000 in
theorem kX12_311 : Cond.constantLong RX12 311 (5) ∈ q_tb := (q_w 1829 (by decide +kernel) (by decide +kernel))
set_option maxRecDepth 20000 in
theorem lL_119 : q_LV RL 119 mX12_days 1 := ⟨okX12_days, (q_w 1830 (by decide +kernel) (by decide +kernel)), (q_w 1831 (by decide +kernel) (by decide +kernel)), (q_w 1832 (by decide +kernel) (by decide +kernel))⟩
set_option maxRecDepth 20000 in
theorem lL_123 : q_LV RL 123 mX12_year 0 := ⟨okX12_year, (q_w 1834 (by decide +kernel) (by decide +kernel)), (q_w 1835 (by decide +kernel) (by decide +kernel)), (q_w 1836 (by decide +kernel) (by decide +kernel))⟩
set_option maxRecDepth 20000 in
theorem lL_128 : q_LV RL 128 mX12_says 1 := ⟨okX12_says, (q_w 1838 (by decide +kernel) (by decide +kernel)), (q_w 1839 (by decide +kernel) (by decide +kernel)), (q_w 1840 (by decide +kernel) (by decide +kernel))⟩
set_option maxRecDepth 20000 in
theorem lX12_320 : q_LV RX12 320 mX12_saysOf 1 := ⟨okX12_saysOf, (q_w 1842 (by decide +kernel) (by decide +kernel)), (q_w 1844 (by decide +kernel) (by decide +kernel)), (q_w 80 (by decide +kernel) (by decide +kernel))⟩
set_option maxRecDepth 20000 in
theorem lX12_316 : q_LV RX12 316 mX12_worth 0 := ⟨okX12_worth, (q_w 1846 (by decide +kernel) (by decide +kernel)), (q_w 1848 (by decide +kernel) (by decide +kernel)), (q_w 81 (by decide +kernel) (by decide +kernel))⟩
set_option maxRecDepth 20000 in
theorem lX12_200 : q_LS RX12 200 mX12_joined 3 := ⟨okX12_joined, (q_w 1850 (by decide +kernel) (by decide +kernel)), (q_w 1851 (by decide +kernel) (by decide +kernel))⟩
set_option maxRecDepth 20000 in
theorem kX12_324 : Cond.constantLong RX12 324 (-1000000000000) ∈ q_tb := (q_w 1853 (by decide +kernel) (by decide +kernel))
set_option maxRecDepth 20000 in
theorem lL_132 : q_LV RL 132 mX12_byPolicy 1 := ⟨okX12_byPolicy, (q_w 1854 (by decide +kernel) (by decide +kernel)), (q_w 1855 (by decide +kernel) (by decide +kernel)), (q_w 1856 (by decide +kernel) (by decide +kernel))⟩
set_option maxRecDepth 20000 in
theorem lX12_330 : q_LS RX12 330 mX12_isGoal 1 := ⟨okX12_isGoal, (q_w 1858 (by decide +kernel) (by decide +kernel)), (q_w 1859 (by decide +kernel) (by decide +kernel))⟩
set_option maxRecDepth 20000 in
theorem kX12_326 : Cond.constantLong RX12 326 (-999999) ∈ q_tb := (q_w 1861 (by decide +kernel) (by decide +kernel))
set_option maxRecDepth 20000 in
theorem kX12_328 : Cond.constantLong RX12 328 (999999) ∈ q_tb := (q_w 1862 (by decide +kernel) (by decide +kernel))
set_option maxRecDepth 20000 in
theorem lL_136 : q_LV RL 136 mX12_set 2 := ⟨okX12_set, (q_w 1863 (by decide +kernel) (by decide +kernel)), (q_w 1864 (by decide +kernel) (by decide +kernel)), (q_w 1865 (by decide +kernel) (by decide +kernel))⟩
set_option maxRecDepth 20000 in
theorem lX12_336 : q_LV RX12 336 mX12_laySome 1 := ⟨okX12_laySome, (q_w 1867 (by decide +kernel) (by decide +kernel)), (q_w 1869 (by decide +kernel) (by decide +kernel)), (q_w 82 (by decide +kernel) (by decide +kernel))⟩
set_option maxRecDepth 20000 in
theorem lX12_339 : q_LV RX12 339 mX12_deadOf 1 := ⟨okX12_deadOf, (q_w 1871 (by decide +kernel) (by decide +kernel)), (q_w 1873 (by decide +kernel) (by decide +kernel)), (q_w 83 (by decide +kernel) (by decide +kernel))⟩
set_option maxRecDepth 20000 in
theorem lX12_342 : q_LV RX12 342 mX12_contractsOf 1 := ⟨okX12_contractsOf, (q_w 1875 (by decide +kernel) (by decide +kernel)), (q_w 1877 (by decide +kernel) (by decide +kernel)), (q_w 84 (by decide +kernel) (by decide +kernel))⟩
set_option maxRecDepth 20000 in
theorem lL_168 : q_LV RL 168 mX12_fit 2 := ⟨okX12_fit, (q_w 1879 (by decide +kernel) (by decide +kernel)), (q_w 1880 (by decide +kernel) (by decide +kernel)), (q_w 1881 (by decide +kernel) (by decide +kernel))⟩
set_option maxRecDepth 20000 in
theorem lL_140 : q_LV RL 140 mX12_turned 2 := ⟨okX12_turned, (q_w 1883 (by decide +kernel) (by decide +kernel)), (q_w 1884 (by decide +kernel) (by decide +kernel)), (q_w 1885 (by decide +kernel) (by decide +kernel))⟩
set_option maxRecDepth 20000 in
theorem lL_160 : q_LV RL 160 mX12_allTurned 0 := ⟨okX12_allTurned, (q_w 1887 (by decide +kernel) (by decide +kernel)), (q_w 1888 (by decide +kernel) (by decide +kernel)), (q_w 1889 (by decide +kernel) (by decide +kernel))⟩
set_option maxRecDepth 20000 in
theorem lL_172 : q_LV RL 172 mX12_piece 3 := ⟨okX12_piece, (q_w 1891 (by decide +kernel) (by decide +kernel)), (q_w 1892 (by decide +kernel) (by decide +kernel)), (q_w 1893 (by decide +kernel) (by decide +kernel))⟩
set_option maxRecDepth 20000 in
theorem lL_144 : q_LV RL 144 mX12_ahead 1 := ⟨okX12_ahead, (q_w 1895 (by decide +kernel) (by decide +kernel)), (q_w 1896 (by decide +kernel) (by decide +kernel)), (q_w 1897 (by decide +kernel) (by decide +kernel))⟩
set_option maxRecDepth 20000 in
theorem lL_220 : q_LV RL 220 mX12_over 1 := ⟨okX12_over, (q_w 1899 (by decide +kernel) (by decide +kernel)), (q_w 1900 (by decide +kernel) (by decide +kernel)), (q_w 1901 (by decide +kernel) (by decide +kernel))⟩
set_option maxRecDepth 20000 in
theorem kX12_345 : Cond.constantLong RX12 345 (10) ∈ q_tb := (q_w 1903 (by decide +kernel) (by decide +kernel))
set_option maxRecDepth 20000 in
theorem lX12_347 : q_LV RX12 347 mX12_ahead 1 := ⟨okX12_ahead, (q_w 1904 (by decide +kernel) (by decide +kernel)), (q_w 1896 (by decide +kernel) (by decide +kernel)), (q_w 1897 (by decide +kernel) (by decide +kernel))⟩
set_option maxRecDepth 20000 in
theorem lL_148 : q_LV RL 148 mX12_bestDay 1 := ⟨okX12_bestDay, (q_w 1905 (by decide +kernel) (by decide +kernel)), (q_w 1906 (by decide +kernel) (by decide +kernel)), (q_w 1907 (by decide +kernel) (by decide +kernel))⟩
set_option maxRecDepth 20000 in
theorem lL_176 : q_LV RL 176 mX12_lastDay 2 := ⟨okX12_lastDay, (q_w 1909 (by decide +kernel) (by decide +kernel)), (q_w 1910 (by decide +kernel) (by decide +kernel)), (q_w 1911 (by decide +kernel) (by decide +kernel))⟩
set_option maxRecDepth 20000 in
theorem lL_156 : q_LV RL 156 mX12_freeYear 1 := ⟨okX12_freeYear, (q_w 1913 (by decide +kernel) (by decide +kernel)), (q_w 1914 (by decide +kernel) (by decide +kernel)), (q_w 1915 (by decide +kernel) (by decide +kernel))⟩
set_option maxRecDepth 20000 in
theorem lL_152 : q_LV RL 152 mX12_coins 2 := ⟨okX12_coins, (q_w 1917 (by decide +kernel) (by decide +kernel)), (q_w 1918 (by decide +kernel) (by decide +kernel)), (q_w 1919 (by decide +kernel) (by decide +kernel))⟩
set_option maxRecDepth 20000 in
theorem lL_180 : q_LV RL 180 mX12_cash 2 := ⟨okX12_cash, (q_w 1921 (by decide +kernel) (by decide +kernel)), (q_w 1922 (by decide +kernel) (by decide +kernel)), (q_w 1923 (by decide +kernel) (by decide +kernel))⟩
set_option maxRecDepth 20000 in
theorem lX12_350 : q_LV RX12 350 mX12_cashOf 2 := ⟨okX12_cashOf, (q_w 1925 (by decide +kernel) (by decide +kernel)), (q_w 1927 (by decide +kernel) (by decide +kernel)), (q_w 85 (by decide +kernel) (by decide +kernel))⟩
set_option maxRecDepth 20000 in
theorem lL_184 : q_LV RL 184 mX12_allCash 1 := ⟨okX12_allCash, (q_w 1929 (by decide +kernel) (by decide +kernel)), (q_w 1930 (by decide +kernel) (by decide +kernel)), (q_w 1931 (by decide +kernel) (by decide +kernel))⟩
set_option maxRecDepth 20000 in
theorem lL_216 : q_LV RL 216 mX12_floor 2 := ⟨okX12_floor, (q_w 1933 (by decide +kernel) (by decide +kernel)), (q_w 1934 (by decide +kernel) (by decide +kernel)), (q_w 1935 (by decide +kernel) (by decide +kernel))⟩
set_option maxRecDepth 20000 in
theorem lX12_353 : q_LV RX12 353 mX12_allCash 1 := ⟨okX12_allCash, (q_w 1937 (by decide +kernel) (by decide +kernel)), (q_w 1930 (by decide +kernel) (by decide +kernel)), (q_w 1931 (by decide +kernel) (by decide +kernel))⟩
set_option maxRecDepth 20000 in
theorem lL_164 : q_LV RL 164 mX12_ranked 1 := ⟨okX12_ranked, (q_w 1938 (by decide +kernel) (by decide +kernel)), (q_w 1939 (by decide +kernel) (by decide +kernel)), (q_w 1940 (by decide +kernel) (by decide +kernel))⟩
set_option maxRecDepth 20000 in
theorem lX12_356 : q_LV RX12 356 mX12_placed 2 := ⟨okX12_placed, (q_w 1942 (by decide +kernel) (by decide +kernel)), (q_w 1944 (by decide +kernel) (by decide +kernel)), (q_w 86 (by decide +kernel) (by decide +kernel))⟩
set_option maxRecDepth 20000 in
theorem lL_200 : q_LV RL 200 mX12_dearest 1 := ⟨okX12_dearest, (q_w 1946 (by decide +kernel) (by decide +kernel)), (q_w 1947 (by decide +kernel) (by decide +kernel)), (q_w 1948 (by decide +kernel) (by decide +kernel))⟩
set_option maxRecDepth 20000 in
theorem lL_188 : q_LV RL 188 mX12_tag 1 := ⟨okX12_tag, (q_w 1950 (by decide +kernel) (by decide +kernel)), (q_w 1951 (by decide +kernel) (by decide +kernel)), (q_w 1952 (by decide +kernel) (by decide +kernel))⟩
set_option maxRecDepth 20000 in
theorem kX12_359 : Cond.constantLong RX12 359 (40) ∈ q_tb := (q_w 1954 (by decide +kernel) (by decide +kernel))
set_option maxRecDepth 20000 in
theorem lL_192 : q_LV RL 192 mX12_counted 1 := ⟨okX12_counted, (q_w 1955 (by decide +kernel) (by decide +kernel)), (q_w 1956 (by decide +kernel) (by decide +kernel)), (q_w 1957 (by decide +kernel) (by decide +kernel))⟩
set_option maxRecDepth 20000 in
theorem lL_196 : q_LV RL 196 mX12_share 1 := ⟨okX12_share, (q_w 1959 (by decide +kernel) (by decide +kernel)), (q_w 1960 (by decide +kernel) (by decide +kernel)), (q_w 1961 (by decide +kernel) (by decide +kernel))⟩
set_option maxRecDepth 20000 in
theorem kX12_361 : Cond.constantLong RX12 361 (10000) ∈ q_tb := (q_w 1963 (by decide +kernel) (by decide +kernel))
set_option maxRecDepth 20000 in
theorem kX12_363 : Cond.constantLong RX12 363 (1000000000) ∈ q_tb := (q_w 1964 (by decide +kernel) (by decide +kernel))
set_option maxRecDepth 20000 in
theorem kX12_365 : Cond.constant RX12 365 (zi (1000000000)) ∈ q_tb := (q_w 1965 (by decide +kernel) (by decide +kernel))
set_option maxRecDepth 20000 in
theorem lL_39 : q_LV RL 39 mX12_acts 0 := ⟨okX12_acts, (q_w 1966 (by decide +kernel) (by decide +kernel)), (q_w 1967 (by decide +kernel) (by decide +kernel)), (q_w 1968 (by decide +kernel) (by decide +kernel))⟩
set_option maxRecDepth 20000 in
theorem lX12_381 : q_LV RX12 381 mX12_readAct 0 := ⟨okX12_readAct, (q_w 1970 (by decide +kernel) (by decide +kernel)), (q_w 1972 (by decide +kernel) (by decide +kernel)), (q_w 87 (by decide +kernel) (by decide +kernel))⟩
set_option maxRecDepth 20000 in
theorem lX12_384 : q_LV RX12 384 mX12_doAct 1 := ⟨okX12_doAct, (q_w 1974 (by decide +kernel) (by decide +kernel)), (q_w 1976 (by decide +kernel) (by decide +kernel)), (q_w 88 (by decide +kernel) (by decide +kernel))⟩
set_option maxRecDepth 20000 in
theorem lX12_369 : q_LV RX12 369 mX12_cut 1 := ⟨okX12_cut, (q_w 1978 (by decide +kernel) (by decide +kernel)), (q_w 1740 (by decide +kernel) (by decide +kernel)), (q_w 1741 (by decide +kernel) (by decide +kernel))⟩
set_option maxRecDepth 20000 in
theorem lX12_372 : q_LV RX12 372 mX12_turn 2 := ⟨okX12_turn, (q_w 1979 (by decide +kernel) (by decide +kernel)), (q_w 1810 (by decide +kernel) (by decide +kernel)), (q_w 1811 (by decide +kernel) (by decide +kernel))⟩
set_option maxRecDepth 20000 in
theorem lX12_375 : q_LV RX12 375 mX12_days 1 := ⟨okX12_days, (q_w 1980 (by decide +kernel) (by decide +kernel)), (q_w 1831 (by decide +kernel) (by decide +kernel)), (q_w 1832 (by decide +kernel) (by decide +kernel))⟩
set_option maxRecDepth 20000 in
theorem lX12_378 : q_LV RX12 378 mX12_year 0 := ⟨okX12_year, (q_w 1981 (by decide +kernel) (by decide +kernel)), (q_w 1835 (by decide +kernel) (by decide +kernel)), (q_w 1836 (by decide +kernel) (by decide +kernel))⟩
set_option maxRecDepth 20000 in
theorem lL_47 : q_LV RL 47 mX12_ended 0 := ⟨okX12_ended, (q_w 1982 (by decide +kernel) (by decide +kernel)), (q_w 1983 (by decide +kernel) (by decide +kernel)), (q_w 1984 (by decide +kernel) (by decide +kernel))⟩
set_option maxRecDepth 20000 in
theorem lL_237 : q_LV RL 237 mX12_write 0 := ⟨okX12_write, (q_w 1986 (by decide +kernel) (by decide +kernel)), (q_w 1987 (by decide +kernel) (by decide +kernel)), (q_w 1988 (by decide +kernel) (by decide +kernel))⟩
set_option maxRecDepth 20000 in
theorem lX12_390 : q_LV RX12 390 mX12_writes 1 := ⟨okX12_writes, (q_w 1990 (by decide +kernel) (by decide +kernel)), (q_w 1992 (by decide +kernel) (by decide +kernel)), (q_w 89 (by decide +kernel) (by decide +kernel))⟩
set_option maxRecDepth 20000 in
theorem lX12_393 : q_LV RX12 393 mX12_writeNumber 2 := ⟨okX12_writeNumber, (q_w 1994 (by decide +kernel) (by decide +kernel)), (q_w 1996 (by decide +kernel) (by decide +kernel)), (q_w 90 (by decide +kernel) (by decide +kernel))⟩
set_option maxRecDepth 20000 in
theorem lL_241 : q_LV RL 241 mX12_octet 1 := ⟨okX12_octet, (q_w 1998 (by decide +kernel) (by decide +kernel)), (q_w 1999 (by decide +kernel) (by decide +kernel)), (q_w 2000 (by decide +kernel) (by decide +kernel))⟩
set_option maxRecDepth 20000 in
theorem a_int : Cond.arrayClass .int ∈ q_tb := (q_w 166 (by decide +kernel) (by decide +kernel))
set_option maxRecDepth 20000 in
theorem a_boolean : Cond.arrayClass .boolean ∈ q_tb := (q_w 167 (by decide +kernel) (by decide +kernel))
set_option maxRecDepth 20000 in
theorem a_long : Cond.arrayClass .long ∈ q_tb := (q_w 225 (by decide +kernel) (by decide +kernel))
set_option maxRecDepth 20000 in
theorem a_byte : Cond.arrayClass .byte ∈ q_tb := (q_w 789 (by decide +kernel) (by decide +kernel))
set_option maxRecDepth 20000 in
theorem o_inst : Cond.instanceMethod Lib.objectInit ∈ q_tb := (q_w 118 (by decide +kernel) (by decide +kernel))
set_option maxRecDepth 20000 in
theorem o_code : Cond.code Lib.objectInit ⟨#[0xb1]⟩ 1 none ∈ q_tb := (q_w 119 (by decide +kernel) (by decide +kernel))
