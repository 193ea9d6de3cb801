set_option maxRecDepth 20000 in
theorem kL_7 : Cond.classLink RL 7 RX11 ∈ q_tb := (qT1 21 rfl rfl)
set_option maxRecDepth 20000 in
theorem nL_7 : q_LN RL 7 11 12 := ⟨RX11, TX11, q_ClX11, kL_7, (qT1 22 rfl rfl), (qT1 1 rfl rfl), by decide +kernel⟩
set_option maxRecDepth 20000 in
theorem lL_9 : q_LI RL 9 mX11_init 0 := ⟨okX11_init, (qT1 23 rfl rfl), (qT1 24 rfl rfl), rfl, rfl⟩
set_option maxRecDepth 20000 in
theorem lX11_1 : Cond.methodLink RX11 1 Lib.objectInit ∈ q_tb := (qT1 26 rfl rfl)
set_option maxRecDepth 20000 in
theorem kX11_7 : Cond.classLink RX11 7 RX1 ∈ q_tb := (qT1 29 rfl rfl)
set_option maxRecDepth 20000 in
theorem nX11_7 : q_LN RX11 7 1 14 := ⟨RX1, TX1, q_ClX1, kX11_7, (qT1 30 rfl rfl), (qT1 2 rfl rfl), by decide +kernel⟩
set_option maxRecDepth 20000 in
theorem lX11_9 : q_LI RX11 9 mX1_init 0 := ⟨okX1_init, (qT1 31 rfl rfl), (qT1 32 rfl rfl), rfl, rfl⟩
set_option maxRecDepth 20000 in
theorem lX1_3 : Cond.methodLink RX1 3 Lib.objectInit ∈ q_tb := (qT1 34 rfl rfl)
set_option maxRecDepth 20000 in
theorem kX1_34 : Cond.classLink RX1 34 RX4 ∈ q_tb := (qT1 35 rfl rfl)
set_option maxRecDepth 20000 in
theorem nX1_34 : q_LN RX1 34 4 10 := ⟨RX4, TX4, q_ClX4, kX1_34, (qT1 136 rfl rfl), (qT1 6 rfl rfl), by decide +kernel⟩
set_option maxRecDepth 20000 in
theorem kX1_40 : Cond.classLink RX1 40 RX8 ∈ q_tb := (qT1 37 rfl rfl)
set_option maxRecDepth 20000 in
theorem nX1_40 : q_LN RX1 40 8 6 := ⟨RX8, TX8, q_ClX8, kX1_40, (qT1 38 rfl rfl), (qT1 3 rfl rfl), by decide +kernel⟩
set_option maxRecDepth 20000 in
theorem lX1_42 : q_LIN RX1 42 mX8_init 0 := ⟨okX8_init, (q_wn 130 (by decide +kernel)), (qT1 40 rfl rfl), rfl, rfl⟩
set_option maxRecDepth 20000 in
theorem lX8_3 : Cond.methodLink RX8 3 Lib.objectInit ∈ q_tb := (qT1 42 rfl rfl)
set_option maxRecDepth 20000 in
theorem fX8_28 : q_F RX8 28 8 0 6 false := ⟨RX8, TX8, q_ClX8, by decide, (qT1 43 rfl rfl), rfl⟩
set_option maxRecDepth 20000 in
theorem fX10_65 : q_F RX10 65 8 0 6 false := ⟨RX8, TX8, q_ClX8, by decide, (qT1 44 rfl rfl), rfl⟩
set_option maxRecDepth 20000 in
theorem fX1_212 : q_F RX1 212 8 0 6 false := ⟨RX8, TX8, q_ClX8, by decide, (qT1 45 rfl rfl), rfl⟩
set_option maxRecDepth 20000 in
theorem fX8_11 : q_F RX8 11 8 1 6 true := ⟨RX8, TX8, q_ClX8, by decide, (qT1 46 rfl rfl), rfl⟩
set_option maxRecDepth 20000 in
theorem fX10_68 : q_F RX10 68 8 1 6 true := ⟨RX8, TX8, q_ClX8, by decide, (qT1 47 rfl rfl), rfl⟩
set_option maxRecDepth 20000 in
theorem fX11_276 : q_F RX11 276 8 1 6 true := ⟨RX8, TX8, q_ClX8, by decide, (qT1 48 rfl rfl), rfl⟩
set_option maxRecDepth 20000 in
theorem fX1_213 : q_F RX1 213 8 1 6 true := ⟨RX8, TX8, q_ClX8, by decide, (qT1 49 rfl rfl), rfl⟩
set_option maxRecDepth 20000 in
theorem fX8_15 : q_F RX8 15 8 2 6 true := ⟨RX8, TX8, q_ClX8, by decide, (qT1 50 rfl rfl), rfl⟩
set_option maxRecDepth 20000 in
theorem fX10_73 : q_F RX10 73 8 2 6 true := ⟨RX8, TX8, q_ClX8, by decide, (qT1 51 rfl rfl), rfl⟩
set_option maxRecDepth 20000 in
theorem fX11_274 : q_F RX11 274 8 2 6 true := ⟨RX8, TX8, q_ClX8, by decide, (qT1 52 rfl rfl), rfl⟩
set_option maxRecDepth 20000 in
theorem fX1_216 : q_F RX1 216 8 2 6 true := ⟨RX8, TX8, q_ClX8, by decide, (qT1 53 rfl rfl), rfl⟩
set_option maxRecDepth 20000 in
theorem fX8_18 : q_F RX8 18 8 3 6 true := ⟨RX8, TX8, q_ClX8, by decide, (qT1 54 rfl rfl), rfl⟩
set_option maxRecDepth 20000 in
theorem fX10_75 : q_F RX10 75 8 3 6 true := ⟨RX8, TX8, q_ClX8, by decide, (qT1 55 rfl rfl), rfl⟩
set_option maxRecDepth 20000 in
theorem fX11_279 : q_F RX11 279 8 3 6 true := ⟨RX8, TX8, q_ClX8, by decide, (qT1 56 rfl rfl), rfl⟩
set_option maxRecDepth 20000 in
theorem fX8_21 : q_F RX8 21 8 4 6 true := ⟨RX8, TX8, q_ClX8, by decide, (qT1 57 rfl rfl), rfl⟩
set_option maxRecDepth 20000 in
theorem fX10_71 : q_F RX10 71 8 4 6 true := ⟨RX8, TX8, q_ClX8, by decide, (qT1 58 rfl rfl), rfl⟩
set_option maxRecDepth 20000 in
theorem fX11_430 : q_F RX11 430 8 4 6 true := ⟨RX8, TX8, q_ClX8, by decide, (qT1 59 rfl rfl), rfl⟩
set_option maxRecDepth 20000 in
theorem fX8_25 : q_F RX8 25 8 5 6 true := ⟨RX8, TX8, q_ClX8, by decide, (qT1 60 rfl rfl), rfl⟩
set_option maxRecDepth 20000 in
theorem fX11_270 : q_F RX11 270 8 5 6 true := ⟨RX8, TX8, q_ClX8, by decide, (qT1 61 rfl rfl), rfl⟩
set_option maxRecDepth 20000 in
theorem kX1_47 : Cond.classLink RX1 47 RX7 ∈ q_tb := (qT1 77 rfl rfl)
set_option maxRecDepth 20000 in
theorem nX1_47 : q_LN RX1 47 7 5 := ⟨RX7, TX7, q_ClX7, kX1_47, (qT1 78 rfl rfl), (qT1 4 rfl rfl), by decide +kernel⟩
set_option maxRecDepth 20000 in
theorem lX1_49 : q_LIN RX1 49 mX7_init 0 := ⟨okX7_init, (q_wn 170 (by decide +kernel)), (qT1 80 rfl rfl), rfl, rfl⟩
set_option maxRecDepth 20000 in
theorem lX7_3 : Cond.methodLink RX7 3 Lib.objectInit ∈ q_tb := (qT1 82 rfl rfl)
set_option maxRecDepth 20000 in
theorem fX7_24 : q_F RX7 24 7 0 5 false := ⟨RX7, TX7, q_ClX7, by decide, (qT1 83 rfl rfl), rfl⟩
set_option maxRecDepth 20000 in
theorem fX3_126 : q_F RX3 126 7 0 5 false := ⟨RX7, TX7, q_ClX7, by decide, (qT1 84 rfl rfl), rfl⟩
set_option maxRecDepth 20000 in
theorem fX7_11 : q_F RX7 11 7 1 5 true := ⟨RX7, TX7, q_ClX7, by decide, (qT1 85 rfl rfl), rfl⟩
set_option maxRecDepth 20000 in
theorem fX3_136 : q_F RX3 136 7 1 5 true := ⟨RX7, TX7, q_ClX7, by decide, (qT1 86 rfl rfl), rfl⟩
set_option maxRecDepth 20000 in
theorem fX11_412 : q_F RX11 412 7 1 5 true := ⟨RX7, TX7, q_ClX7, by decide, (qT1 87 rfl rfl), rfl⟩
set_option maxRecDepth 20000 in
theorem fX7_15 : q_F RX7 15 7 2 5 true := ⟨RX7, TX7, q_ClX7, by decide, (qT1 88 rfl rfl), rfl⟩
set_option maxRecDepth 20000 in
theorem fX1_127 : q_F RX1 127 7 2 5 true := ⟨RX7, TX7, q_ClX7, by decide, (qT1 89 rfl rfl), rfl⟩
set_option maxRecDepth 20000 in
theorem fX11_415 : q_F RX11 415 7 2 5 true := ⟨RX7, TX7, q_ClX7, by decide, (qT1 90 rfl rfl), rfl⟩
set_option maxRecDepth 20000 in
theorem fX7_18 : q_F RX7 18 7 3 5 true := ⟨RX7, TX7, q_ClX7, by decide, (qT1 91 rfl rfl), rfl⟩
set_option maxRecDepth 20000 in
theorem fX1_137 : q_F RX1 137 7 3 5 true := ⟨RX7, TX7, q_ClX7, by decide, (qT1 92 rfl rfl), rfl⟩
set_option maxRecDepth 20000 in
theorem fX11_417 : q_F RX11 417 7 3 5 true := ⟨RX7, TX7, q_ClX7, by decide, (qT1 93 rfl rfl), rfl⟩
set_option maxRecDepth 20000 in
theorem fX7_21 : q_F RX7 21 7 4 5 true := ⟨RX7, TX7, q_ClX7, by decide, (qT1 94 rfl rfl), rfl⟩
set_option maxRecDepth 20000 in
theorem fX1_144 : q_F RX1 144 7 4 5 true := ⟨RX7, TX7, q_ClX7, by decide, (qT1 95 rfl rfl), rfl⟩
set_option maxRecDepth 20000 in
theorem fX11_420 : q_F RX11 420 7 4 5 true := ⟨RX7, TX7, q_ClX7, by decide, (qT1 96 rfl rfl), rfl⟩
set_option maxRecDepth 20000 in
theorem kX1_54 : Cond.classLink RX1 54 RX5 ∈ q_tb := (qT1 108 rfl rfl)
set_option maxRecDepth 20000 in
theorem nX1_54 : q_LN RX1 54 5 6 := ⟨RX5, TX5, q_ClX5, kX1_54, (qT1 109 rfl rfl), (qT1 5 rfl rfl), by decide +kernel⟩
set_option maxRecDepth 20000 in
theorem lX1_56 : q_LIN RX1 56 mX5_init 0 := ⟨okX5_init, (q_wn 201 (by decide +kernel)), (qT1 111 rfl rfl), rfl, rfl⟩
set_option maxRecDepth 20000 in
theorem lX5_5 : Cond.methodLink RX5 5 Lib.objectInit ∈ q_tb := (qT1 113 rfl rfl)
set_option maxRecDepth 20000 in
theorem fX5_25 : q_F RX5 25 5 0 6 false := ⟨RX5, TX5, q_ClX5, by decide, (qT1 114 rfl rfl), rfl⟩
set_option maxRecDepth 20000 in
theorem fX11_306 : q_F RX11 306 5 0 6 false := ⟨RX5, TX5, q_ClX5, by decide, (qT1 115 rfl rfl), rfl⟩
set_option maxRecDepth 20000 in
theorem fX5_11 : q_F RX5 11 5 1 6 true := ⟨RX5, TX5, q_ClX5, by decide, (qT1 116 rfl rfl), rfl⟩
set_option maxRecDepth 20000 in
theorem fX5_15 : q_F RX5 15 5 2 6 true := ⟨RX5, TX5, q_ClX5, by decide, (qT1 117 rfl rfl), rfl⟩
set_option maxRecDepth 20000 in
theorem fX5_35 : q_F RX5 35 5 3 6 false := ⟨RX5, TX5, q_ClX5, by decide, (qT1 118 rfl rfl), rfl⟩
set_option maxRecDepth 20000 in
theorem fX5_18 : q_F RX5 18 5 4 6 true := ⟨RX5, TX5, q_ClX5, by decide, (qT1 119 rfl rfl), rfl⟩
set_option maxRecDepth 20000 in
theorem fX5_21 : q_F RX5 21 5 5 6 true := ⟨RX5, TX5, q_ClX5, by decide, (qT1 120 rfl rfl), rfl⟩
set_option maxRecDepth 20000 in
theorem kX1_61 : Cond.constant RX1 61 (zi (100000)) ∈ q_tb := (qT1 135 rfl rfl)
set_option maxRecDepth 20000 in
theorem lX1_62 : q_LIN RX1 62 mX4_init 0 := ⟨okX4_init, (q_wn 228 (by decide +kernel)), (qT1 138 rfl rfl), rfl, rfl⟩
set_option maxRecDepth 20000 in
theorem lX4_3 : Cond.methodLink RX4 3 Lib.objectInit ∈ q_tb := (qT1 140 rfl rfl)
set_option maxRecDepth 20000 in
theorem fX4_24 : q_F RX4 24 4 0 10 false := ⟨RX4, TX4, q_ClX4, by decide, (qT1 141 rfl rfl), rfl⟩
set_option maxRecDepth 20000 in
theorem fX1_106 : q_F RX1 106 4 0 10 false := ⟨RX4, TX4, q_ClX4, by decide, (qT1 142 rfl rfl), rfl⟩
set_option maxRecDepth 20000 in
theorem fX11_172 : q_F RX11 172 4 0 10 false := ⟨RX4, TX4, q_ClX4, by decide, (qT1 143 rfl rfl), rfl⟩
set_option maxRecDepth 20000 in
theorem fX4_28 : q_F RX4 28 4 1 10 false := ⟨RX4, TX4, q_ClX4, by decide, (qT1 144 rfl rfl), rfl⟩
set_option maxRecDepth 20000 in
theorem fX1_113 : q_F RX1 113 4 1 10 false := ⟨RX4, TX4, q_ClX4, by decide, (qT1 145 rfl rfl), rfl⟩
set_option maxRecDepth 20000 in
theorem fX11_177 : q_F RX11 177 4 1 10 false := ⟨RX4, TX4, q_ClX4, by decide, (qT1 146 rfl rfl), rfl⟩
set_option maxRecDepth 20000 in
theorem fX4_31 : q_F RX4 31 4 2 10 false := ⟨RX4, TX4, q_ClX4, by decide, (qT1 147 rfl rfl), rfl⟩
set_option maxRecDepth 20000 in
theorem fX1_116 : q_F RX1 116 4 2 10 false := ⟨RX4, TX4, q_ClX4, by decide, (qT1 148 rfl rfl), rfl⟩
set_option maxRecDepth 20000 in
theorem fX11_180 : q_F RX11 180 4 2 10 false := ⟨RX4, TX4, q_ClX4, by decide, (qT1 149 rfl rfl), rfl⟩
set_option maxRecDepth 20000 in
theorem fX4_34 : q_F RX4 34 4 3 10 false := ⟨RX4, TX4, q_ClX4, by decide, (qT1 150 rfl rfl), rfl⟩
set_option maxRecDepth 20000 in
theorem fX11_183 : q_F RX11 183 4 3 10 false := ⟨RX4, TX4, q_ClX4, by decide, (qT1 151 rfl rfl), rfl⟩
set_option maxRecDepth 20000 in
theorem fX4_37 : q_F RX4 37 4 4 10 false := ⟨RX4, TX4, q_ClX4, by decide, (qT1 152 rfl rfl), rfl⟩
set_option maxRecDepth 20000 in
theorem fX1_95 : q_F RX1 95 4 4 10 false := ⟨RX4, TX4, q_ClX4, by decide, (qT1 153 rfl rfl), rfl⟩
set_option maxRecDepth 20000 in
theorem fX11_186 : q_F RX11 186 4 4 10 false := ⟨RX4, TX4, q_ClX4, by decide, (qT1 154 rfl rfl), rfl⟩
set_option maxRecDepth 20000 in
theorem fX4_40 : q_F RX4 40 4 5 10 false := ⟨RX4, TX4, q_ClX4, by decide, (qT1 155 rfl rfl), rfl⟩
set_option maxRecDepth 20000 in
theorem fX1_184 : q_F RX1 184 4 5 10 false := ⟨RX4, TX4, q_ClX4, by decide, (qT1 156 rfl rfl), rfl⟩
set_option maxRecDepth 20000 in
theorem fX11_350 : q_F RX11 350 4 5 10 false := ⟨RX4, TX4, q_ClX4, by decide, (qT1 157 rfl rfl), rfl⟩
set_option maxRecDepth 20000 in
theorem fX4_11 : q_F RX4 11 4 6 10 true := ⟨RX4, TX4, q_ClX4, by decide, (qT1 158 rfl rfl), rfl⟩
set_option maxRecDepth 20000 in
theorem fX4_15 : q_F RX4 15 4 7 10 true := ⟨RX4, TX4, q_ClX4, by decide, (qT1 159 rfl rfl), rfl⟩
set_option maxRecDepth 20000 in
theorem fX4_18 : q_F RX4 18 4 8 10 true := ⟨RX4, TX4, q_ClX4, by decide, (qT1 160 rfl rfl), rfl⟩
set_option maxRecDepth 20000 in
theorem fX4_21 : q_F RX4 21 4 9 10 true := ⟨RX4, TX4, q_ClX4, by decide, (qT1 161 rfl rfl), rfl⟩
set_option maxRecDepth 20000 in
theorem fX1_63 : q_F RX1 63 1 0 14 false := ⟨RX1, TX1, q_ClX1, by decide, (qT1 183 rfl rfl), rfl⟩
set_option maxRecDepth 20000 in
theorem fX10_39 : q_F RX10 39 1 0 14 false := ⟨RX1, TX1, q_ClX1, by decide, (qT1 184 rfl rfl), rfl⟩
set_option maxRecDepth 20000 in
theorem fX3_68 : q_F RX3 68 1 0 14 false := ⟨RX1, TX1, q_ClX1, by decide, (qT1 185 rfl rfl), rfl⟩
set_option maxRecDepth 20000 in
theorem fX11_135 : q_F RX11 135 1 0 14 false := ⟨RX1, TX1, q_ClX1, by decide, (qT1 186 rfl rfl), rfl⟩
set_option maxRecDepth 20000 in
theorem fX9_97 : q_F RX9 97 1 0 14 false := ⟨RX1, TX1, q_ClX1, by decide, (qT1 187 rfl rfl), rfl⟩
set_option maxRecDepth 20000 in
theorem fX1_66 : q_F RX1 66 1 1 14 false := ⟨RX1, TX1, q_ClX1, by decide, (qT1 188 rfl rfl), rfl⟩
set_option maxRecDepth 20000 in
theorem fX3_52 : q_F RX3 52 1 1 14 false := ⟨RX1, TX1, q_ClX1, by decide, (qT1 189 rfl rfl), rfl⟩
set_option maxRecDepth 20000 in
theorem fX10_94 : q_F RX10 94 1 1 14 false := ⟨RX1, TX1, q_ClX1, by decide, (qT1 190 rfl rfl), rfl⟩
set_option maxRecDepth 20000 in
theorem fX11_138 : q_F RX11 138 1 1 14 false := ⟨RX1, TX1, q_ClX1, by decide, (qT1 191 rfl rfl), rfl⟩
set_option maxRecDepth 20000 in
theorem fX1_9 : q_F RX1 9 1 2 14 false := ⟨RX1, TX1, q_ClX1, by decide, (qT1 192 rfl rfl), rfl⟩
set_option maxRecDepth 20000 in
theorem fX11_141 : q_F RX11 141 1 2 14 false := ⟨RX1, TX1, q_ClX1, by decide, (qT1 193 rfl rfl), rfl⟩
set_option maxRecDepth 20000 in
theorem fX9_71 : q_F RX9 71 1 2 14 false := ⟨RX1, TX1, q_ClX1, by decide, (qT1 194 rfl rfl), rfl⟩
set_option maxRecDepth 20000 in
theorem fX1_15 : q_F RX1 15 1 3 14 false := ⟨RX1, TX1, q_ClX1, by decide, (qT1 195 rfl rfl), rfl⟩
set_option maxRecDepth 20000 in
theorem fX11_144 : q_F RX11 144 1 3 14 false := ⟨RX1, TX1, q_ClX1, by decide, (qT1 196 rfl rfl), rfl⟩
set_option maxRecDepth 20000 in
theorem fX9_74 : q_F RX9 74 1 3 14 false := ⟨RX1, TX1, q_ClX1, by decide, (qT1 197 rfl rfl), rfl⟩
set_option maxRecDepth 20000 in
theorem fX1_18 : q_F RX1 18 1 4 14 false := ⟨RX1, TX1, q_ClX1, by decide, (qT1 198 rfl rfl), rfl⟩
set_option maxRecDepth 20000 in
theorem fX11_147 : q_F RX11 147 1 4 14 false := ⟨RX1, TX1, q_ClX1, by decide, (qT1 199 rfl rfl), rfl⟩
set_option maxRecDepth 20000 in
theorem fX9_77 : q_F RX9 77 1 4 14 false := ⟨RX1, TX1, q_ClX1, by decide, (qT1 200 rfl rfl), rfl⟩
set_option maxRecDepth 20000 in
theorem fX1_21 : q_F RX1 21 1 5 14 false := ⟨RX1, TX1, q_ClX1, by decide, (qT1 201 rfl rfl), rfl⟩
set_option maxRecDepth 20000 in
theorem fX11_150 : q_F RX11 150 1 5 14 false := ⟨RX1, TX1, q_ClX1, by decide, (qT1 202 rfl rfl), rfl⟩
set_option maxRecDepth 20000 in
theorem fX9_80 : q_F RX9 80 1 5 14 false := ⟨RX1, TX1, q_ClX1, by decide, (qT1 203 rfl rfl), rfl⟩
set_option maxRecDepth 20000 in
theorem fX1_24 : q_F RX1 24 1 6 14 false := ⟨RX1, TX1, q_ClX1, by decide, (qT1 204 rfl rfl), rfl⟩
set_option maxRecDepth 20000 in
theorem fX11_115 : q_F RX11 115 1 6 14 false := ⟨RX1, TX1, q_ClX1, by decide, (qT1 205 rfl rfl), rfl⟩
set_option maxRecDepth 20000 in
theorem fX9_83 : q_F RX9 83 1 6 14 false := ⟨RX1, TX1, q_ClX1, by decide, (qT1 206 rfl rfl), rfl⟩
set_option maxRecDepth 20000 in
theorem fX1_27 : q_F RX1 27 1 7 14 true := ⟨RX1, TX1, q_ClX1, by decide, (qT1 207 rfl rfl), rfl⟩
set_option maxRecDepth 20000 in
theorem fX10_91 : q_F RX10 91 1 7 14 true := ⟨RX1, TX1, q_ClX1, by decide, (qT1 208 rfl rfl), rfl⟩
set_option maxRecDepth 20000 in
theorem fX11_161 : q_F RX11 161 1 7 14 true := ⟨RX1, TX1, q_ClX1, by decide, (qT1 209 rfl rfl), rfl⟩
set_option maxRecDepth 20000 in
theorem fX9_93 : q_F RX9 93 1 7 14 true := ⟨RX1, TX1, q_ClX1, by decide, (qT1 210 rfl rfl), rfl⟩
set_option maxRecDepth 20000 in
theorem fX1_31 : q_F RX1 31 1 8 14 true := ⟨RX1, TX1, q_ClX1, by decide, (qT1 211 rfl rfl), rfl⟩
set_option maxRecDepth 20000 in
theorem fX10_82 : q_F RX10 82 1 8 14 true := ⟨RX1, TX1, q_ClX1, by decide, (qT1 212 rfl rfl), rfl⟩
set_option maxRecDepth 20000 in
theorem fX11_165 : q_F RX11 165 1 8 14 true := ⟨RX1, TX1, q_ClX1, by decide, (qT1 213 rfl rfl), rfl⟩
set_option maxRecDepth 20000 in
theorem fX1_36 : q_F RX1 36 1 9 14 true := ⟨RX1, TX1, q_ClX1, by decide, (qT1 214 rfl rfl), rfl⟩
set_option maxRecDepth 20000 in
theorem fX10_35 : q_F RX10 35 1 9 14 true := ⟨RX1, TX1, q_ClX1, by decide, (qT1 215 rfl rfl), rfl⟩
set_option maxRecDepth 20000 in
theorem fX11_407 : q_F RX11 407 1 9 14 true := ⟨RX1, TX1, q_ClX1, by decide, (qT1 216 rfl rfl), rfl⟩
set_option maxRecDepth 20000 in
theorem fX10_32 : q_F RX10 32 1 10 14 false := ⟨RX1, TX1, q_ClX1, by decide, (qT1 217 rfl rfl), rfl⟩
set_option maxRecDepth 20000 in
theorem fX3_45 : q_F RX3 45 1 10 14 false := ⟨RX1, TX1, q_ClX1, by decide, (qT1 218 rfl rfl), rfl⟩
set_option maxRecDepth 20000 in
theorem fX1_75 : q_F RX1 75 1 10 14 false := ⟨RX1, TX1, q_ClX1, by decide, (qT1 219 rfl rfl), rfl⟩
set_option maxRecDepth 20000 in
theorem fX11_153 : q_F RX11 153 1 10 14 false := ⟨RX1, TX1, q_ClX1, by decide, (qT1 220 rfl rfl), rfl⟩
set_option maxRecDepth 20000 in
theorem fX9_59 : q_F RX9 59 1 10 14 false := ⟨RX1, TX1, q_ClX1, by decide, (qT1 221 rfl rfl), rfl⟩
set_option maxRecDepth 20000 in
theorem fX1_43 : q_F RX1 43 1 11 14 true := ⟨RX1, TX1, q_ClX1, by decide, (qT1 222 rfl rfl), rfl⟩
set_option maxRecDepth 20000 in
theorem fX10_54 : q_F RX10 54 1 11 14 true := ⟨RX1, TX1, q_ClX1, by decide, (qT1 223 rfl rfl), rfl⟩
set_option maxRecDepth 20000 in
theorem fX11_254 : q_F RX11 254 1 11 14 true := ⟨RX1, TX1, q_ClX1, by decide, (qT1 224 rfl rfl), rfl⟩
set_option maxRecDepth 20000 in
theorem fX1_50 : q_F RX1 50 1 12 14 true := ⟨RX1, TX1, q_ClX1, by decide, (qT1 225 rfl rfl), rfl⟩
set_option maxRecDepth 20000 in
theorem fX11_111 : q_F RX11 111 1 12 14 true := ⟨RX1, TX1, q_ClX1, by decide, (qT1 226 rfl rfl), rfl⟩
set_option maxRecDepth 20000 in
theorem fX1_57 : q_F RX1 57 1 13 14 true := ⟨RX1, TX1, q_ClX1, by decide, (qT1 227 rfl rfl), rfl⟩
set_option maxRecDepth 20000 in
theorem fX11_101 : q_F RX11 101 1 13 14 true := ⟨RX1, TX1, q_ClX1, by decide, (qT1 228 rfl rfl), rfl⟩
set_option maxRecDepth 20000 in
theorem kX11_23 : Cond.classLink RX11 23 RX6 ∈ q_tb := (qT2 19 rfl rfl)
set_option maxRecDepth 20000 in
theorem nX11_23 : q_LN RX11 23 6 3 := ⟨RX6, TX6, q_ClX6, kX11_23, (qT2 20 rfl rfl), (qT1 7 rfl rfl), by decide +kernel⟩
set_option maxRecDepth 20000 in
theorem lX11_25 : q_LIN RX11 25 mX6_init 0 := ⟨okX6_init, (q_wn 352 (by decide +kernel)), (qT2 22 rfl rfl), rfl, rfl⟩
set_option maxRecDepth 20000 in
theorem lX6_1 : Cond.methodLink RX6 1 Lib.objectInit ∈ q_tb := (qT2 24 rfl rfl)
set_option maxRecDepth 20000 in
theorem kX6_9 : Cond.classLink RX6 9 RX1 ∈ q_tb := (qT2 25 rfl rfl)
set_option maxRecDepth 20000 in
theorem nX6_9 : q_LN RX6 9 1 14 := ⟨RX1, TX1, q_ClX1, kX6_9, (qT1 30 rfl rfl), (qT1 2 rfl rfl), by decide +kernel⟩
set_option maxRecDepth 20000 in
theorem fX6_11 : q_F RX6 11 6 0 3 true := ⟨RX6, TX6, q_ClX6, by decide, (qT2 26 rfl rfl), rfl⟩
set_option maxRecDepth 20000 in
theorem fX6_15 : q_F RX6 15 6 1 3 false := ⟨RX6, TX6, q_ClX6, by decide, (qT2 27 rfl rfl), rfl⟩
set_option maxRecDepth 20000 in
theorem fX6_24 : q_F RX6 24 6 2 3 false := ⟨RX6, TX6, q_ClX6, by decide, (qT2 28 rfl rfl), rfl⟩
set_option maxRecDepth 20000 in
theorem fX11_157 : q_F RX11 157 6 2 3 false := ⟨RX6, TX6, q_ClX6, by decide, (qT2 29 rfl rfl), rfl⟩
set_option maxRecDepth 20000 in
theorem kX11_30 : Cond.classLink RX11 30 RX9 ∈ q_tb := (qT2 37 rfl rfl)
set_option maxRecDepth 20000 in
theorem nX11_30 : q_LN RX11 30 9 3 := ⟨RX9, TX9, q_ClX9, kX11_30, (qT2 38 rfl rfl), (qT1 8 rfl rfl), by decide +kernel⟩
set_option maxRecDepth 20000 in
theorem lX11_32 : q_LIN RX11 32 mX9_init 0 := ⟨okX9_init, (q_wn 370 (by decide +kernel)), (qT2 40 rfl rfl), rfl, rfl⟩
set_option maxRecDepth 20000 in
theorem lX9_3 : Cond.methodLink RX9 3 Lib.objectInit ∈ q_tb := (qT2 42 rfl rfl)
set_option maxRecDepth 20000 in
theorem kX9_9 : Cond.classLink RX9 9 RX2 ∈ q_tb := (qT2 43 rfl rfl)
set_option maxRecDepth 20000 in
theorem nX9_9 : q_LN RX9 9 2 2 := ⟨RX2, TX2, q_ClX2, kX9_9, (qT2 44 rfl rfl), (qT1 9 rfl rfl), by decide +kernel⟩
set_option maxRecDepth 20000 in
theorem lX9_11 : q_LI RX9 11 mX2_init 1 := ⟨okX2_init, (qT2 45 rfl rfl), (qT2 46 rfl rfl), rfl, rfl⟩
set_option maxRecDepth 20000 in
theorem lX2_3 : Cond.methodLink RX2 3 Lib.objectInit ∈ q_tb := (qT2 48 rfl rfl)
set_option maxRecDepth 20000 in
theorem lX2_9 : q_LS RX2 9 mJ9_max_7cf53 2 := ⟨okJ9_max_7cf53, (qT2 49 rfl rfl), (qT2 50 rfl rfl)⟩
set_option maxRecDepth 20000 in
theorem fX2_15 : q_F RX2 15 2 0 2 true := ⟨RX2, TX2, q_ClX2, by decide, (qT2 52 rfl rfl), rfl⟩
set_option maxRecDepth 20000 in
theorem fX2_21 : q_F RX2 21 2 1 2 false := ⟨RX2, TX2, q_ClX2, by decide, (qT2 53 rfl rfl), rfl⟩
set_option maxRecDepth 20000 in
theorem fX11_80 : q_F RX11 80 2 1 2 false := ⟨RX2, TX2, q_ClX2, by decide, (qT2 54 rfl rfl), rfl⟩
set_option maxRecDepth 20000 in
theorem fX9_27 : q_F RX9 27 2 1 2 false := ⟨RX2, TX2, q_ClX2, by decide, (qT2 55 rfl rfl), rfl⟩
set_option maxRecDepth 20000 in
theorem fX9_14 : q_F RX9 14 9 0 3 true := ⟨RX9, TX9, q_ClX9, by decide, (qT2 61 rfl rfl), rfl⟩
set_option maxRecDepth 20000 in
theorem fX11_77 : q_F RX11 77 9 0 3 true := ⟨RX9, TX9, q_ClX9, by decide, (qT2 62 rfl rfl), rfl⟩
set_option maxRecDepth 20000 in
theorem fX9_24 : q_F RX9 24 9 1 3 false := ⟨RX9, TX9, q_ClX9, by decide, (qT2 63 rfl rfl), rfl⟩
set_option maxRecDepth 20000 in
theorem fX0_39 : q_F RX0 39 9 1 3 false := ⟨RX9, TX9, q_ClX9, by decide, (qT2 64 rfl rfl), rfl⟩
set_option maxRecDepth 20000 in
theorem fX5_48 : q_F RX5 48 9 1 3 false := ⟨RX9, TX9, q_ClX9, by decide, (qT2 65 rfl rfl), rfl⟩
set_option maxRecDepth 20000 in
theorem fX7_62 : q_F RX7 62 9 1 3 false := ⟨RX9, TX9, q_ClX9, by decide, (qT2 66 rfl rfl), rfl⟩
set_option maxRecDepth 20000 in
theorem fX9_20 : q_F RX9 20 9 2 3 false := ⟨RX9, TX9, q_ClX9, by decide, (qT2 67 rfl rfl), rfl⟩
set_option maxRecDepth 20000 in
theorem kX11_37 : Cond.classLink RX11 37 RX2 ∈ q_tb := (qT2 75 rfl rfl)
set_option maxRecDepth 20000 in
theorem nX11_37 : q_LN RX11 37 2 2 := ⟨RX2, TX2, q_ClX2, kX11_37, (qT2 44 rfl rfl), (qT1 9 rfl rfl), by decide +kernel⟩
set_option maxRecDepth 20000 in
theorem lX11_39 : q_LI RX11 39 mX2_init 1 := ⟨okX2_init, (qT2 76 rfl rfl), (qT2 46 rfl rfl), rfl, rfl⟩
set_option maxRecDepth 20000 in
theorem kX11_46 : Cond.classLink RX11 46 RX0 ∈ q_tb := (qT2 77 rfl rfl)
set_option maxRecDepth 20000 in
theorem nX11_46 : q_LN RX11 46 0 4 := ⟨RX0, TX0, q_ClX0, kX11_46, (qT2 78 rfl rfl), (qT1 11 rfl rfl), by decide +kernel⟩
set_option maxRecDepth 20000 in
theorem lX11_48 : q_LIN RX11 48 mX0_init 0 := ⟨okX0_init, (q_wn 410 (by decide +kernel)), (qT2 80 rfl rfl), rfl, rfl⟩
set_option maxRecDepth 20000 in
theorem lX0_3 : Cond.methodLink RX0 3 Lib.objectInit ∈ q_tb := (qT2 82 rfl rfl)
set_option maxRecDepth 20000 in
theorem fX0_21 : q_F RX0 21 0 0 4 false := ⟨RX0, TX0, q_ClX0, by decide, (qT2 83 rfl rfl), rfl⟩
set_option maxRecDepth 20000 in
theorem fX11_130 : q_F RX11 130 0 0 4 false := ⟨RX0, TX0, q_ClX0, by decide, (qT2 84 rfl rfl), rfl⟩
set_option maxRecDepth 20000 in
theorem fX0_11 : q_F RX0 11 0 1 4 true := ⟨RX0, TX0, q_ClX0, by decide, (qT2 85 rfl rfl), rfl⟩
set_option maxRecDepth 20000 in
theorem fX11_449 : q_F RX11 449 0 1 4 true := ⟨RX0, TX0, q_ClX0, by decide, (qT2 86 rfl rfl), rfl⟩
set_option maxRecDepth 20000 in
theorem fX0_15 : q_F RX0 15 0 2 4 true := ⟨RX0, TX0, q_ClX0, by decide, (qT2 87 rfl rfl), rfl⟩
set_option maxRecDepth 20000 in
theorem fX11_447 : q_F RX11 447 0 2 4 true := ⟨RX0, TX0, q_ClX0, by decide, (qT2 88 rfl rfl), rfl⟩
set_option maxRecDepth 20000 in
theorem fX0_18 : q_F RX0 18 0 3 4 true := ⟨RX0, TX0, q_ClX0, by decide, (qT2 89 rfl rfl), rfl⟩
set_option maxRecDepth 20000 in
theorem fX11_452 : q_F RX11 452 0 3 4 true := ⟨RX0, TX0, q_ClX0, by decide, (qT2 90 rfl rfl), rfl⟩
set_option maxRecDepth 20000 in
theorem kX11_53 : Cond.classLink RX11 53 RX10 ∈ q_tb := (qT2 100 rfl rfl)
set_option maxRecDepth 20000 in
theorem nX11_53 : q_LN RX11 53 10 6 := ⟨RX10, TX10, q_ClX10, kX11_53, (qT2 101 rfl rfl), (qT1 12 rfl rfl), by decide +kernel⟩
set_option maxRecDepth 20000 in
theorem lX11_55 : q_LIN RX11 55 mX10_init 0 := ⟨okX10_init, (q_wn 433 (by decide +kernel)), (qT2 103 rfl rfl), rfl, rfl⟩
set_option maxRecDepth 20000 in
theorem lX10_3 : Cond.methodLink RX10 3 Lib.objectInit ∈ q_tb := (qT2 105 rfl rfl)
set_option maxRecDepth 20000 in
theorem fX10_9 : q_F RX10 9 10 0 6 true := ⟨RX10, TX10, q_ClX10, by decide, (qT2 106 rfl rfl), rfl⟩
set_option maxRecDepth 20000 in
theorem fX3_61 : q_F RX3 61 10 0 6 true := ⟨RX10, TX10, q_ClX10, by decide, (qT2 107 rfl rfl), rfl⟩
set_option maxRecDepth 20000 in
theorem fX11_395 : q_F RX11 395 10 0 6 true := ⟨RX10, TX10, q_ClX10, by decide, (qT2 108 rfl rfl), rfl⟩
set_option maxRecDepth 20000 in
theorem fX10_15 : q_F RX10 15 10 1 6 true := ⟨RX10, TX10, q_ClX10, by decide, (qT2 109 rfl rfl), rfl⟩
set_option maxRecDepth 20000 in
theorem fX3_64 : q_F RX3 64 10 1 6 true := ⟨RX10, TX10, q_ClX10, by decide, (qT2 110 rfl rfl), rfl⟩
set_option maxRecDepth 20000 in
theorem fX10_18 : q_F RX10 18 10 2 6 true := ⟨RX10, TX10, q_ClX10, by decide, (qT2 111 rfl rfl), rfl⟩
set_option maxRecDepth 20000 in
theorem fX10_21 : q_F RX10 21 10 3 6 true := ⟨RX10, TX10, q_ClX10, by decide, (qT2 112 rfl rfl), rfl⟩
set_option maxRecDepth 20000 in
theorem fX3_97 : q_F RX3 97 10 3 6 true := ⟨RX10, TX10, q_ClX10, by decide, (qT2 113 rfl rfl), rfl⟩
set_option maxRecDepth 20000 in
theorem fX10_25 : q_F RX10 25 10 4 6 true := ⟨RX10, TX10, q_ClX10, by decide, (qT2 114 rfl rfl), rfl⟩
set_option maxRecDepth 20000 in
theorem fX11_377 : q_F RX11 377 10 4 6 true := ⟨RX10, TX10, q_ClX10, by decide, (qT2 115 rfl rfl), rfl⟩
set_option maxRecDepth 20000 in
theorem fX10_28 : q_F RX10 28 10 5 6 false := ⟨RX10, TX10, q_ClX10, by decide, (qT2 116 rfl rfl), rfl⟩
set_option maxRecDepth 20000 in
theorem fX11_376 : q_F RX11 376 10 5 6 false := ⟨RX10, TX10, q_ClX10, by decide, (qT2 117 rfl rfl), rfl⟩
set_option maxRecDepth 20000 in
theorem kX11_60 : Cond.classLink RX11 60 RX3 ∈ q_tb := (qT2 131 rfl rfl)
set_option maxRecDepth 20000 in
theorem nX11_60 : q_LN RX11 60 3 13 := ⟨RX3, TX3, q_ClX3, kX11_60, (qT2 132 rfl rfl), (qT1 13 rfl rfl), by decide +kernel⟩
set_option maxRecDepth 20000 in
theorem lX11_62 : q_LIN RX11 62 mX3_init 0 := ⟨okX3_init, (q_wn 464 (by decide +kernel)), (qT2 134 rfl rfl), rfl, rfl⟩
set_option maxRecDepth 20000 in
theorem lX3_1 : Cond.methodLink RX3 1 Lib.objectInit ∈ q_tb := (qT2 136 rfl rfl)
set_option maxRecDepth 20000 in
theorem fX3_9 : q_F RX3 9 3 0 13 true := ⟨RX3, TX3, q_ClX3, by decide, (qT2 137 rfl rfl), rfl⟩
set_option maxRecDepth 20000 in
theorem fX3_13 : q_F RX3 13 3 1 13 true := ⟨RX3, TX3, q_ClX3, by decide, (qT2 138 rfl rfl), rfl⟩
set_option maxRecDepth 20000 in
theorem fX3_16 : q_F RX3 16 3 2 13 true := ⟨RX3, TX3, q_ClX3, by decide, (qT2 139 rfl rfl), rfl⟩
set_option maxRecDepth 20000 in
theorem fX3_19 : q_F RX3 19 3 3 13 true := ⟨RX3, TX3, q_ClX3, by decide, (qT2 140 rfl rfl), rfl⟩
set_option maxRecDepth 20000 in
theorem fX3_22 : q_F RX3 22 3 4 13 true := ⟨RX3, TX3, q_ClX3, by decide, (qT2 141 rfl rfl), rfl⟩
set_option maxRecDepth 20000 in
theorem fX3_25 : q_F RX3 25 3 5 13 true := ⟨RX3, TX3, q_ClX3, by decide, (qT2 142 rfl rfl), rfl⟩
set_option maxRecDepth 20000 in
theorem fX3_28 : q_F RX3 28 3 6 13 true := ⟨RX3, TX3, q_ClX3, by decide, (qT2 143 rfl rfl), rfl⟩
set_option maxRecDepth 20000 in
theorem fX3_41 : q_F RX3 41 3 7 13 false := ⟨RX3, TX3, q_ClX3, by decide, (qT2 144 rfl rfl), rfl⟩
set_option maxRecDepth 20000 in
theorem fX3_37 : q_F RX3 37 3 8 13 false := ⟨RX3, TX3, q_ClX3, by decide, (qT2 145 rfl rfl), rfl⟩
set_option maxRecDepth 20000 in
theorem fX11_327 : q_F RX11 327 3 8 13 false := ⟨RX3, TX3, q_ClX3, by decide, (qT2 146 rfl rfl), rfl⟩
set_option maxRecDepth 20000 in
theorem fX3_85 : q_F RX3 85 3 9 13 false := ⟨RX3, TX3, q_ClX3, by decide, (qT2 147 rfl rfl), rfl⟩
set_option maxRecDepth 20000 in
theorem fX11_331 : q_F RX11 331 3 9 13 false := ⟨RX3, TX3, q_ClX3, by decide, (qT2 148 rfl rfl), rfl⟩
set_option maxRecDepth 20000 in
theorem fX3_123 : q_F RX3 123 3 10 13 false := ⟨RX3, TX3, q_ClX3, by decide, (qT2 149 rfl rfl), rfl⟩
set_option maxRecDepth 20000 in
theorem fX11_428 : q_F RX11 428 3 10 13 false := ⟨RX3, TX3, q_ClX3, by decide, (qT2 150 rfl rfl), rfl⟩
set_option maxRecDepth 20000 in
theorem fX3_94 : q_F RX3 94 3 11 13 false := ⟨RX3, TX3, q_ClX3, by decide, (qT2 151 rfl rfl), rfl⟩
set_option maxRecDepth 20000 in
theorem fX11_334 : q_F RX11 334 3 11 13 false := ⟨RX3, TX3, q_ClX3, by decide, (qT2 152 rfl rfl), rfl⟩
set_option maxRecDepth 20000 in
theorem fX3_113 : q_F RX3 113 3 12 13 false := ⟨RX3, TX3, q_ClX3, by decide, (qT2 153 rfl rfl), rfl⟩
set_option maxRecDepth 20000 in
theorem fX11_383 : q_F RX11 383 3 12 13 false := ⟨RX3, TX3, q_ClX3, by decide, (qT2 154 rfl rfl), rfl⟩
set_option maxRecDepth 20000 in
theorem fX11_10 : q_F RX11 10 11 0 12 false := ⟨RX11, TX11, q_ClX11, by decide, (qT2 182 rfl rfl), rfl⟩
set_option maxRecDepth 20000 in
theorem fX11_16 : q_F RX11 16 11 1 12 false := ⟨RX11, TX11, q_ClX11, by decide, (qT2 183 rfl rfl), rfl⟩
set_option maxRecDepth 20000 in
theorem fX11_19 : q_F RX11 19 11 2 12 true := ⟨RX11, TX11, q_ClX11, by decide, (qT2 184 rfl rfl), rfl⟩
set_option maxRecDepth 20000 in
theorem fX11_26 : q_F RX11 26 11 3 12 true := ⟨RX11, TX11, q_ClX11, by decide, (qT2 185 rfl rfl), rfl⟩
set_option maxRecDepth 20000 in
theorem fX11_33 : q_F RX11 33 11 4 12 true := ⟨RX11, TX11, q_ClX11, by decide, (qT2 186 rfl rfl), rfl⟩
set_option maxRecDepth 20000 in
theorem fX11_42 : q_F RX11 42 11 5 12 true := ⟨RX11, TX11, q_ClX11, by decide, (qT2 187 rfl rfl), rfl⟩
set_option maxRecDepth 20000 in
theorem fX11_49 : q_F RX11 49 11 6 12 true := ⟨RX11, TX11, q_ClX11, by decide, (qT2 188 rfl rfl), rfl⟩
set_option maxRecDepth 20000 in
theorem fX11_56 : q_F RX11 56 11 7 12 true := ⟨RX11, TX11, q_ClX11, by decide, (qT2 189 rfl rfl), rfl⟩
set_option maxRecDepth 20000 in
theorem fX11_63 : q_F RX11 63 11 8 12 true := ⟨RX11, TX11, q_ClX11, by decide, (qT2 190 rfl rfl), rfl⟩
set_option maxRecDepth 20000 in
theorem fX11_67 : q_F RX11 67 11 9 12 false := ⟨RX11, TX11, q_ClX11, by decide, (qT2 191 rfl rfl), rfl⟩
set_option maxRecDepth 20000 in
theorem fX11_71 : q_F RX11 71 11 10 12 false := ⟨RX11, TX11, q_ClX11, by decide, (qT2 192 rfl rfl), rfl⟩
set_option maxRecDepth 20000 in
theorem fX11_74 : q_F RX11 74 11 11 12 false := ⟨RX11, TX11, q_ClX11, by decide, (qT2 193 rfl rfl), rfl⟩
set_option maxRecDepth 20000 in
theorem lL_13 : q_LV RL 13 mX11_feed 5 := ⟨okX11_feed, (qT2 219 rfl rfl), (qT2 220 rfl rfl), (qT2 221 rfl rfl)⟩
set_option maxRecDepth 20000 in
theorem lX11_83 : q_LV RX11 83 mX2_addWord 1 := ⟨okX2_addWord, (qT2 223 rfl rfl), (qT2 224 rfl rfl), (qT2 225 rfl rfl)⟩
set_option maxRecDepth 20000 in
theorem lX2_25 : q_LV RX2 25 mX2_add 1 := ⟨okX2_add, (qT2 227 rfl rfl), (qT2 228 rfl rfl), (qT2 229 rfl rfl)⟩
set_option maxRecDepth 20000 in
theorem lL_18 : q_LV RL 18 mX11_end 1 := ⟨okX11_end, (qT2 231 rfl rfl), (qT2 232 rfl rfl), (qT2 233 rfl rfl)⟩
set_option maxRecDepth 20000 in
theorem lL_23 : q_LV RL 23 mX11_text 0 := ⟨okX11_text, (qT2 235 rfl rfl), (qT2 236 rfl rfl), (qT2 237 rfl rfl)⟩
set_option maxRecDepth 20000 in
theorem lX11_86 : q_LV RX11 86 mX1_copyFrom 1 := ⟨okX1_copyFrom, (qT2 239 rfl rfl), (qT3 0 rfl rfl), (qT3 1 rfl rfl)⟩
set_option maxRecDepth 20000 in
theorem lX1_69 : Cond.methodLink RX1 69 arraycopyName ∈ q_tb := (qT3 3 rfl rfl)
set_option maxRecDepth 20000 in
theorem lX1_78 : q_LV RX1 78 mX4_copyFrom 1 := ⟨okX4_copyFrom, (qT3 6 rfl rfl), (qT3 7 rfl rfl), (qT3 8 rfl rfl)⟩
set_option maxRecDepth 20000 in
theorem lX4_43 : Cond.methodLink RX4 43 arraycopyName ∈ q_tb := (qT3 10 rfl rfl)
set_option maxRecDepth 20000 in
theorem lX1_82 : q_LV RX1 82 mX8_copyFrom 1 := ⟨okX8_copyFrom, (qT3 11 rfl rfl), (qT3 12 rfl rfl), (qT3 13 rfl rfl)⟩
set_option maxRecDepth 20000 in
theorem lX8_32 : Cond.methodLink RX8 32 arraycopyName ∈ q_tb := (qT3 15 rfl rfl)
set_option maxRecDepth 20000 in
theorem lX1_85 : q_LV RX1 85 mX7_copyFrom 1 := ⟨okX7_copyFrom, (qT3 16 rfl rfl), (qT3 17 rfl rfl), (qT3 18 rfl rfl)⟩
set_option maxRecDepth 20000 in
theorem lX7_28 : Cond.methodLink RX7 28 arraycopyName ∈ q_tb := (qT3 20 rfl rfl)
set_option maxRecDepth 20000 in
theorem lX1_88 : q_LV RX1 88 mX5_copyFrom 1 := ⟨okX5_copyFrom, (qT3 21 rfl rfl), (qT3 22 rfl rfl), (qT3 23 rfl rfl)⟩
set_option maxRecDepth 20000 in
theorem lX5_29 : Cond.methodLink RX5 29 arraycopyName ∈ q_tb := (qT3 25 rfl rfl)
set_option maxRecDepth 20000 in
theorem lX11_90 : q_LV RX11 90 mX9_begin 0 := ⟨okX9_begin, (qT3 26 rfl rfl), (qT3 27 rfl rfl), (qT3 28 rfl rfl)⟩
set_option maxRecDepth 20000 in
theorem lX11_93 : q_LV RX11 93 mX9_readItems 1 := ⟨okX9_readItems, (qT3 30 rfl rfl), (qT3 31 rfl rfl), (qT3 32 rfl rfl)⟩
set_option maxRecDepth 20000 in
theorem lX9_51 : q_LV RX9 51 mX9_hasMore 0 := ⟨okX9_hasMore, (qT3 34 rfl rfl), (qT3 35 rfl rfl), (qT3 36 rfl rfl)⟩
set_option maxRecDepth 20000 in
theorem lX9_55 : q_LV RX9 55 mX9_readItem 1 := ⟨okX9_readItem, (qT3 38 rfl rfl), (qT3 40 rfl rfl), (q_w 0 (by decide +kernel) (by decide +kernel))⟩
set_option maxRecDepth 20000 in
theorem lX9_33 : q_LV RX9 33 mX9_peek 0 := ⟨okX9_peek, (qT3 42 rfl rfl), (qT3 43 rfl rfl), (qT3 44 rfl rfl)⟩
set_option maxRecDepth 20000 in
theorem lX9_30 : q_LV RX9 30 mX2_at 1 := ⟨okX2_at, (qT3 46 rfl rfl), (qT3 47 rfl rfl), (qT3 48 rfl rfl)⟩
set_option maxRecDepth 20000 in
theorem lX9_41 : q_LV RX9 41 mX9_fail 1 := ⟨okX9_fail, (qT3 50 rfl rfl), (qT3 51 rfl rfl), (qT3 52 rfl rfl)⟩
set_option maxRecDepth 20000 in
theorem lX9_62 : q_LV RX9 62 mX9_skip 0 := ⟨okX9_skip, (qT3 54 rfl rfl), (qT3 55 rfl rfl), (qT3 56 rfl rfl)⟩
set_option maxRecDepth 20000 in
theorem lX9_65 : q_LV RX9 65 mX9_readLimit 1 := ⟨okX9_readLimit, (qT3 58 rfl rfl), (qT3 60 rfl rfl), (q_w 1 (by decide +kernel) (by decide +kernel))⟩
set_option maxRecDepth 20000 in
theorem lX9_68 : q_LV RX9 68 mX9_numberAndComma 2 := ⟨okX9_numberAndComma, (qT3 62 rfl rfl), (qT3 63 rfl rfl), (qT3 64 rfl rfl)⟩
set_option maxRecDepth 20000 in
theorem lX9_44 : q_LV RX9 44 mX9_number 2 := ⟨okX9_number, (qT3 66 rfl rfl), (qT3 67 rfl rfl), (qT3 68 rfl rfl)⟩
set_option maxRecDepth 20000 in
theorem lX9_37 : q_LS RX9 37 mX9_isDigit 1 := ⟨okX9_isDigit, (qT3 70 rfl rfl), (qT3 71 rfl rfl)⟩
set_option maxRecDepth 20000 in
theorem lX9_48 : q_LV RX9 48 mX9_expect 1 := ⟨okX9_expect, (qT3 73 rfl rfl), (qT3 74 rfl rfl), (qT3 75 rfl rfl)⟩
set_option maxRecDepth 20000 in
theorem kX9_89 : Cond.constant RX9 89 (zi (999999)) ∈ q_tb := (qT3 77 rfl rfl)
set_option maxRecDepth 20000 in
theorem lX9_90 : q_LSN RX9 90 mX11_isYear 1 := ⟨okX11_isYear, (q_wn 649 (by decide +kernel)), (qT3 79 rfl rfl)⟩
set_option maxRecDepth 20000 in
theorem lX9_86 : q_LV RX9 86 mX9_readContract 1 := ⟨okX9_readContract, (qT3 81 rfl rfl), (qT3 83 rfl rfl), (q_w 2 (by decide +kernel) (by decide +kernel))⟩
set_option maxRecDepth 20000 in
theorem lX9_100 : q_LS RX9 100 mJ9_min_7cf53 2 := ⟨okJ9_min_7cf53, (qT3 85 rfl rfl), (qT3 86 rfl rfl)⟩
set_option maxRecDepth 20000 in
theorem kX9_105 : Cond.constant RX9 105 (zi (99999)) ∈ q_tb := (qT3 88 rfl rfl)
set_option maxRecDepth 20000 in
theorem lX9_106 : q_LV RX9 106 mX1_addContract 0 := ⟨okX1_addContract, (qT3 89 rfl rfl), (qT3 90 rfl rfl), (qT3 91 rfl rfl)⟩
set_option maxRecDepth 20000 in
theorem lX9_110 : q_LV RX9 110 mX4_start 4 := ⟨okX4_start, (qT3 93 rfl rfl), (qT3 94 rfl rfl), (qT3 95 rfl rfl)⟩
set_option maxRecDepth 20000 in
theorem lX9_116 : q_LV RX9 116 mX4_spread 2 := ⟨okX4_spread, (qT3 97 rfl rfl), (qT3 98 rfl rfl), (qT3 99 rfl rfl)⟩
set_option maxRecDepth 20000 in
theorem lX4_88 : q_LV RX4 88 mX4_partOf 3 := ⟨okX4_partOf, (qT3 101 rfl rfl), (qT3 102 rfl rfl), (qT3 103 rfl rfl)⟩
set_option maxRecDepth 20000 in
theorem lX4_77 : q_LV RX4 77 mX4_lastYear 0 := ⟨okX4_lastYear, (qT3 105 rfl rfl), (qT3 106 rfl rfl), (qT3 107 rfl rfl)⟩
set_option maxRecDepth 20000 in
theorem lX4_81 : q_LS RX4 81 mX4_partOfMany 3 := ⟨okX4_partOfMany, (qT3 109 rfl rfl), (qT3 110 rfl rfl)⟩
set_option maxRecDepth 20000 in
theorem lX4_85 : q_LS RX4 85 mJ9_min_7cf53 2 := ⟨okJ9_min_7cf53, (qT3 112 rfl rfl), (qT3 86 rfl rfl)⟩
set_option maxRecDepth 20000 in
theorem lX9_120 : q_LV RX9 120 mX4_putPay 3 := ⟨okX4_putPay, (qT3 113 rfl rfl), (qT3 114 rfl rfl), (qT3 115 rfl rfl)⟩
set_option maxRecDepth 20000 in
theorem lX11_97 : q_LV RX11 97 mX11_takeDraft 1 := ⟨okX11_takeDraft, (qT3 117 rfl rfl), (qT3 119 rfl rfl), (q_w 3 (by decide +kernel) (by decide +kernel))⟩
set_option maxRecDepth 20000 in
theorem lX11_126 : q_LV RX11 126 mX9_finish 0 := ⟨okX9_finish, (qT3 121 rfl rfl), (qT3 122 rfl rfl), (qT3 123 rfl rfl)⟩
set_option maxRecDepth 20000 in
theorem lX11_247 : q_LV RX11 247 mX6_push 1 := ⟨okX6_push, (qT3 125 rfl rfl), (qT3 126 rfl rfl), (qT3 127 rfl rfl)⟩
set_option maxRecDepth 20000 in
theorem lX6_19 : q_LI RX6 19 mX1_init 0 := ⟨okX1_init, (qT3 129 rfl rfl), (qT1 32 rfl rfl), rfl, rfl⟩
set_option maxRecDepth 20000 in
theorem lX6_20 : q_LV RX6 20 mX1_copyFrom 1 := ⟨okX1_copyFrom, (qT3 130 rfl rfl), (qT3 0 rfl rfl), (qT3 1 rfl rfl)⟩
set_option maxRecDepth 20000 in
theorem lX6_27 : q_LS RX6 27 mJ9_min_7cf53 2 := ⟨okJ9_min_7cf53, (qT3 131 rfl rfl), (qT3 86 rfl rfl)⟩
set_option maxRecDepth 20000 in
theorem lL_28 : q_LV RL 28 mX11_policy 0 := ⟨okX11_policy, (qT3 132 rfl rfl), (qT3 133 rfl rfl), (qT3 134 rfl rfl)⟩
set_option maxRecDepth 20000 in
theorem lX11_105 : q_LV RX11 105 mX5_read 1 := ⟨okX5_read, (qT3 136 rfl rfl), (qT3 137 rfl rfl), (qT3 138 rfl rfl)⟩
set_option maxRecDepth 20000 in
theorem lX5_38 : q_LV RX5 38 mX9_hasMore 0 := ⟨okX9_hasMore, (qT3 140 rfl rfl), (qT3 35 rfl rfl), (qT3 36 rfl rfl)⟩
set_option maxRecDepth 20000 in
theorem lX5_44 : q_LV RX5 44 mX9_peek 0 := ⟨okX9_peek, (qT3 141 rfl rfl), (qT3 43 rfl rfl), (qT3 44 rfl rfl)⟩
set_option maxRecDepth 20000 in
theorem lX5_51 : q_LV RX5 51 mX9_fail 1 := ⟨okX9_fail, (qT3 142 rfl rfl), (qT3 51 rfl rfl), (qT3 52 rfl rfl)⟩
set_option maxRecDepth 20000 in
theorem lX5_55 : q_LV RX5 55 mX9_skip 0 := ⟨okX9_skip, (qT3 143 rfl rfl), (qT3 55 rfl rfl), (qT3 56 rfl rfl)⟩
set_option maxRecDepth 20000 in
theorem lX5_58 : q_LV RX5 58 mX5_hold 1 := ⟨okX5_hold, (qT3 144 rfl rfl), (qT3 146 rfl rfl), (q_w 4 (by decide +kernel) (by decide +kernel))⟩
set_option maxRecDepth 20000 in
theorem lX5_61 : q_LV RX5 61 mX5_readThing 1 := ⟨okX5_readThing, (qT3 148 rfl rfl), (qT3 150 rfl rfl), (q_w 5 (by decide +kernel) (by decide +kernel))⟩
set_option maxRecDepth 20000 in
theorem lX5_74 : q_LS RX5 74 mX5_placeOf 1 := ⟨okX5_placeOf, (qT3 152 rfl rfl), (qT3 153 rfl rfl)⟩
set_option maxRecDepth 20000 in
theorem lX5_88 : q_LV RX5 88 mJ0_charAt_5068e 1 := ⟨okJ0_charAt_5068e, (qT3 156 rfl rfl), (qT3 157 rfl rfl), (qT3 158 rfl rfl)⟩
set_option maxRecDepth 20000 in
theorem lJ0_492 : q_LV RJ0 492 mJ0_isLatin1_aae02 0 := ⟨okJ0_isLatin1_aae02, (qT3 160 rfl rfl), (qT3 161 rfl rfl), (qT3 162 rfl rfl)⟩
set_option maxRecDepth 20000 in
theorem lJ0_495 : q_LS RJ0 495 mJ1_charAt_3b067 2 := ⟨okJ1_charAt_3b067, (qT3 166 rfl rfl), (qT3 167 rfl rfl)⟩
set_option maxRecDepth 20000 in
theorem lJ1_9 : q_LS RJ1 9 mJ0_checkIndex_df160 2 := ⟨okJ0_checkIndex_df160, (qT3 169 rfl rfl), (qT3 170 rfl rfl)⟩
set_option maxRecDepth 20000 in
theorem lJ0_1059 : q_LS RJ0 1059 mJ3_checkIndex_8e157 3 := ⟨okJ3_checkIndex_8e157, (qT3 174 rfl rfl), (qT3 175 rfl rfl)⟩
set_option maxRecDepth 20000 in
theorem lJ0_498 : q_LS RJ0 498 mJ2_charAt_3b067 2 := ⟨okJ2_charAt_3b067, (qT3 177 rfl rfl), (qT3 178 rfl rfl)⟩
set_option maxRecDepth 20000 in
theorem lJ2_67 : q_LS RJ2 67 mJ2_checkIndex_2214a 2 := ⟨okJ2_checkIndex_2214a, (qT3 180 rfl rfl), (qT3 181 rfl rfl)⟩
set_option maxRecDepth 20000 in
theorem lJ2_48 : q_LS RJ2 48 mJ2_length_9d52b 1 := ⟨okJ2_length_9d52b, (qT3 183 rfl rfl), (qT3 184 rfl rfl)⟩
set_option maxRecDepth 20000 in
theorem lJ2_414 : q_LS RJ2 414 mJ0_checkIndex_df160 2 := ⟨okJ0_checkIndex_df160, (qT3 186 rfl rfl), (qT3 170 rfl rfl)⟩
set_option maxRecDepth 20000 in
theorem lJ2_71 : q_LS RJ2 71 mJ2_getChar_3b067 2 := ⟨okJ2_getChar_3b067, (qT3 187 rfl rfl), (qT3 188 rfl rfl)⟩
set_option maxRecDepth 20000 in
theorem kX5_78 : Cond.constant RX5 78 (zi (999999)) ∈ q_tb := (qT3 196 rfl rfl)
set_option maxRecDepth 20000 in
theorem lX5_79 : q_LV RX5 79 mX9_number 2 := ⟨okX9_number, (qT3 197 rfl rfl), (qT3 67 rfl rfl), (qT3 68 rfl rfl)⟩
set_option maxRecDepth 20000 in
theorem lX5_83 : q_LV RX5 83 mX5_emit 1 := ⟨okX5_emit, (qT3 198 rfl rfl), (qT3 200 rfl rfl), (q_w 6 (by decide +kernel) (by decide +kernel))⟩
set_option maxRecDepth 20000 in
theorem lX5_65 : q_LV RX5 65 mX5_closeBracket 0 := ⟨okX5_closeBracket, (qT3 202 rfl rfl), (qT3 204 rfl rfl), (q_w 7 (by decide +kernel) (by decide +kernel))⟩
set_option maxRecDepth 20000 in
theorem lX5_71 : q_LV RX5 71 mX5_emitWaiting 1 := ⟨okX5_emitWaiting, (qT3 206 rfl rfl), (qT3 208 rfl rfl), (q_w 8 (by decide +kernel) (by decide +kernel))⟩
set_option maxRecDepth 20000 in
theorem lX5_97 : q_LS RX5 97 mJ9_max_7cf53 2 := ⟨okJ9_max_7cf53, (qT3 210 rfl rfl), (qT2 50 rfl rfl)⟩
set_option maxRecDepth 20000 in
theorem lX5_94 : q_LS RX5 94 mX5_strength 1 := ⟨okX5_strength, (qT3 211 rfl rfl), (qT3 212 rfl rfl)⟩
set_option maxRecDepth 20000 in
theorem lX5_68 : q_LV RX5 68 mX5_readOperator 1 := ⟨okX5_readOperator, (qT3 214 rfl rfl), (qT3 216 rfl rfl), (q_w 9 (by decide +kernel) (by decide +kernel))⟩
set_option maxRecDepth 20000 in
theorem lL_32 : q_LV RL 32 mX11_market 0 := ⟨okX11_market, (qT3 219 rfl rfl), (qT3 220 rfl rfl), (qT3 221 rfl rfl)⟩
set_option maxRecDepth 20000 in
theorem lX11_118 : q_LV RX11 118 mX7_read 2 := ⟨okX7_read, (qT3 223 rfl rfl), (qT3 224 rfl rfl), (qT3 225 rfl rfl)⟩
set_option maxRecDepth 20000 in
theorem lX7_44 : q_LV RX7 44 mX9_hasMore 0 := ⟨okX9_hasMore, (qT3 227 rfl rfl), (qT3 35 rfl rfl), (qT3 36 rfl rfl)⟩
set_option maxRecDepth 20000 in
theorem lX7_50 : q_LV RX7 50 mX9_numberAndComma 2 := ⟨okX9_numberAndComma, (qT3 228 rfl rfl), (qT3 63 rfl rfl), (qT3 64 rfl rfl)⟩
set_option maxRecDepth 20000 in
theorem kX7_54 : Cond.constant RX7 54 (zi (99999)) ∈ q_tb := (qT3 229 rfl rfl)
set_option maxRecDepth 20000 in
theorem lX7_55 : q_LV RX7 55 mX9_number 2 := ⟨okX9_number, (qT3 230 rfl rfl), (qT3 67 rfl rfl), (qT3 68 rfl rfl)⟩
set_option maxRecDepth 20000 in
theorem lX7_58 : q_LV RX7 58 mX9_expect 1 := ⟨okX9_expect, (qT3 231 rfl rfl), (qT3 74 rfl rfl), (qT3 75 rfl rfl)⟩
set_option maxRecDepth 20000 in
theorem lX7_65 : q_LV RX7 65 mX9_fail 1 := ⟨okX9_fail, (qT3 232 rfl rfl), (qT3 51 rfl rfl), (qT3 52 rfl rfl)⟩
set_option maxRecDepth 20000 in
theorem lL_36 : q_LV RL 36 mX11_acts 0 := ⟨okX11_acts, (qT3 233 rfl rfl), (qT3 234 rfl rfl), (qT3 235 rfl rfl)⟩
set_option maxRecDepth 20000 in
theorem lX11_123 : q_LV RX11 123 mX0_read 1 := ⟨okX0_read, (qT3 237 rfl rfl), (qT3 238 rfl rfl), (qT3 239 rfl rfl)⟩
set_option maxRecDepth 20000 in
theorem lX0_25 : q_LV RX0 25 mX9_hasMore 0 := ⟨okX9_hasMore, (qT4 1 rfl rfl), (qT3 35 rfl rfl), (qT3 36 rfl rfl)⟩
set_option maxRecDepth 20000 in
theorem lX0_31 : q_LV RX0 31 mX0_readAct 2 := ⟨okX0_readAct, (qT4 2 rfl rfl), (qT4 4 rfl rfl), (q_w 10 (by decide +kernel) (by decide +kernel))⟩
set_option maxRecDepth 20000 in
theorem lX0_45 : q_LV RX0 45 mX9_peek 0 := ⟨okX9_peek, (qT4 6 rfl rfl), (qT3 43 rfl rfl), (qT3 44 rfl rfl)⟩
set_option maxRecDepth 20000 in
theorem lX0_49 : q_LV RX0 49 mX9_skip 0 := ⟨okX9_skip, (qT4 7 rfl rfl), (qT3 55 rfl rfl), (qT3 56 rfl rfl)⟩
set_option maxRecDepth 20000 in
theorem kX0_52 : Cond.constant RX0 52 (zi (999999)) ∈ q_tb := (qT4 8 rfl rfl)
set_option maxRecDepth 20000 in
theorem lX0_53 : q_LV RX0 53 mX9_number 2 := ⟨okX9_number, (qT4 9 rfl rfl), (qT3 67 rfl rfl), (qT3 68 rfl rfl)⟩
set_option maxRecDepth 20000 in
theorem lX0_57 : q_LV RX0 57 mX9_numberAndComma 2 := ⟨okX9_numberAndComma, (qT4 10 rfl rfl), (qT3 63 rfl rfl), (qT3 64 rfl rfl)⟩
set_option maxRecDepth 20000 in
theorem lX0_42 : q_LV RX0 42 mX9_fail 1 := ⟨okX9_fail, (qT4 11 rfl rfl), (qT3 51 rfl rfl), (qT3 52 rfl rfl)⟩
set_option maxRecDepth 20000 in
theorem lX0_35 : q_LV RX0 35 mX9_expect 1 := ⟨okX9_expect, (qT4 12 rfl rfl), (qT3 74 rfl rfl), (qT3 75 rfl rfl)⟩
set_option maxRecDepth 20000 in
theorem lX11_131 : q_LV RX11 131 mX11_perform 1 := ⟨okX11_perform, (qT4 13 rfl rfl), (qT4 15 rfl rfl), (q_w 11 (by decide +kernel) (by decide +kernel))⟩
set_option maxRecDepth 20000 in
theorem lX11_240 : q_LV RX11 240 mX11_letGo 2 := ⟨okX11_letGo, (qT4 17 rfl rfl), (qT4 19 rfl rfl), (q_w 12 (by decide +kernel) (by decide +kernel))⟩
set_option maxRecDepth 20000 in
theorem lX11_463 : q_LV RX11 463 mX1_refusal 1 := ⟨okX1_refusal, (qT4 21 rfl rfl), (qT4 22 rfl rfl), (qT4 23 rfl rfl)⟩
set_option maxRecDepth 20000 in
theorem lX1_98 : q_LV RX1 98 mX1_find 1 := ⟨okX1_find, (qT4 25 rfl rfl), (qT4 26 rfl rfl), (qT4 27 rfl rfl)⟩
set_option maxRecDepth 20000 in
theorem lX1_102 : q_LV RX1 102 mX4_isOpen 0 := ⟨okX4_isOpen, (qT4 29 rfl rfl), (qT4 30 rfl rfl), (qT4 31 rfl rfl)⟩
set_option maxRecDepth 20000 in
theorem lX11_319 : q_LV RX11 319 mX1_release 2 := ⟨okX1_release, (qT4 33 rfl rfl), (qT4 34 rfl rfl), (qT4 35 rfl rfl)⟩
set_option maxRecDepth 20000 in
theorem lX1_175 : q_LV RX1 175 mX1_findBegun 1 := ⟨okX1_findBegun, (qT4 37 rfl rfl), (qT4 38 rfl rfl), (qT4 39 rfl rfl)⟩
set_option maxRecDepth 20000 in
theorem lX1_91 : q_LV RX1 91 mX1_refusal 1 := ⟨okX1_refusal, (qT4 41 rfl rfl), (qT4 22 rfl rfl), (qT4 23 rfl rfl)⟩
set_option maxRecDepth 20000 in
theorem lX1_171 : q_LV RX1 171 mX1_deadPartsNow 2 := ⟨okX1_deadPartsNow, (qT4 42 rfl rfl), (qT4 43 rfl rfl), (qT4 44 rfl rfl)⟩
set_option maxRecDepth 20000 in
theorem lX1_161 : q_LV RX1 161 mX4_partsFrom 1 := ⟨okX4_partsFrom, (qT4 46 rfl rfl), (qT4 47 rfl rfl), (qT4 48 rfl rfl)⟩
set_option maxRecDepth 20000 in
theorem lX4_57 : q_LS RX4 57 mJ9_max_7cf53 2 := ⟨okJ9_max_7cf53, (qT4 50 rfl rfl), (qT2 50 rfl rfl)⟩
set_option maxRecDepth 20000 in
theorem lX1_164 : q_LV RX1 164 mX4_partsIn 1 := ⟨okX4_partsIn, (qT4 51 rfl rfl), (qT4 52 rfl rfl), (qT4 53 rfl rfl)⟩
set_option maxRecDepth 20000 in
theorem lX1_178 : q_LV RX1 178 mX1_deadNow 2 := ⟨okX1_deadNow, (qT4 55 rfl rfl), (qT4 56 rfl rfl), (qT4 57 rfl rfl)⟩
set_option maxRecDepth 20000 in
theorem lX1_167 : q_LV RX1 167 mX1_deadPay 3 := ⟨okX1_deadPay, (qT4 59 rfl rfl), (qT4 60 rfl rfl), (qT4 61 rfl rfl)⟩
set_option maxRecDepth 20000 in
theorem lX1_155 : q_LV RX1 155 mX4_sureBase 1 := ⟨okX4_sureBase, (qT4 63 rfl rfl), (qT4 64 rfl rfl), (qT4 65 rfl rfl)⟩
set_option maxRecDepth 20000 in
theorem lX1_158 : q_LV RX1 158 mX4_rosterBonus 1 := ⟨okX4_rosterBonus, (qT4 67 rfl rfl), (qT4 68 rfl rfl), (qT4 69 rfl rfl)⟩
set_option maxRecDepth 20000 in
theorem lX4_53 : q_LV RX4 53 mX4_plays 1 := ⟨okX4_plays, (qT4 71 rfl rfl), (qT4 73 rfl rfl), (q_w 13 (by decide +kernel) (by decide +kernel))⟩
set_option maxRecDepth 20000 in
theorem lX1_181 : q_LV RX1 181 mX1_deadNext 2 := ⟨okX1_deadNext, (qT4 75 rfl rfl), (qT4 76 rfl rfl), (qT4 77 rfl rfl)⟩
set_option maxRecDepth 20000 in
theorem lX11_154 : q_LV RX11 154 mX1_manyThatAre 1 := ⟨okX1_manyThatAre, (qT4 79 rfl rfl), (qT4 80 rfl rfl), (qT4 81 rfl rfl)⟩
set_option maxRecDepth 20000 in
theorem lX11_455 : q_LV RX11 455 mX11_turn 2 := ⟨okX11_turn, (qT4 83 rfl rfl), (qT4 84 rfl rfl), (qT4 85 rfl rfl)⟩
set_option maxRecDepth 20000 in
theorem lX11_282 : q_LV RX11 282 mX1_payRefusal 2 := ⟨okX1_payRefusal, (qT4 87 rfl rfl), (qT4 88 rfl rfl), (qT4 89 rfl rfl)⟩
set_option maxRecDepth 20000 in
theorem kX1_109 : Cond.constant RX1 109 (zi (99999)) ∈ q_tb := (qT4 91 rfl rfl)
set_option maxRecDepth 20000 in
theorem lX1_110 : q_LV RX1 110 mX4_basePay 1 := ⟨okX4_basePay, (qT4 92 rfl rfl), (qT4 93 rfl rfl), (qT4 94 rfl rfl)⟩
set_option maxRecDepth 20000 in
theorem lX11_168 : q_LV RX11 168 mX1_find 1 := ⟨okX1_find, (qT4 96 rfl rfl), (qT4 26 rfl rfl), (qT4 27 rfl rfl)⟩
set_option maxRecDepth 20000 in
theorem lX11_286 : q_LV RX11 286 mX4_takeFromBase 2 := ⟨okX4_takeFromBase, (qT4 97 rfl rfl), (qT4 98 rfl rfl), (qT4 99 rfl rfl)⟩
set_option maxRecDepth 20000 in
theorem lX11_290 : q_LV RX11 290 mX4_spread 2 := ⟨okX4_spread, (qT4 101 rfl rfl), (qT3 98 rfl rfl), (qT3 99 rfl rfl)⟩
set_option maxRecDepth 20000 in
theorem lX11_196 : q_LV RX11 196 mX4_hit 1 := ⟨okX4_hit, (qT4 102 rfl rfl), (qT4 103 rfl rfl), (qT4 104 rfl rfl)⟩
set_option maxRecDepth 20000 in
theorem lX4_63 : q_LV RX4 63 mX4_basePay 1 := ⟨okX4_basePay, (qT4 106 rfl rfl), (qT4 93 rfl rfl), (qT4 94 rfl rfl)⟩
set_option maxRecDepth 20000 in
theorem lX4_67 : q_LV RX4 67 mX4_rosterBonus 1 := ⟨okX4_rosterBonus, (qT4 107 rfl rfl), (qT4 68 rfl rfl), (qT4 69 rfl rfl)⟩
set_option maxRecDepth 20000 in
theorem lX4_70 : q_LV RX4 70 mX4_partsIn 1 := ⟨okX4_partsIn, (qT4 108 rfl rfl), (qT4 52 rfl rfl), (qT4 53 rfl rfl)⟩
set_option maxRecDepth 20000 in
theorem lX11_458 : q_LV RX11 458 mX11_days 1 := ⟨okX11_days, (qT4 109 rfl rfl), (qT4 110 rfl rfl), (qT4 111 rfl rfl)⟩
set_option maxRecDepth 20000 in
theorem lX11_461 : q_LV RX11 461 mX11_year 0 := ⟨okX11_year, (qT4 113 rfl rfl), (qT4 114 rfl rfl), (qT4 115 rfl rfl)⟩
set_option maxRecDepth 20000 in
theorem lX11_211 : q_LV RX11 211 mX10_load 1 := ⟨okX10_load, (qT4 117 rfl rfl), (qT4 118 rfl rfl), (qT4 119 rfl rfl)⟩
set_option maxRecDepth 20000 in
theorem lX10_42 : q_LV RX10 42 mX4_hit 1 := ⟨okX4_hit, (qT4 121 rfl rfl), (qT4 103 rfl rfl), (qT4 104 rfl rfl)⟩
set_option maxRecDepth 20000 in
theorem lX10_47 : q_LV RX10 47 mX4_partsIn 1 := ⟨okX4_partsIn, (qT4 122 rfl rfl), (qT4 52 rfl rfl), (qT4 53 rfl rfl)⟩
set_option maxRecDepth 20000 in
theorem lX10_50 : q_LV RX10 50 mX4_isOpen 0 := ⟨okX4_isOpen, (qT4 123 rfl rfl), (qT4 30 rfl rfl), (qT4 31 rfl rfl)⟩
set_option maxRecDepth 20000 in
theorem lX10_58 : q_LV RX10 58 mX10_loadPromises 2 := ⟨okX10_loadPromises, (qT4 124 rfl rfl), (qT4 126 rfl rfl), (q_w 14 (by decide +kernel) (by decide +kernel))⟩
set_option maxRecDepth 20000 in
theorem lX10_62 : q_LV RX10 62 mX10_rank 0 := ⟨okX10_rank, (qT4 128 rfl rfl), (qT4 129 rfl rfl), (qT4 130 rfl rfl)⟩
set_option maxRecDepth 20000 in
theorem lX10_78 : q_LV RX10 78 mX10_isAhead 2 := ⟨okX10_isAhead, (qT4 132 rfl rfl), (qT4 134 rfl rfl), (q_w 15 (by decide +kernel) (by decide +kernel))⟩
set_option maxRecDepth 20000 in
theorem lX11_218 : q_LV RX11 218 mX10_room 1 := ⟨okX10_room, (qT4 136 rfl rfl), (qT4 137 rfl rfl), (qT4 138 rfl rfl)⟩
set_option maxRecDepth 20000 in
theorem lX10_97 : q_LV RX10 97 mX10_count 2 := ⟨okX10_count, (qT4 140 rfl rfl), (qT4 141 rfl rfl), (qT4 142 rfl rfl)⟩
set_option maxRecDepth 20000 in
theorem lX10_85 : q_LV RX10 85 mX1_fullPlaces 1 := ⟨okX1_fullPlaces, (qT4 144 rfl rfl), (qT4 145 rfl rfl), (qT4 146 rfl rfl)⟩
set_option maxRecDepth 20000 in
theorem lX10_88 : q_LV RX10 88 mX10_total 1 := ⟨okX10_total, (qT4 148 rfl rfl), (qT4 150 rfl rfl), (q_w 16 (by decide +kernel) (by decide +kernel))⟩
set_option maxRecDepth 20000 in
theorem lX11_303 : q_LV RX11 303 mX1_passYear 1 := ⟨okX1_passYear, (qT4 152 rfl rfl), (qT4 153 rfl rfl), (qT4 154 rfl rfl)⟩
set_option maxRecDepth 20000 in
theorem lX1_187 : q_LS RX1 187 mJ9_max_7cf53 2 := ⟨okJ9_max_7cf53, (qT4 156 rfl rfl), (qT2 50 rfl rfl)⟩
set_option maxRecDepth 20000 in
theorem lX1_205 : q_LV RX1 205 mX1_promisesSettled 0 := ⟨okX1_promisesSettled, (qT4 157 rfl rfl), (qT4 159 rfl rfl), (q_w 17 (by decide +kernel) (by decide +kernel))⟩
set_option maxRecDepth 20000 in
theorem lX1_218 : q_LV RX1 218 mX8_settled 1 := ⟨okX8_settled, (qT4 161 rfl rfl), (qT4 162 rfl rfl), (qT4 163 rfl rfl)⟩
set_option maxRecDepth 20000 in
theorem kX1_208 : Cond.constant RX1 208 (zi (999999)) ∈ q_tb := (qT4 165 rfl rfl)
set_option maxRecDepth 20000 in
theorem lX1_209 : q_LS RX1 209 mJ9_min_7cf53 2 := ⟨okJ9_min_7cf53, (qT4 166 rfl rfl), (qT3 86 rfl rfl)⟩
set_option maxRecDepth 20000 in
theorem lL_40 : q_LV RL 40 mX11_fault 0 := ⟨okX11_fault, (qT4 167 rfl rfl), (qT4 168 rfl rfl), (qT4 169 rfl rfl)⟩
set_option maxRecDepth 20000 in
theorem lL_44 : q_LV RL 44 mX11_ended 0 := ⟨okX11_ended, (qT4 171 rfl rfl), (qT4 172 rfl rfl), (qT4 173 rfl rfl)⟩
set_option maxRecDepth 20000 in
theorem lL_48 : q_LV RL 48 mX11_why 0 := ⟨okX11_why, (qT4 175 rfl rfl), (qT4 176 rfl rfl), (qT4 177 rfl rfl)⟩
set_option maxRecDepth 20000 in
theorem lL_52 : q_LV RL 52 mX11_is 1 := ⟨okX11_is, (qT4 179 rfl rfl), (qT4 180 rfl rfl), (qT4 181 rfl rfl)⟩
set_option maxRecDepth 20000 in
theorem lL_56 : q_LV RL 56 mX11_limit 1 := ⟨okX11_limit, (qT4 183 rfl rfl), (qT4 184 rfl rfl), (qT4 185 rfl rfl)⟩
set_option maxRecDepth 20000 in
theorem lX11_158 : q_LS RX11 158 mX11_isYear 1 := ⟨okX11_isYear, (qT4 187 rfl rfl), (qT3 79 rfl rfl)⟩
set_option maxRecDepth 20000 in
theorem lL_60 : q_LV RL 60 mX11_dead 1 := ⟨okX11_dead, (qT4 188 rfl rfl), (qT4 189 rfl rfl), (qT4 190 rfl rfl)⟩
set_option maxRecDepth 20000 in
theorem lL_64 : q_LV RL 64 mX11_contract 2 := ⟨okX11_contract, (qT4 192 rfl rfl), (qT4 193 rfl rfl), (qT4 194 rfl rfl)⟩
set_option maxRecDepth 20000 in
theorem lX11_189 : q_LV RX11 189 mX4_yearsLeft 1 := ⟨okX4_yearsLeft, (qT4 196 rfl rfl), (qT4 197 rfl rfl), (qT4 198 rfl rfl)⟩
set_option maxRecDepth 20000 in
theorem lX4_49 : q_LV RX4 49 mX4_isOpen 0 := ⟨okX4_isOpen, (qT4 200 rfl rfl), (qT4 30 rfl rfl), (qT4 31 rfl rfl)⟩
set_option maxRecDepth 20000 in
theorem lX11_192 : q_LV RX11 192 mX4_isOpen 0 := ⟨okX4_isOpen, (qT4 201 rfl rfl), (qT4 30 rfl rfl), (qT4 31 rfl rfl)⟩
set_option maxRecDepth 20000 in
theorem lX11_199 : q_LV RX11 199 mX11_countsInFull 1 := ⟨okX11_countsInFull, (qT4 202 rfl rfl), (qT4 204 rfl rfl), (q_w 18 (by decide +kernel) (by decide +kernel))⟩
set_option maxRecDepth 20000 in
theorem lX11_397 : q_LV RX11 397 mX1_fullPlaces 1 := ⟨okX1_fullPlaces, (qT4 206 rfl rfl), (qT4 145 rfl rfl), (qT4 146 rfl rfl)⟩
set_option maxRecDepth 20000 in
theorem lX11_353 : q_LS RX11 353 mJ9_min_7cf53 2 := ⟨okJ9_min_7cf53, (qT4 207 rfl rfl), (qT3 86 rfl rfl)⟩
set_option maxRecDepth 20000 in
theorem lL_69 : q_LV RL 69 mX11_pay 3 := ⟨okX11_pay, (qT4 208 rfl rfl), (qT4 209 rfl rfl), (qT4 210 rfl rfl)⟩
set_option maxRecDepth 20000 in
theorem lX11_202 : q_LV RX11 202 mX4_basePay 1 := ⟨okX4_basePay, (qT4 212 rfl rfl), (qT4 93 rfl rfl), (qT4 94 rfl rfl)⟩
set_option maxRecDepth 20000 in
theorem lX11_205 : q_LV RX11 205 mX4_rosterBonus 1 := ⟨okX4_rosterBonus, (qT4 213 rfl rfl), (qT4 68 rfl rfl), (qT4 69 rfl rfl)⟩
set_option maxRecDepth 20000 in
theorem lX11_208 : q_LV RX11 208 mX4_partsIn 1 := ⟨okX4_partsIn, (qT4 214 rfl rfl), (qT4 52 rfl rfl), (qT4 53 rfl rfl)⟩
set_option maxRecDepth 20000 in
theorem lL_74 : q_LV RL 74 mX11_now 1 := ⟨okX11_now, (qT4 215 rfl rfl), (qT4 216 rfl rfl), (qT4 217 rfl rfl)⟩
set_option maxRecDepth 20000 in
theorem lX11_214 : q_LV RX11 214 mX10_count 2 := ⟨okX10_count, (qT4 219 rfl rfl), (qT4 141 rfl rfl), (qT4 142 rfl rfl)⟩
set_option maxRecDepth 20000 in
theorem kX11_221 : Cond.constant RX11 221 (zi (-1000000000)) ∈ q_tb := (qT4 220 rfl rfl)
set_option maxRecDepth 20000 in
theorem lL_78 : q_LV RL 78 mX11_would 2 := ⟨okX11_would, (qT4 221 rfl rfl), (qT4 222 rfl rfl), (qT4 223 rfl rfl)⟩
set_option maxRecDepth 20000 in
theorem lX11_222 : q_LV RX11 222 mX1_findBegun 1 := ⟨okX1_findBegun, (qT4 225 rfl rfl), (qT4 38 rfl rfl), (qT4 39 rfl rfl)⟩
set_option maxRecDepth 20000 in
theorem lX11_225 : q_LV RX11 225 mX1_deadNow 2 := ⟨okX1_deadNow, (qT4 226 rfl rfl), (qT4 56 rfl rfl), (qT4 57 rfl rfl)⟩
set_option maxRecDepth 20000 in
theorem lX11_229 : q_LV RX11 229 mX1_deadNext 2 := ⟨okX1_deadNext, (qT4 227 rfl rfl), (qT4 76 rfl rfl), (qT4 77 rfl rfl)⟩
set_option maxRecDepth 20000 in
theorem lX11_232 : q_LV RX11 232 mX1_deadInAll 1 := ⟨okX1_deadInAll, (qT4 228 rfl rfl), (qT4 229 rfl rfl), (qT4 230 rfl rfl)⟩
set_option maxRecDepth 20000 in
theorem lX11_236 : q_LV RX11 236 mX10_saved 3 := ⟨okX10_saved, (qT4 232 rfl rfl), (qT4 233 rfl rfl), (qT4 234 rfl rfl)⟩
set_option maxRecDepth 20000 in
theorem lX10_101 : q_LV RX10 101 mX1_findBegun 1 := ⟨okX1_findBegun, (qT4 236 rfl rfl), (qT4 38 rfl rfl), (qT4 39 rfl rfl)⟩
set_option maxRecDepth 20000 in
theorem lX10_105 : q_LV RX10 105 mX1_deadNow 2 := ⟨okX1_deadNow, (qT4 237 rfl rfl), (qT4 56 rfl rfl), (qT4 57 rfl rfl)⟩
set_option maxRecDepth 20000 in
theorem lL_82 : q_LV RL 82 mX11_cut 1 := ⟨okX11_cut, (qT4 238 rfl rfl), (qT4 239 rfl rfl), (qT5 0 rfl rfl)⟩
set_option maxRecDepth 20000 in
theorem lL_86 : q_LV RL 86 mX11_trade 1 := ⟨okX11_trade, (qT5 2 rfl rfl), (qT5 3 rfl rfl), (qT5 4 rfl rfl)⟩
set_option maxRecDepth 20000 in
theorem lL_90 : q_LV RL 90 mX11_sign 1 := ⟨okX11_sign, (qT5 6 rfl rfl), (qT5 7 rfl rfl), (qT5 8 rfl rfl)⟩
set_option maxRecDepth 20000 in
theorem lX11_244 : q_LV RX11 244 mX1_signRefusal 1 := ⟨okX1_signRefusal, (qT5 10 rfl rfl), (qT5 11 rfl rfl), (qT5 12 rfl rfl)⟩
set_option maxRecDepth 20000 in
theorem lX1_123 : q_LV RX1 123 mX7_has 1 := ⟨okX7_has, (qT5 14 rfl rfl), (qT5 15 rfl rfl), (qT5 16 rfl rfl)⟩
set_option maxRecDepth 20000 in
theorem lX11_250 : q_LV RX11 250 mX1_takeOffer 1 := ⟨okX1_takeOffer, (qT5 18 rfl rfl), (qT5 19 rfl rfl), (qT5 20 rfl rfl)⟩
set_option maxRecDepth 20000 in
theorem lX1_129 : q_LV RX1 129 mX1_addContract 0 := ⟨okX1_addContract, (qT5 22 rfl rfl), (qT3 90 rfl rfl), (qT3 91 rfl rfl)⟩
set_option maxRecDepth 20000 in
theorem lX1_133 : q_LV RX1 133 mX4_start 4 := ⟨okX4_start, (qT5 23 rfl rfl), (qT3 94 rfl rfl), (qT3 95 rfl rfl)⟩
set_option maxRecDepth 20000 in
theorem lX1_140 : q_LV RX1 140 mX4_spread 2 := ⟨okX4_spread, (qT5 24 rfl rfl), (qT3 98 rfl rfl), (qT3 99 rfl rfl)⟩
set_option maxRecDepth 20000 in
theorem lX1_147 : q_LV RX1 147 mX4_putPay 3 := ⟨okX4_putPay, (qT5 25 rfl rfl), (qT3 114 rfl rfl), (qT3 115 rfl rfl)⟩
set_option maxRecDepth 20000 in
theorem lX1_151 : q_LV RX1 151 mX7_remove 1 := ⟨okX7_remove, (qT5 26 rfl rfl), (qT5 27 rfl rfl), (qT5 28 rfl rfl)⟩
set_option maxRecDepth 20000 in
theorem lX7_40 : q_LV RX7 40 mX7_has 1 := ⟨okX7_has, (qT5 30 rfl rfl), (qT5 15 rfl rfl), (qT5 16 rfl rfl)⟩
set_option maxRecDepth 20000 in
theorem lL_94 : q_LV RL 94 mX11_promise 4 := ⟨okX11_promise, (qT5 31 rfl rfl), (qT5 32 rfl rfl), (qT5 33 rfl rfl)⟩
set_option maxRecDepth 20000 in
theorem kX11_253 : Cond.constant RX11 253 (zi (99999)) ∈ q_tb := (qT5 35 rfl rfl)
set_option maxRecDepth 20000 in
theorem lX11_258 : q_LV RX11 258 mX8_isFull 0 := ⟨okX8_isFull, (qT5 36 rfl rfl), (qT5 37 rfl rfl), (qT5 38 rfl rfl)⟩
set_option maxRecDepth 20000 in
theorem lX11_263 : q_LV RX11 263 mX8_add 4 := ⟨okX8_add, (qT5 40 rfl rfl), (qT5 41 rfl rfl), (qT5 42 rfl rfl)⟩
set_option maxRecDepth 20000 in
theorem lX8_38 : q_LV RX8 38 mX8_isFull 0 := ⟨okX8_isFull, (qT5 44 rfl rfl), (qT5 37 rfl rfl), (qT5 38 rfl rfl)⟩
set_option maxRecDepth 20000 in
theorem lL_99 : q_LV RL 99 mX11_earn 1 := ⟨okX11_earn, (qT5 45 rfl rfl), (qT5 46 rfl rfl), (qT5 47 rfl rfl)⟩
set_option maxRecDepth 20000 in
theorem lX11_267 : q_LV RX11 267 mX8_has 1 := ⟨okX8_has, (qT5 49 rfl rfl), (qT5 50 rfl rfl), (qT5 51 rfl rfl)⟩
set_option maxRecDepth 20000 in
theorem lL_103 : q_LV RL 103 mX11_turn 2 := ⟨okX11_turn, (qT5 53 rfl rfl), (qT4 84 rfl rfl), (qT4 85 rfl rfl)⟩
set_option maxRecDepth 20000 in
theorem lL_107 : q_LV RL 107 mX11_longer 4 := ⟨okX11_longer, (qT5 54 rfl rfl), (qT5 55 rfl rfl), (qT5 56 rfl rfl)⟩
set_option maxRecDepth 20000 in
theorem lX11_293 : q_LV RX11 293 mX1_longerRefusal 4 := ⟨okX1_longerRefusal, (qT5 58 rfl rfl), (qT5 59 rfl rfl), (qT5 60 rfl rfl)⟩
set_option maxRecDepth 20000 in
theorem lX1_119 : q_LV RX1 119 mX4_lastYear 0 := ⟨okX4_lastYear, (qT5 62 rfl rfl), (qT3 106 rfl rfl), (qT3 107 rfl rfl)⟩
set_option maxRecDepth 20000 in
theorem lX11_297 : q_LV RX11 297 mX4_addYears 2 := ⟨okX4_addYears, (qT5 63 rfl rfl), (qT5 64 rfl rfl), (qT5 65 rfl rfl)⟩
set_option maxRecDepth 20000 in
theorem lX4_73 : q_LV RX4 73 mX4_putPay 3 := ⟨okX4_putPay, (qT5 67 rfl rfl), (qT3 114 rfl rfl), (qT3 115 rfl rfl)⟩
set_option maxRecDepth 20000 in
theorem lX11_300 : q_LV RX11 300 mX4_lastYear 0 := ⟨okX4_lastYear, (qT5 68 rfl rfl), (qT3 106 rfl rfl), (qT3 107 rfl rfl)⟩
set_option maxRecDepth 20000 in
theorem lL_112 : q_LV RL 112 mX11_lower 2 := ⟨okX11_lower, (qT5 69 rfl rfl), (qT5 70 rfl rfl), (qT5 71 rfl rfl)⟩
set_option maxRecDepth 20000 in
theorem lL_116 : q_LV RL 116 mX11_days 1 := ⟨okX11_days, (qT5 73 rfl rfl), (qT4 110 rfl rfl), (qT4 111 rfl rfl)⟩
set_option maxRecDepth 20000 in
theorem lL_120 : q_LV RL 120 mX11_year 0 := ⟨okX11_year, (qT5 74 rfl rfl), (qT4 114 rfl rfl), (qT4 115 rfl rfl)⟩
set_option maxRecDepth 20000 in
theorem lL_124 : q_LV RL 124 mX11_says 1 := ⟨okX11_says, (qT5 75 rfl rfl), (qT5 76 rfl rfl), (qT5 77 rfl rfl)⟩
set_option maxRecDepth 20000 in
theorem kX11_307 : Cond.constantLong RX11 307 (-1000000000000) ∈ q_tb := (qT5 79 rfl rfl)
set_option maxRecDepth 20000 in
theorem lX11_309 : q_LV RX11 309 mX11_policySum 1 := ⟨okX11_policySum, (qT5 80 rfl rfl), (qT5 82 rfl rfl), (q_w 19 (by decide +kernel) (by decide +kernel))⟩
set_option maxRecDepth 20000 in
theorem lX11_466 : q_LV RX11 466 mX5_put 2 := ⟨okX5_put, (qT5 84 rfl rfl), (qT5 85 rfl rfl), (qT5 86 rfl rfl)⟩
set_option maxRecDepth 20000 in
theorem lX11_469 : q_LV RX11 469 mX5_value 0 := ⟨okX5_value, (qT5 88 rfl rfl), (qT5 89 rfl rfl), (qT5 90 rfl rfl)⟩
set_option maxRecDepth 20000 in
theorem lX5_102 : q_LS RX5 102 mX5_join 3 := ⟨okX5_join, (qT5 92 rfl rfl), (qT5 93 rfl rfl)⟩
set_option maxRecDepth 20000 in
theorem lL_129 : q_LV RL 129 mX11_byPolicy 1 := ⟨okX11_byPolicy, (qT5 95 rfl rfl), (qT5 96 rfl rfl), (qT5 97 rfl rfl)⟩
set_option maxRecDepth 20000 in
theorem lX11_313 : q_LS RX11 313 mX11_isGoal 1 := ⟨okX11_isGoal, (qT5 99 rfl rfl), (qT5 100 rfl rfl)⟩
set_option maxRecDepth 20000 in
theorem kX11_445 : Cond.constant RX11 445 (zi (-999999)) ∈ q_tb := (qT5 102 rfl rfl)
set_option maxRecDepth 20000 in
theorem kX11_446 : Cond.constant RX11 446 (zi (999999)) ∈ q_tb := (qT5 103 rfl rfl)
set_option maxRecDepth 20000 in
theorem lX11_316 : q_LV RX11 316 mX11_greatestByPolicy 0 := ⟨okX11_greatestByPolicy, (qT5 104 rfl rfl), (qT5 106 rfl rfl), (q_w 20 (by decide +kernel) (by decide +kernel))⟩
set_option maxRecDepth 20000 in
theorem lL_133 : q_LV RL 133 mX11_set 2 := ⟨okX11_set, (qT5 108 rfl rfl), (qT5 109 rfl rfl), (qT5 110 rfl rfl)⟩
set_option maxRecDepth 20000 in
theorem lX11_323 : q_LV RX11 323 mX3_chooseSet 3 := ⟨okX3_chooseSet, (qT5 112 rfl rfl), (qT5 113 rfl rfl), (qT5 114 rfl rfl)⟩
set_option maxRecDepth 20000 in
theorem lX3_77 : q_LV RX3 77 mX3_gather 3 := ⟨okX3_gather, (qT5 116 rfl rfl), (qT5 118 rfl rfl), (q_w 21 (by decide +kernel) (by decide +kernel))⟩
set_option maxRecDepth 20000 in
theorem lX3_31 : q_LV RX3 31 mX10_load 1 := ⟨okX10_load, (qT5 120 rfl rfl), (qT4 118 rfl rfl), (qT4 119 rfl rfl)⟩
set_option maxRecDepth 20000 in
theorem lX3_48 : q_LV RX3 48 mX1_findBegun 1 := ⟨okX1_findBegun, (qT5 121 rfl rfl), (qT4 38 rfl rfl), (qT4 39 rfl rfl)⟩
set_option maxRecDepth 20000 in
theorem lX3_55 : q_LV RX3 55 mX1_deadNow 2 := ⟨okX1_deadNow, (qT5 122 rfl rfl), (qT4 56 rfl rfl), (qT4 57 rfl rfl)⟩
set_option maxRecDepth 20000 in
theorem lX3_58 : q_LV RX3 58 mX1_deadInAll 1 := ⟨okX1_deadInAll, (qT5 123 rfl rfl), (qT4 229 rfl rfl), (qT4 230 rfl rfl)⟩
set_option maxRecDepth 20000 in
theorem lX3_65 : q_LV RX3 65 mX1_mostTurned 1 := ⟨okX1_mostTurned, (qT5 124 rfl rfl), (qT5 125 rfl rfl), (qT5 126 rfl rfl)⟩
set_option maxRecDepth 20000 in
theorem lX3_71 : q_LV RX3 71 mX4_partOf 3 := ⟨okX4_partOf, (qT5 128 rfl rfl), (qT3 102 rfl rfl), (qT3 103 rfl rfl)⟩
set_option maxRecDepth 20000 in
theorem lX3_81 : q_LV RX3 81 mX3_sumOf 2 := ⟨okX3_sumOf, (qT5 129 rfl rfl), (qT5 131 rfl rfl), (q_w 22 (by decide +kernel) (by decide +kernel))⟩
set_option maxRecDepth 20000 in
theorem lX3_88 : q_LS RX3 88 mJ6_bitCount_0f7a4 1 := ⟨okJ6_bitCount_0f7a4, (qT5 133 rfl rfl), (qT5 134 rfl rfl)⟩
set_option maxRecDepth 20000 in
theorem kJ6_265 : Cond.constant RJ6 265 (zi (1431655765)) ∈ q_tb := (qT5 136 rfl rfl)
set_option maxRecDepth 20000 in
theorem kJ6_266 : Cond.constant RJ6 266 (zi (858993459)) ∈ q_tb := (qT5 137 rfl rfl)
set_option maxRecDepth 20000 in
theorem kJ6_267 : Cond.constant RJ6 267 (zi (252645135)) ∈ q_tb := (qT5 138 rfl rfl)
set_option maxRecDepth 20000 in
theorem lX3_101 : q_LV RX3 101 mX10_room 1 := ⟨okX10_room, (qT5 139 rfl rfl), (qT4 137 rfl rfl), (qT4 138 rfl rfl)⟩
set_option maxRecDepth 20000 in
theorem lL_137 : q_LV RL 137 mX11_turned 2 := ⟨okX11_turned, (qT5 140 rfl rfl), (qT5 141 rfl rfl), (qT5 142 rfl rfl)⟩
set_option maxRecDepth 20000 in
theorem lX11_337 : q_LV RX11 337 mX1_mostTurned 1 := ⟨okX1_mostTurned, (qT5 144 rfl rfl), (qT5 125 rfl rfl), (qT5 126 rfl rfl)⟩
set_option maxRecDepth 20000 in
theorem lX11_340 : q_LV RX11 340 mX11_savedByTurn 2 := ⟨okX11_savedByTurn, (qT5 145 rfl rfl), (qT5 147 rfl rfl), (q_w 23 (by decide +kernel) (by decide +kernel))⟩
set_option maxRecDepth 20000 in
theorem lX11_365 : q_LV RX11 365 mX4_partOf 3 := ⟨okX4_partOf, (qT5 149 rfl rfl), (qT3 102 rfl rfl), (qT3 103 rfl rfl)⟩
set_option maxRecDepth 20000 in
theorem lX11_369 : q_LV RX11 369 mX10_shift 3 := ⟨okX10_shift, (qT5 150 rfl rfl), (qT5 151 rfl rfl), (qT5 152 rfl rfl)⟩
set_option maxRecDepth 20000 in
theorem lX11_373 : q_LV RX11 373 mX10_rank 0 := ⟨okX10_rank, (qT5 154 rfl rfl), (qT4 129 rfl rfl), (qT4 130 rfl rfl)⟩
set_option maxRecDepth 20000 in
theorem lL_141 : q_LV RL 141 mX11_ahead 1 := ⟨okX11_ahead, (qT5 155 rfl rfl), (qT5 156 rfl rfl), (qT5 157 rfl rfl)⟩
set_option maxRecDepth 20000 in
theorem lX11_344 : q_LV RX11 344 mX1_countAhead 1 := ⟨okX1_countAhead, (qT5 159 rfl rfl), (qT5 160 rfl rfl), (qT5 161 rfl rfl)⟩
set_option maxRecDepth 20000 in
theorem lX1_193 : q_LSN RX1 193 mX11_isYear 1 := ⟨okX11_isYear, (q_wn 1214 (by decide +kernel)), (qT3 79 rfl rfl)⟩
set_option maxRecDepth 20000 in
theorem lX1_196 : q_LV RX1 196 mX4_hit 1 := ⟨okX4_hit, (qT5 164 rfl rfl), (qT4 103 rfl rfl), (qT4 104 rfl rfl)⟩
set_option maxRecDepth 20000 in
theorem lX1_199 : q_LV RX1 199 mX8_likelyOf 2 := ⟨okX8_likelyOf, (qT5 165 rfl rfl), (qT5 166 rfl rfl), (qT5 167 rfl rfl)⟩
set_option maxRecDepth 20000 in
theorem lL_145 : q_LV RL 145 mX11_bestDay 1 := ⟨okX11_bestDay, (qT5 169 rfl rfl), (qT5 170 rfl rfl), (qT5 171 rfl rfl)⟩
set_option maxRecDepth 20000 in
theorem lL_149 : q_LV RL 149 mX11_coins 2 := ⟨okX11_coins, (qT5 173 rfl rfl), (qT5 174 rfl rfl), (qT5 175 rfl rfl)⟩
set_option maxRecDepth 20000 in
theorem lX11_347 : q_LV RX11 347 mX4_partsFrom 1 := ⟨okX4_partsFrom, (qT5 177 rfl rfl), (qT4 47 rfl rfl), (qT4 48 rfl rfl)⟩
set_option maxRecDepth 20000 in
theorem lL_153 : q_LV RL 153 mX11_freeYear 1 := ⟨okX11_freeYear, (qT5 178 rfl rfl), (qT5 179 rfl rfl), (qT5 180 rfl rfl)⟩
set_option maxRecDepth 20000 in
theorem lX11_358 : q_LS RX11 358 mJ9_max_7cf53 2 := ⟨okJ9_max_7cf53, (qT5 182 rfl rfl), (qT2 50 rfl rfl)⟩
set_option maxRecDepth 20000 in
theorem lX11_361 : q_LV RX11 361 mX1_deadPay 3 := ⟨okX1_deadPay, (qT5 183 rfl rfl), (qT4 60 rfl rfl), (qT4 61 rfl rfl)⟩
set_option maxRecDepth 20000 in
theorem lL_157 : q_LV RL 157 mX11_allTurned 0 := ⟨okX11_allTurned, (qT5 184 rfl rfl), (qT5 185 rfl rfl), (qT5 186 rfl rfl)⟩
set_option maxRecDepth 20000 in
theorem lL_161 : q_LV RL 161 mX11_ranked 1 := ⟨okX11_ranked, (qT5 188 rfl rfl), (qT5 189 rfl rfl), (qT5 190 rfl rfl)⟩
set_option maxRecDepth 20000 in
theorem lL_165 : q_LV RL 165 mX11_fit 2 := ⟨okX11_fit, (qT5 192 rfl rfl), (qT5 193 rfl rfl), (qT5 194 rfl rfl)⟩
set_option maxRecDepth 20000 in
theorem lX11_380 : q_LV RX11 380 mX3_chooseFit 3 := ⟨okX3_chooseFit, (qT5 196 rfl rfl), (qT5 197 rfl rfl), (qT5 198 rfl rfl)⟩
set_option maxRecDepth 20000 in
theorem lX3_105 : q_LV RX3 105 mX3_digits 2 := ⟨okX3_digits, (qT5 200 rfl rfl), (qT5 202 rfl rfl), (q_w 24 (by decide +kernel) (by decide +kernel))⟩
set_option maxRecDepth 20000 in
theorem lX3_109 : q_LV RX3 109 mX3_arrange 3 := ⟨okX3_arrange, (qT5 204 rfl rfl), (qT5 206 rfl rfl), (q_w 25 (by decide +kernel) (by decide +kernel))⟩
set_option maxRecDepth 20000 in
theorem lX3_116 : q_LV RX3 116 mX10_shift 3 := ⟨okX10_shift, (qT5 208 rfl rfl), (qT5 151 rfl rfl), (qT5 152 rfl rfl)⟩
set_option maxRecDepth 20000 in
theorem lX3_120 : q_LV RX3 120 mX10_rank 0 := ⟨okX10_rank, (qT5 209 rfl rfl), (qT4 129 rfl rfl), (qT4 130 rfl rfl)⟩
set_option maxRecDepth 20000 in
theorem lL_169 : q_LV RL 169 mX11_piece 3 := ⟨okX11_piece, (qT5 210 rfl rfl), (qT5 211 rfl rfl), (qT5 212 rfl rfl)⟩
set_option maxRecDepth 20000 in
theorem lL_173 : q_LV RL 173 mX11_lastDay 2 := ⟨okX11_lastDay, (qT5 214 rfl rfl), (qT5 215 rfl rfl), (qT5 216 rfl rfl)⟩
set_option maxRecDepth 20000 in
theorem lX11_386 : q_LV RX11 386 mX11_dayIfSaved 3 := ⟨okX11_dayIfSaved, (qT5 218 rfl rfl), (qT5 220 rfl rfl), (q_w 26 (by decide +kernel) (by decide +kernel))⟩
set_option maxRecDepth 20000 in
theorem lL_177 : q_LV RL 177 mX11_cash 2 := ⟨okX11_cash, (qT5 222 rfl rfl), (qT5 223 rfl rfl), (qT5 224 rfl rfl)⟩
set_option maxRecDepth 20000 in
theorem lX11_389 : q_LV RX11 389 mX4_cashIn 1 := ⟨okX4_cashIn, (qT5 226 rfl rfl), (qT5 227 rfl rfl), (qT5 228 rfl rfl)⟩
set_option maxRecDepth 20000 in
theorem lL_181 : q_LV RL 181 mX11_allCash 1 := ⟨okX11_allCash, (qT5 230 rfl rfl), (qT5 231 rfl rfl), (qT5 232 rfl rfl)⟩
set_option maxRecDepth 20000 in
theorem lX11_392 : q_LV RX11 392 mX1_cashOfAll 1 := ⟨okX1_cashOfAll, (qT5 234 rfl rfl), (qT5 235 rfl rfl), (qT5 236 rfl rfl)⟩
set_option maxRecDepth 20000 in
theorem lX1_202 : q_LV RX1 202 mX4_cashIn 1 := ⟨okX4_cashIn, (qT5 238 rfl rfl), (qT5 227 rfl rfl), (qT5 228 rfl rfl)⟩
set_option maxRecDepth 20000 in
theorem lL_185 : q_LV RL 185 mX11_tag 1 := ⟨okX11_tag, (qT5 239 rfl rfl), (qT6 0 rfl rfl), (qT6 1 rfl rfl)⟩
set_option maxRecDepth 20000 in
theorem lL_189 : q_LV RL 189 mX11_counted 1 := ⟨okX11_counted, (qT6 3 rfl rfl), (qT6 4 rfl rfl), (qT6 5 rfl rfl)⟩
set_option maxRecDepth 20000 in
theorem lL_193 : q_LV RL 193 mX11_share 1 := ⟨okX11_share, (qT6 7 rfl rfl), (qT6 8 rfl rfl), (qT6 9 rfl rfl)⟩
set_option maxRecDepth 20000 in
theorem kX11_400 : Cond.constantLong RX11 400 (10000) ∈ q_tb := (qT6 11 rfl rfl)
set_option maxRecDepth 20000 in
theorem kX11_402 : Cond.constantLong RX11 402 (1000000000) ∈ q_tb := (qT6 12 rfl rfl)
set_option maxRecDepth 20000 in
theorem lX11_404 : q_LS RX11 404 mJ9_min_f86c9 2 := ⟨okJ9_min_f86c9, (qT6 13 rfl rfl), (qT6 14 rfl rfl)⟩
set_option maxRecDepth 20000 in
theorem lL_197 : q_LV RL 197 mX11_dearest 1 := ⟨okX11_dearest, (qT6 16 rfl rfl), (qT6 17 rfl rfl), (qT6 18 rfl rfl)⟩
set_option maxRecDepth 20000 in
theorem lL_201 : q_LV RL 201 mX11_offer 2 := ⟨okX11_offer, (qT6 20 rfl rfl), (qT6 21 rfl rfl), (qT6 22 rfl rfl)⟩
set_option maxRecDepth 20000 in
theorem lX11_411 : q_LV RX11 411 mX7_has 1 := ⟨okX7_has, (qT6 24 rfl rfl), (qT5 15 rfl rfl), (qT5 16 rfl rfl)⟩
set_option maxRecDepth 20000 in
theorem lX11_423 : q_LV RX11 423 mX7_hit 1 := ⟨okX7_hit, (qT6 25 rfl rfl), (qT6 26 rfl rfl), (qT6 27 rfl rfl)⟩
set_option maxRecDepth 20000 in
theorem lX7_34 : q_LS RX7 34 mX4_partOfMany 3 := ⟨okX4_partOfMany, (qT6 29 rfl rfl), (qT3 110 rfl rfl)⟩
set_option maxRecDepth 20000 in
theorem lL_205 : q_LV RL 205 mX11_buys 1 := ⟨okX11_buys, (qT6 30 rfl rfl), (qT6 31 rfl rfl), (qT6 32 rfl rfl)⟩
set_option maxRecDepth 20000 in
theorem lX11_424 : q_LV RX11 424 mX3_chooseOffers 2 := ⟨okX3_chooseOffers, (qT6 34 rfl rfl), (qT6 35 rfl rfl), (qT6 36 rfl rfl)⟩
set_option maxRecDepth 20000 in
theorem lX3_129 : q_LS RX3 129 mJ9_min_7cf53 2 := ⟨okJ9_min_7cf53, (qT6 38 rfl rfl), (qT3 86 rfl rfl)⟩
set_option maxRecDepth 20000 in
theorem lX3_134 : q_LV RX3 134 mX7_hit 1 := ⟨okX7_hit, (qT6 39 rfl rfl), (qT6 26 rfl rfl), (qT6 27 rfl rfl)⟩
set_option maxRecDepth 20000 in
theorem lL_209 : q_LV RL 209 mX11_promised 2 := ⟨okX11_promised, (qT6 40 rfl rfl), (qT6 41 rfl rfl), (qT6 42 rfl rfl)⟩
set_option maxRecDepth 20000 in
theorem lL_213 : q_LV RL 213 mX11_floor 2 := ⟨okX11_floor, (qT6 44 rfl rfl), (qT6 45 rfl rfl), (qT6 46 rfl rfl)⟩
set_option maxRecDepth 20000 in
theorem lL_217 : q_LV RL 217 mX11_over 1 := ⟨okX11_over, (qT6 48 rfl rfl), (qT6 49 rfl rfl), (qT6 50 rfl rfl)⟩
set_option maxRecDepth 20000 in
theorem lL_221 : q_LV RL 221 mX11_undo 0 := ⟨okX11_undo, (qT6 52 rfl rfl), (qT6 53 rfl rfl), (qT6 54 rfl rfl)⟩
set_option maxRecDepth 20000 in
theorem lX11_433 : q_LV RX11 433 mX6_pop 0 := ⟨okX6_pop, (qT6 56 rfl rfl), (qT6 57 rfl rfl), (qT6 58 rfl rfl)⟩
set_option maxRecDepth 20000 in
theorem lL_225 : q_LV RL 225 mX11_keep 1 := ⟨okX11_keep, (qT6 60 rfl rfl), (qT6 61 rfl rfl), (qT6 62 rfl rfl)⟩
set_option maxRecDepth 20000 in
theorem lL_230 : q_LV RL 230 mX11_restore 1 := ⟨okX11_restore, (qT6 64 rfl rfl), (qT6 65 rfl rfl), (qT6 66 rfl rfl)⟩
set_option maxRecDepth 20000 in
theorem lL_234 : q_LV RL 234 mX11_write 0 := ⟨okX11_write, (qT6 68 rfl rfl), (qT6 69 rfl rfl), (qT6 70 rfl rfl)⟩
set_option maxRecDepth 20000 in
theorem lX11_437 : q_LV RX11 437 mX2_add 1 := ⟨okX2_add, (qT6 72 rfl rfl), (qT2 228 rfl rfl), (qT2 229 rfl rfl)⟩
set_option maxRecDepth 20000 in
theorem lX11_439 : q_LV RX11 439 mX2_addNumber 1 := ⟨okX2_addNumber, (qT6 73 rfl rfl), (qT6 74 rfl rfl), (qT6 75 rfl rfl)⟩
set_option maxRecDepth 20000 in
theorem kX2_29 : Cond.constant RX2 29 (zi (100000)) ∈ q_tb := (qT6 77 rfl rfl)
set_option maxRecDepth 20000 in
theorem lL_238 : q_LV RL 238 mX11_octet 1 := ⟨okX11_octet, (qT6 78 rfl rfl), (qT6 79 rfl rfl), (qT6 80 rfl rfl)⟩
set_option maxRecDepth 20000 in
theorem lX11_442 : q_LV RX11 442 mX2_at 1 := ⟨okX2_at, (qT6 82 rfl rfl), (qT3 47 rfl rfl), (qT3 48 rfl rfl)⟩
set_option maxRecDepth 20000 in
theorem kL_10 : Cond.classLink RL 10 RX12 ∈ q_tb := (qT6 83 rfl rfl)
set_option maxRecDepth 20000 in
theorem nL_10 : q_LN RL 10 12 27 := ⟨RX12, TX12, q_ClX12, kL_10, (qT6 84 rfl rfl), (qT1 14 rfl rfl), by decide +kernel⟩
set_option maxRecDepth 20000 in
theorem lL_12 : q_LI RL 12 mX12_init 0 := ⟨okX12_init, (qT6 85 rfl rfl), (qT6 86 rfl rfl), rfl, rfl⟩
set_option maxRecDepth 20000 in
theorem lX12_7 : Cond.methodLink RX12 7 Lib.objectInit ∈ q_tb := (qT6 88 rfl rfl)
set_option maxRecDepth 20000 in
theorem kX12_13 : Cond.constant RX12 13 (zi (44880)) ∈ q_tb := (qT6 89 rfl rfl)
set_option maxRecDepth 20000 in
theorem kX12_60 : Cond.constant RX12 60 (zi (100000)) ∈ q_tb := (qT6 90 rfl rfl)
set_option maxRecDepth 20000 in
theorem fX12_3 : q_F RX12 3 12 0 27 true := ⟨RX12, TX12, q_ClX12, by decide, (qT6 91 rfl rfl), rfl⟩
set_option maxRecDepth 20000 in
theorem fX12_61 : q_F RX12 61 12 1 27 false := ⟨RX12, TX12, q_ClX12, by decide, (qT6 92 rfl rfl), rfl⟩
set_option maxRecDepth 20000 in
theorem fX12_14 : q_F RX12 14 12 2 27 true := ⟨RX12, TX12, q_ClX12, by decide, (qT6 93 rfl rfl), rfl⟩
set_option maxRecDepth 20000 in
theorem fX12_18 : q_F RX12 18 12 3 27 true := ⟨RX12, TX12, q_ClX12, by decide, (qT6 94 rfl rfl), rfl⟩
set_option maxRecDepth 20000 in
theorem fX12_76 : q_F RX12 76 12 4 27 false := ⟨RX12, TX12, q_ClX12, by decide, (qT6 95 rfl rfl), rfl⟩
set_option maxRecDepth 20000 in
theorem fX12_82 : q_F RX12 82 12 5 27 false := ⟨RX12, TX12, q_ClX12, by decide, (qT6 96 rfl rfl), rfl⟩
set_option maxRecDepth 20000 in
theorem fX12_22 : q_F RX12 22 12 6 27 false := ⟨RX12, TX12, q_ClX12, by decide, (qT6 97 rfl rfl), rfl⟩
set_option maxRecDepth 20000 in
theorem fX12_93 : q_F RX12 93 12 7 27 false := ⟨RX12, TX12, q_ClX12, by decide, (qT6 98 rfl rfl), rfl⟩
set_option maxRecDepth 20000 in
theorem fX12_26 : q_F RX12 26 12 8 27 true := ⟨RX12, TX12, q_ClX12, by decide, (qT6 99 rfl rfl), rfl⟩
set_option maxRecDepth 20000 in
theorem fX12_29 : q_F RX12 29 12 9 27 true := ⟨RX12, TX12, q_ClX12, by decide, (qT6 100 rfl rfl), rfl⟩
set_option maxRecDepth 20000 in
theorem fX12_162 : q_F RX12 162 12 10 27 false := ⟨RX12, TX12, q_ClX12, by decide, (qT6 101 rfl rfl), rfl⟩
set_option maxRecDepth 20000 in
theorem fX12_165 : q_F RX12 165 12 11 27 false := ⟨RX12, TX12, q_ClX12, by decide, (qT6 102 rfl rfl), rfl⟩
set_option maxRecDepth 20000 in
theorem fX12_175 : q_F RX12 175 12 12 27 false := ⟨RX12, TX12, q_ClX12, by decide, (qT6 103 rfl rfl), rfl⟩
set_option maxRecDepth 20000 in
theorem fX12_178 : q_F RX12 178 12 13 27 false := ⟨RX12, TX12, q_ClX12, by decide, (qT6 104 rfl rfl), rfl⟩
set_option maxRecDepth 20000 in
theorem fX12_32 : q_F RX12 32 12 14 27 true := ⟨RX12, TX12, q_ClX12, by decide, (qT6 105 rfl rfl), rfl⟩
set_option maxRecDepth 20000 in
theorem fX12_36 : q_F RX12 36 12 15 27 true := ⟨RX12, TX12, q_ClX12, by decide, (qT6 106 rfl rfl), rfl⟩
set_option maxRecDepth 20000 in
theorem fX12_39 : q_F RX12 39 12 16 27 true := ⟨RX12, TX12, q_ClX12, by decide, (qT6 107 rfl rfl), rfl⟩
set_option maxRecDepth 20000 in
theorem fX12_42 : q_F RX12 42 12 17 27 true := ⟨RX12, TX12, q_ClX12, by decide, (qT6 108 rfl rfl), rfl⟩
set_option maxRecDepth 20000 in
theorem fX12_45 : q_F RX12 45 12 18 27 true := ⟨RX12, TX12, q_ClX12, by decide, (qT6 109 rfl rfl), rfl⟩
set_option maxRecDepth 20000 in
theorem fX12_272 : q_F RX12 272 12 19 27 false := ⟨RX12, TX12, q_ClX12, by decide, (qT6 110 rfl rfl), rfl⟩
set_option maxRecDepth 20000 in
theorem fX12_48 : q_F RX12 48 12 20 27 true := ⟨RX12, TX12, q_ClX12, by decide, (qT6 111 rfl rfl), rfl⟩
set_option maxRecDepth 20000 in
theorem fX12_333 : q_F RX12 333 12 21 27 false := ⟨RX12, TX12, q_ClX12, by decide, (qT6 112 rfl rfl), rfl⟩
set_option maxRecDepth 20000 in
theorem fX12_51 : q_F RX12 51 12 22 27 true := ⟨RX12, TX12, q_ClX12, by decide, (qT6 113 rfl rfl), rfl⟩
set_option maxRecDepth 20000 in
theorem fX12_366 : q_F RX12 366 12 23 27 false := ⟨RX12, TX12, q_ClX12, by decide, (qT6 114 rfl rfl), rfl⟩
set_option maxRecDepth 20000 in
theorem fX12_54 : q_F RX12 54 12 24 27 false := ⟨RX12, TX12, q_ClX12, by decide, (qT6 115 rfl rfl), rfl⟩
set_option maxRecDepth 20000 in
theorem fX12_57 : q_F RX12 57 12 25 27 true := ⟨RX12, TX12, q_ClX12, by decide, (qT6 116 rfl rfl), rfl⟩
set_option maxRecDepth 20000 in
theorem fX12_387 : q_F RX12 387 12 26 27 false := ⟨RX12, TX12, q_ClX12, by decide, (qT6 117 rfl rfl), rfl⟩
set_option maxRecDepth 20000 in
theorem lL_224 : q_LV RL 224 mX12_undo 0 := ⟨okX12_undo, (qT6 173 rfl rfl), (qT6 174 rfl rfl), (qT6 175 rfl rfl)⟩
set_option maxRecDepth 20000 in
theorem lX12_64 : q_LV RX12 64 mX12_copyRow 2 := ⟨okX12_copyRow, (qT6 177 rfl rfl), (qT6 179 rfl rfl), (q_w 27 (by decide +kernel) (by decide +kernel))⟩
set_option maxRecDepth 20000 in
theorem lL_229 : q_LV RL 229 mX12_keep 1 := ⟨okX12_keep, (qT6 181 rfl rfl), (qT6 182 rfl rfl), (qT6 183 rfl rfl)⟩
set_option maxRecDepth 20000 in
theorem lX12_68 : q_LS RX12 68 mX12_isIn 3 := ⟨okX12_isIn, (qT6 185 rfl rfl), (qT6 186 rfl rfl)⟩
set_option maxRecDepth 20000 in
theorem lL_233 : q_LV RL 233 mX12_restore 1 := ⟨okX12_restore, (qT6 188 rfl rfl), (qT6 189 rfl rfl), (qT6 190 rfl rfl)⟩
set_option maxRecDepth 20000 in
theorem lX12_72 : q_LV RX12 72 mX12_deedOf 1 := ⟨okX12_deedOf, (qT6 192 rfl rfl), (qT6 194 rfl rfl), (q_w 28 (by decide +kernel) (by decide +kernel))⟩
set_option maxRecDepth 20000 in
theorem lL_17 : q_LV RL 17 mX12_feed 5 := ⟨okX12_feed, (qT6 196 rfl rfl), (qT6 197 rfl rfl), (qT6 198 rfl rfl)⟩
set_option maxRecDepth 20000 in
theorem lX12_79 : q_LV RX12 79 mX12_four 1 := ⟨okX12_four, (qT6 200 rfl rfl), (qT6 202 rfl rfl), (q_w 29 (by decide +kernel) (by decide +kernel))⟩
set_option maxRecDepth 20000 in
theorem lL_22 : q_LV RL 22 mX12_end 1 := ⟨okX12_end, (qT6 204 rfl rfl), (qT6 205 rfl rfl), (qT6 206 rfl rfl)⟩
set_option maxRecDepth 20000 in
theorem lL_43 : q_LV RL 43 mX12_fault 0 := ⟨okX12_fault, (qT6 208 rfl rfl), (qT6 209 rfl rfl), (qT6 210 rfl rfl)⟩
set_option maxRecDepth 20000 in
theorem lL_35 : q_LV RL 35 mX12_market 0 := ⟨okX12_market, (qT6 212 rfl rfl), (qT6 213 rfl rfl), (qT6 214 rfl rfl)⟩
set_option maxRecDepth 20000 in
theorem lX12_150 : q_LV RX12 150 mX12_beginText 0 := ⟨okX12_beginText, (qT6 216 rfl rfl), (qT6 218 rfl rfl), (q_w 30 (by decide +kernel) (by decide +kernel))⟩
set_option maxRecDepth 20000 in
theorem lX12_153 : q_LV RX12 153 mX12_readOffer 0 := ⟨okX12_readOffer, (qT6 220 rfl rfl), (qT6 222 rfl rfl), (q_w 31 (by decide +kernel) (by decide +kernel))⟩
set_option maxRecDepth 20000 in
theorem lX12_89 : q_LV RX12 89 mX12_fails 1 := ⟨okX12_fails, (qT6 224 rfl rfl), (qT6 226 rfl rfl), (q_w 32 (by decide +kernel) (by decide +kernel))⟩
set_option maxRecDepth 20000 in
theorem lX12_107 : q_LV RX12 107 mX12_reads 3 := ⟨okX12_reads, (qT6 228 rfl rfl), (qT6 230 rfl rfl), (q_w 33 (by decide +kernel) (by decide +kernel))⟩
set_option maxRecDepth 20000 in
theorem lX12_99 : q_LV RX12 99 mX12_readNumber 2 := ⟨okX12_readNumber, (qT6 232 rfl rfl), (qT6 234 rfl rfl), (q_w 34 (by decide +kernel) (by decide +kernel))⟩
set_option maxRecDepth 20000 in
theorem lX12_85 : q_LV RX12 85 mX12_here 0 := ⟨okX12_here, (qT6 236 rfl rfl), (qT6 238 rfl rfl), (q_w 35 (by decide +kernel) (by decide +kernel))⟩
set_option maxRecDepth 20000 in
theorem lX12_96 : q_LS RX12 96 mX12_isFigure 1 := ⟨okX12_isFigure, (qT7 0 rfl rfl), (qT7 1 rfl rfl)⟩
set_option maxRecDepth 20000 in
theorem lX12_103 : q_LV RX12 103 mX12_takes 1 := ⟨okX12_takes, (qT7 3 rfl rfl), (qT7 5 rfl rfl), (q_w 36 (by decide +kernel) (by decide +kernel))⟩
set_option maxRecDepth 20000 in
theorem kX12_135 : Cond.constant RX12 135 (zi (99999)) ∈ q_tb := (qT7 7 rfl rfl)
set_option maxRecDepth 20000 in
theorem lX12_156 : q_LV RX12 156 mX12_ends 0 := ⟨okX12_ends, (qT7 8 rfl rfl), (qT7 10 rfl rfl), (q_w 37 (by decide +kernel) (by decide +kernel))⟩
set_option maxRecDepth 20000 in
theorem lL_27 : q_LV RL 27 mX12_text 0 := ⟨okX12_text, (qT7 12 rfl rfl), (qT7 13 rfl rfl), (qT7 14 rfl rfl)⟩
set_option maxRecDepth 20000 in
theorem lX12_159 : q_LV RX12 159 mX12_readItem 0 := ⟨okX12_readItem, (qT7 16 rfl rfl), (qT7 18 rfl rfl), (q_w 38 (by decide +kernel) (by decide +kernel))⟩
set_option maxRecDepth 20000 in
theorem lX12_140 : q_LV RX12 140 mX12_readLimit 0 := ⟨okX12_readLimit, (qT7 20 rfl rfl), (qT7 22 rfl rfl), (q_w 39 (by decide +kernel) (by decide +kernel))⟩
set_option maxRecDepth 20000 in
theorem kX12_106 : Cond.constant RX12 106 (zi (999999)) ∈ q_tb := (qT7 24 rfl rfl)
set_option maxRecDepth 20000 in
theorem lX12_144 : q_LV RX12 144 mX12_readDays 0 := ⟨okX12_readDays, (qT7 25 rfl rfl), (qT7 27 rfl rfl), (q_w 40 (by decide +kernel) (by decide +kernel))⟩
set_option maxRecDepth 20000 in
theorem lX12_147 : q_LV RX12 147 mX12_readContract 0 := ⟨okX12_readContract, (qT7 29 rfl rfl), (qT7 31 rfl rfl), (q_w 41 (by decide +kernel) (by decide +kernel))⟩
set_option maxRecDepth 20000 in
theorem lX12_111 : q_LS RX12 111 mX12_placeOf 2 := ⟨okX12_placeOf, (qT7 33 rfl rfl), (qT7 34 rfl rfl)⟩
set_option maxRecDepth 20000 in
theorem lX12_115 : q_LV RX12 115 mX12_of 2 := ⟨okX12_of, (qT7 36 rfl rfl), (qT7 38 rfl rfl), (q_w 42 (by decide +kernel) (by decide +kernel))⟩
set_option maxRecDepth 20000 in
theorem lX12_122 : q_LS RX12 122 mX12_lesser 2 := ⟨okX12_lesser, (qT7 40 rfl rfl), (qT7 41 rfl rfl)⟩
set_option maxRecDepth 20000 in
theorem lX12_132 : q_LV RX12 132 mX12_endOf 1 := ⟨okX12_endOf, (qT7 43 rfl rfl), (qT7 45 rfl rfl), (q_w 43 (by decide +kernel) (by decide +kernel))⟩
set_option maxRecDepth 20000 in
theorem lX12_136 : q_LV RX12 136 mX12_spreads 3 := ⟨okX12_spreads, (qT7 47 rfl rfl), (qT7 49 rfl rfl), (q_w 44 (by decide +kernel) (by decide +kernel))⟩
set_option maxRecDepth 20000 in
theorem lX12_125 : q_LV RX12 125 mX12_partsFrom 2 := ⟨okX12_partsFrom, (qT7 51 rfl rfl), (qT7 53 rfl rfl), (q_w 45 (by decide +kernel) (by decide +kernel))⟩
set_option maxRecDepth 20000 in
theorem lX12_118 : q_LV RX12 118 mX12_lastOf 1 := ⟨okX12_lastOf, (qT7 55 rfl rfl), (qT7 57 rfl rfl), (q_w 46 (by decide +kernel) (by decide +kernel))⟩
set_option maxRecDepth 20000 in
theorem lX12_128 : q_LS RX12 128 mX12_pieceOf 3 := ⟨okX12_pieceOf, (qT7 59 rfl rfl), (qT7 60 rfl rfl)⟩
set_option maxRecDepth 20000 in
theorem lL_31 : q_LV RL 31 mX12_policy 0 := ⟨okX12_policy, (qT7 62 rfl rfl), (qT7 63 rfl rfl), (qT7 64 rfl rfl)⟩
set_option maxRecDepth 20000 in
theorem lX12_197 : q_LV RX12 197 mX12_readSum 0 := ⟨okX12_readSum, (qT7 66 rfl rfl), (qT7 68 rfl rfl), (q_w 47 (by decide +kernel) (by decide +kernel))⟩
set_option maxRecDepth 20000 in
theorem lX12_191 : q_LV RX12 191 mX12_readThing 0 := ⟨okX12_readThing, (qT7 70 rfl rfl), (qT7 72 rfl rfl), (q_w 48 (by decide +kernel) (by decide +kernel))⟩
set_option maxRecDepth 20000 in
theorem lX12_181 : q_LV RX12 181 mX12_waitsFor 1 := ⟨okX12_waitsFor, (qT7 74 rfl rfl), (qT7 76 rfl rfl), (q_w 49 (by decide +kernel) (by decide +kernel))⟩
set_option maxRecDepth 20000 in
theorem lX12_184 : q_LS RX12 184 mX12_nameOf 1 := ⟨okX12_nameOf, (qT7 78 rfl rfl), (qT7 79 rfl rfl)⟩
set_option maxRecDepth 20000 in
theorem lX12_172 : q_LV RX12 172 mX12_does 1 := ⟨okX12_does, (qT7 81 rfl rfl), (qT7 83 rfl rfl), (q_w 50 (by decide +kernel) (by decide +kernel))⟩
set_option maxRecDepth 20000 in
theorem kX12_187 : Cond.constant RX12 187 (zi (1000000)) ∈ q_tb := (qT7 85 rfl rfl)
set_option maxRecDepth 20000 in
theorem lX12_194 : q_LV RX12 194 mX12_closes 0 := ⟨okX12_closes, (qT7 86 rfl rfl), (qT7 88 rfl rfl), (q_w 51 (by decide +kernel) (by decide +kernel))⟩
set_option maxRecDepth 20000 in
theorem lX12_188 : q_LV RX12 188 mX12_doesWaiting 1 := ⟨okX12_doesWaiting, (qT7 90 rfl rfl), (qT7 92 rfl rfl), (q_w 52 (by decide +kernel) (by decide +kernel))⟩
set_option maxRecDepth 20000 in
theorem lX12_168 : q_LS RX12 168 mX12_rankOf 1 := ⟨okX12_rankOf, (qT7 94 rfl rfl), (qT7 95 rfl rfl)⟩
set_option maxRecDepth 20000 in
theorem kX12_171 : Cond.constant RX12 171 (zi (2000000)) ∈ q_tb := (qT7 97 rfl rfl)
set_option maxRecDepth 20000 in
theorem lL_77 : q_LV RL 77 mX12_now 1 := ⟨okX12_now, (qT7 98 rfl rfl), (qT7 99 rfl rfl), (qT7 100 rfl rfl)⟩
set_option maxRecDepth 20000 in
theorem kX12_245 : Cond.constant RX12 245 (zi (-1000000000)) ∈ q_tb := (qT7 102 rfl rfl)
set_option maxRecDepth 20000 in
theorem lX12_241 : q_LV RX12 241 mX12_countOf 3 := ⟨okX12_countOf, (qT7 103 rfl rfl), (qT7 105 rfl rfl), (q_w 53 (by decide +kernel) (by decide +kernel))⟩
set_option maxRecDepth 20000 in
theorem lX12_233 : q_LV RX12 233 mX12_layHits 3 := ⟨okX12_layHits, (qT7 107 rfl rfl), (qT7 109 rfl rfl), (q_w 54 (by decide +kernel) (by decide +kernel))⟩
set_option maxRecDepth 20000 in
theorem lX12_209 : q_LV RX12 209 mX12_isOpen 1 := ⟨okX12_isOpen, (qT7 111 rfl rfl), (qT7 113 rfl rfl), (q_w 55 (by decide +kernel) (by decide +kernel))⟩
set_option maxRecDepth 20000 in
theorem lX12_227 : q_LV RX12 227 mX12_mostOf 1 := ⟨okX12_mostOf, (qT7 115 rfl rfl), (qT7 117 rfl rfl), (q_w 56 (by decide +kernel) (by decide +kernel))⟩
set_option maxRecDepth 20000 in
theorem lX12_224 : q_LS RX12 224 mX12_greater 2 := ⟨okX12_greater, (qT7 119 rfl rfl), (qT7 120 rfl rfl)⟩
set_option maxRecDepth 20000 in
theorem lX12_230 : q_LV RX12 230 mX12_hitOf 2 := ⟨okX12_hitOf, (qT7 122 rfl rfl), (qT7 124 rfl rfl), (q_w 57 (by decide +kernel) (by decide +kernel))⟩
set_option maxRecDepth 20000 in
theorem lX12_218 : q_LV RX12 218 mX12_deadNow 2 := ⟨okX12_deadNow, (qT7 126 rfl rfl), (qT7 128 rfl rfl), (q_w 58 (by decide +kernel) (by decide +kernel))⟩
set_option maxRecDepth 20000 in
theorem lX12_212 : q_LV RX12 212 mX12_partsBehind 2 := ⟨okX12_partsBehind, (qT7 130 rfl rfl), (qT7 132 rfl rfl), (q_w 59 (by decide +kernel) (by decide +kernel))⟩
set_option maxRecDepth 20000 in
theorem lX12_215 : q_LV RX12 215 mX12_sureOf 2 := ⟨okX12_sureOf, (qT7 134 rfl rfl), (qT7 136 rfl rfl), (q_w 60 (by decide +kernel) (by decide +kernel))⟩
set_option maxRecDepth 20000 in
theorem lX12_237 : q_LV RX12 237 mX12_promisesOf 4 := ⟨okX12_promisesOf, (qT7 138 rfl rfl), (qT7 140 rfl rfl), (q_w 61 (by decide +kernel) (by decide +kernel))⟩
set_option maxRecDepth 20000 in
theorem lX12_246 : q_LV RX12 246 mX12_roomOf 2 := ⟨okX12_roomOf, (qT7 142 rfl rfl), (qT7 144 rfl rfl), (q_w 62 (by decide +kernel) (by decide +kernel))⟩
set_option maxRecDepth 20000 in
theorem lL_55 : q_LV RL 55 mX12_is 1 := ⟨okX12_is, (qT7 146 rfl rfl), (qT7 147 rfl rfl), (qT7 148 rfl rfl)⟩
set_option maxRecDepth 20000 in
theorem lX12_250 : q_LV RX12 250 mX12_howMany 1 := ⟨okX12_howMany, (qT7 150 rfl rfl), (qT7 152 rfl rfl), (q_w 63 (by decide +kernel) (by decide +kernel))⟩
set_option maxRecDepth 20000 in
theorem lL_59 : q_LV RL 59 mX12_limit 1 := ⟨okX12_limit, (qT7 154 rfl rfl), (qT7 155 rfl rfl), (qT7 156 rfl rfl)⟩
set_option maxRecDepth 20000 in
theorem lX12_253 : q_LS RX12 253 mX12_isYear 1 := ⟨okX12_isYear, (qT7 158 rfl rfl), (qT7 159 rfl rfl)⟩
set_option maxRecDepth 20000 in
theorem kX12_204 : Cond.constantLong RX12 204 (19) ∈ q_tb := (qT7 161 rfl rfl)
set_option maxRecDepth 20000 in
theorem lL_63 : q_LV RL 63 mX12_dead 1 := ⟨okX12_dead, (qT7 162 rfl rfl), (qT7 163 rfl rfl), (qT7 164 rfl rfl)⟩
set_option maxRecDepth 20000 in
theorem lL_68 : q_LV RL 68 mX12_contract 2 := ⟨okX12_contract, (qT7 166 rfl rfl), (qT7 167 rfl rfl), (qT7 168 rfl rfl)⟩
set_option maxRecDepth 20000 in
theorem lX12_206 : q_LV RX12 206 mX12_isContract 1 := ⟨okX12_isContract, (qT7 170 rfl rfl), (qT7 172 rfl rfl), (q_w 64 (by decide +kernel) (by decide +kernel))⟩
set_option maxRecDepth 20000 in
theorem kX12_256 : Cond.constantLong RX12 256 (7) ∈ q_tb := (qT7 174 rfl rfl)
set_option maxRecDepth 20000 in
theorem lX12_258 : q_LV RX12 258 mX12_yearsLeft 1 := ⟨okX12_yearsLeft, (qT7 175 rfl rfl), (qT7 177 rfl rfl), (q_w 65 (by decide +kernel) (by decide +kernel))⟩
set_option maxRecDepth 20000 in
theorem lL_73 : q_LV RL 73 mX12_pay 3 := ⟨okX12_pay, (qT7 179 rfl rfl), (qT7 180 rfl rfl), (qT7 181 rfl rfl)⟩
set_option maxRecDepth 20000 in
theorem lL_81 : q_LV RL 81 mX12_would 2 := ⟨okX12_would, (qT7 183 rfl rfl), (qT7 184 rfl rfl), (qT7 185 rfl rfl)⟩
set_option maxRecDepth 20000 in
theorem lX12_261 : q_LV RX12 261 mX12_canCut 1 := ⟨okX12_canCut, (qT7 187 rfl rfl), (qT7 189 rfl rfl), (q_w 66 (by decide +kernel) (by decide +kernel))⟩
set_option maxRecDepth 20000 in
theorem kX12_264 : Cond.constantLong RX12 264 (3) ∈ q_tb := (qT7 191 rfl rfl)
set_option maxRecDepth 20000 in
theorem lX12_221 : q_LV RX12 221 mX12_deadLater 2 := ⟨okX12_deadLater, (qT7 192 rfl rfl), (qT7 194 rfl rfl), (q_w 67 (by decide +kernel) (by decide +kernel))⟩
set_option maxRecDepth 20000 in
theorem lX12_266 : q_LV RX12 266 mX12_deadInAll 1 := ⟨okX12_deadInAll, (qT7 196 rfl rfl), (qT7 198 rfl rfl), (q_w 68 (by decide +kernel) (by decide +kernel))⟩
set_option maxRecDepth 20000 in
theorem lX12_269 : q_LV RX12 269 mX12_savedOn 2 := ⟨okX12_savedOn, (qT7 200 rfl rfl), (qT7 202 rfl rfl), (q_w 69 (by decide +kernel) (by decide +kernel))⟩
set_option maxRecDepth 20000 in
theorem lL_51 : q_LV RL 51 mX12_why 0 := ⟨okX12_why, (qT7 204 rfl rfl), (qT7 205 rfl rfl), (qT7 206 rfl rfl)⟩
set_option maxRecDepth 20000 in
theorem lL_85 : q_LV RL 85 mX12_cut 1 := ⟨okX12_cut, (qT7 208 rfl rfl), (qT7 209 rfl rfl), (qT7 210 rfl rfl)⟩
set_option maxRecDepth 20000 in
theorem lX12_278 : q_LV RX12 278 mX12_whyNot 1 := ⟨okX12_whyNot, (qT7 212 rfl rfl), (qT7 214 rfl rfl), (q_w 70 (by decide +kernel) (by decide +kernel))⟩
set_option maxRecDepth 20000 in
theorem lX12_281 : q_LV RX12 281 mX12_refuses 1 := ⟨okX12_refuses, (qT7 216 rfl rfl), (qT7 218 rfl rfl), (q_w 71 (by decide +kernel) (by decide +kernel))⟩
set_option maxRecDepth 20000 in
theorem lX12_284 : q_LV RX12 284 mX12_cuts 1 := ⟨okX12_cuts, (qT7 220 rfl rfl), (qT7 222 rfl rfl), (q_w 72 (by decide +kernel) (by decide +kernel))⟩
set_option maxRecDepth 20000 in
theorem lX12_275 : q_LV RX12 275 mX12_closesFor 2 := ⟨okX12_closesFor, (qT7 224 rfl rfl), (qT7 226 rfl rfl), (q_w 73 (by decide +kernel) (by decide +kernel))⟩
set_option maxRecDepth 20000 in
theorem lL_89 : q_LV RL 89 mX12_trade 1 := ⟨okX12_trade, (qT7 228 rfl rfl), (qT7 229 rfl rfl), (qT7 230 rfl rfl)⟩
set_option maxRecDepth 20000 in
theorem lL_98 : q_LV RL 98 mX12_promise 4 := ⟨okX12_promise, (qT7 232 rfl rfl), (qT7 233 rfl rfl), (qT7 234 rfl rfl)⟩
set_option maxRecDepth 20000 in
theorem kX12_287 : Cond.constantLong RX12 287 (99999) ∈ q_tb := (qT7 236 rfl rfl)
set_option maxRecDepth 20000 in
theorem lL_102 : q_LV RL 102 mX12_earn 1 := ⟨okX12_earn, (qT7 237 rfl rfl), (qT7 238 rfl rfl), (qT7 239 rfl rfl)⟩
set_option maxRecDepth 20000 in
theorem lX12_289 : q_LV RX12 289 mX12_isPromise 1 := ⟨okX12_isPromise, (qT8 1 rfl rfl), (qT8 3 rfl rfl), (q_w 74 (by decide +kernel) (by decide +kernel))⟩
set_option maxRecDepth 20000 in
theorem lL_212 : q_LV RL 212 mX12_promised 2 := ⟨okX12_promised, (qT8 5 rfl rfl), (qT8 6 rfl rfl), (qT8 7 rfl rfl)⟩
set_option maxRecDepth 20000 in
theorem kX12_292 : Cond.constantLong RX12 292 (4) ∈ q_tb := (qT8 9 rfl rfl)
set_option maxRecDepth 20000 in
theorem lL_204 : q_LV RL 204 mX12_offer 2 := ⟨okX12_offer, (qT8 10 rfl rfl), (qT8 11 rfl rfl), (qT8 12 rfl rfl)⟩
set_option maxRecDepth 20000 in
theorem lX12_294 : q_LV RX12 294 mX12_isOffer 1 := ⟨okX12_isOffer, (qT8 14 rfl rfl), (qT8 16 rfl rfl), (q_w 75 (by decide +kernel) (by decide +kernel))⟩
set_option maxRecDepth 20000 in
theorem lX12_297 : q_LV RX12 297 mX12_hitOfOffer 1 := ⟨okX12_hitOfOffer, (qT8 18 rfl rfl), (qT8 20 rfl rfl), (q_w 76 (by decide +kernel) (by decide +kernel))⟩
set_option maxRecDepth 20000 in
theorem lL_208 : q_LV RL 208 mX12_buys 1 := ⟨okX12_buys, (qT8 22 rfl rfl), (qT8 23 rfl rfl), (qT8 24 rfl rfl)⟩
set_option maxRecDepth 20000 in
theorem kX12_300 : Cond.constantLong RX12 300 (2) ∈ q_tb := (qT8 26 rfl rfl)
set_option maxRecDepth 20000 in
theorem lX12_302 : q_LS RX12 302 mX12_bits 1 := ⟨okX12_bits, (qT8 27 rfl rfl), (qT8 28 rfl rfl)⟩
set_option maxRecDepth 20000 in
theorem lL_93 : q_LV RL 93 mX12_sign 1 := ⟨okX12_sign, (qT8 30 rfl rfl), (qT8 31 rfl rfl), (qT8 32 rfl rfl)⟩
set_option maxRecDepth 20000 in
theorem lX12_305 : q_LV RX12 305 mX12_whyNotSign 1 := ⟨okX12_whyNotSign, (qT8 34 rfl rfl), (qT8 36 rfl rfl), (q_w 77 (by decide +kernel) (by decide +kernel))⟩
set_option maxRecDepth 20000 in
theorem lL_106 : q_LV RL 106 mX12_turn 2 := ⟨okX12_turn, (qT8 38 rfl rfl), (qT8 39 rfl rfl), (qT8 40 rfl rfl)⟩
set_option maxRecDepth 20000 in
theorem lX12_308 : q_LV RX12 308 mX12_whyNotLess 2 := ⟨okX12_whyNotLess, (qT8 42 rfl rfl), (qT8 44 rfl rfl), (q_w 78 (by decide +kernel) (by decide +kernel))⟩
set_option maxRecDepth 20000 in
theorem lL_115 : q_LV RL 115 mX12_lower 2 := ⟨okX12_lower, (qT8 46 rfl rfl), (qT8 47 rfl rfl), (qT8 48 rfl rfl)⟩
set_option maxRecDepth 20000 in
theorem lL_111 : q_LV RL 111 mX12_longer 4 := ⟨okX12_longer, (qT8 50 rfl rfl), (qT8 51 rfl rfl), (qT8 52 rfl rfl)⟩
set_option maxRecDepth 20000 in
theorem lX12_313 : q_LV RX12 313 mX12_whyNotLonger 4 := ⟨okX12_whyNotLonger, (qT8 54 rfl rfl), (qT8 56 rfl rfl), (q_w 79 (by decide +kernel) (by decide +kernel))⟩
set_option maxRecDepth 20000 in
theorem kX12_311 : Cond.constantLong RX12 311 (5) ∈ q_tb := (qT8 58 rfl rfl)
set_option maxRecDepth 20000 in
theorem lL_119 : q_LV RL 119 mX12_days 1 := ⟨okX12_days, (qT8 59 rfl rfl), (qT8 60 rfl rfl), (qT8 61 rfl rfl)⟩
set_option maxRecDepth 20000 in
theorem lL_123 : q_LV RL 123 mX12_year 0 := ⟨okX12_year, (qT8 63 rfl rfl), (qT8 64 rfl rfl), (qT8 65 rfl rfl)⟩
set_option maxRecDepth 20000 in
theorem lL_128 : q_LV RL 128 mX12_says 1 := ⟨okX12_says, (qT8 67 rfl rfl), (qT8 68 rfl rfl), (qT8 69 rfl rfl)⟩
set_option maxRecDepth 20000 in
theorem lX12_320 : q_LV RX12 320 mX12_saysOf 1 := ⟨okX12_saysOf, (qT8 71 rfl rfl), (qT8 73 rfl rfl), (q_w 80 (by decide +kernel) (by decide +kernel))⟩
set_option maxRecDepth 20000 in
theorem lX12_316 : q_LV RX12 316 mX12_worth 0 := ⟨okX12_worth, (qT8 75 rfl rfl), (qT8 77 rfl rfl), (q_w 81 (by decide +kernel) (by decide +kernel))⟩
set_option maxRecDepth 20000 in
theorem lX12_200 : q_LS RX12 200 mX12_joined 3 := ⟨okX12_joined, (qT8 79 rfl rfl), (qT8 80 rfl rfl)⟩
set_option maxRecDepth 20000 in
theorem kX12_324 : Cond.constantLong RX12 324 (-1000000000000) ∈ q_tb := (qT8 82 rfl rfl)
set_option maxRecDepth 20000 in
theorem lL_132 : q_LV RL 132 mX12_byPolicy 1 := ⟨okX12_byPolicy, (qT8 83 rfl rfl), (qT8 84 rfl rfl), (qT8 85 rfl rfl)⟩
set_option maxRecDepth 20000 in
theorem lX12_330 : q_LS RX12 330 mX12_isGoal 1 := ⟨okX12_isGoal, (qT8 87 rfl rfl), (qT8 88 rfl rfl)⟩
set_option maxRecDepth 20000 in
theorem kX12_326 : Cond.constantLong RX12 326 (-999999) ∈ q_tb := (qT8 90 rfl rfl)
set_option maxRecDepth 20000 in
theorem kX12_328 : Cond.constantLong RX12 328 (999999) ∈ q_tb := (qT8 91 rfl rfl)
set_option maxRecDepth 20000 in
theorem lL_136 : q_LV RL 136 mX12_set 2 := ⟨okX12_set, (qT8 92 rfl rfl), (qT8 93 rfl rfl), (qT8 94 rfl rfl)⟩
set_option maxRecDepth 20000 in
theorem lX12_336 : q_LV RX12 336 mX12_laySome 1 := ⟨okX12_laySome, (qT8 96 rfl rfl), (qT8 98 rfl rfl), (q_w 82 (by decide +kernel) (by decide +kernel))⟩
set_option maxRecDepth 20000 in
theorem lX12_339 : q_LV RX12 339 mX12_deadOf 1 := ⟨okX12_deadOf, (qT8 100 rfl rfl), (qT8 102 rfl rfl), (q_w 83 (by decide +kernel) (by decide +kernel))⟩
set_option maxRecDepth 20000 in
theorem lX12_342 : q_LV RX12 342 mX12_contractsOf 1 := ⟨okX12_contractsOf, (qT8 104 rfl rfl), (qT8 106 rfl rfl), (q_w 84 (by decide +kernel) (by decide +kernel))⟩
set_option maxRecDepth 20000 in
theorem lL_168 : q_LV RL 168 mX12_fit 2 := ⟨okX12_fit, (qT8 108 rfl rfl), (qT8 109 rfl rfl), (qT8 110 rfl rfl)⟩
set_option maxRecDepth 20000 in
theorem lL_140 : q_LV RL 140 mX12_turned 2 := ⟨okX12_turned, (qT8 112 rfl rfl), (qT8 113 rfl rfl), (qT8 114 rfl rfl)⟩
set_option maxRecDepth 20000 in
theorem lL_160 : q_LV RL 160 mX12_allTurned 0 := ⟨okX12_allTurned, (qT8 116 rfl rfl), (qT8 117 rfl rfl), (qT8 118 rfl rfl)⟩
set_option maxRecDepth 20000 in
theorem lL_172 : q_LV RL 172 mX12_piece 3 := ⟨okX12_piece, (qT8 120 rfl rfl), (qT8 121 rfl rfl), (qT8 122 rfl rfl)⟩
set_option maxRecDepth 20000 in
theorem lL_144 : q_LV RL 144 mX12_ahead 1 := ⟨okX12_ahead, (qT8 124 rfl rfl), (qT8 125 rfl rfl), (qT8 126 rfl rfl)⟩
set_option maxRecDepth 20000 in
theorem lL_220 : q_LV RL 220 mX12_over 1 := ⟨okX12_over, (qT8 128 rfl rfl), (qT8 129 rfl rfl), (qT8 130 rfl rfl)⟩
set_option maxRecDepth 20000 in
theorem kX12_345 : Cond.constantLong RX12 345 (10) ∈ q_tb := (qT8 132 rfl rfl)
set_option maxRecDepth 20000 in
theorem lX12_347 : q_LV RX12 347 mX12_ahead 1 := ⟨okX12_ahead, (qT8 133 rfl rfl), (qT8 125 rfl rfl), (qT8 126 rfl rfl)⟩
set_option maxRecDepth 20000 in
theorem lL_148 : q_LV RL 148 mX12_bestDay 1 := ⟨okX12_bestDay, (qT8 134 rfl rfl), (qT8 135 rfl rfl), (qT8 136 rfl rfl)⟩
set_option maxRecDepth 20000 in
theorem lL_176 : q_LV RL 176 mX12_lastDay 2 := ⟨okX12_lastDay, (qT8 138 rfl rfl), (qT8 139 rfl rfl), (qT8 140 rfl rfl)⟩
set_option maxRecDepth 20000 in
theorem lL_156 : q_LV RL 156 mX12_freeYear 1 := ⟨okX12_freeYear, (qT8 142 rfl rfl), (qT8 143 rfl rfl), (qT8 144 rfl rfl)⟩
set_option maxRecDepth 20000 in
theorem lL_152 : q_LV RL 152 mX12_coins 2 := ⟨okX12_coins, (qT8 146 rfl rfl), (qT8 147 rfl rfl), (qT8 148 rfl rfl)⟩
set_option maxRecDepth 20000 in
theorem lL_180 : q_LV RL 180 mX12_cash 2 := ⟨okX12_cash, (qT8 150 rfl rfl), (qT8 151 rfl rfl), (qT8 152 rfl rfl)⟩
set_option maxRecDepth 20000 in
theorem lX12_350 : q_LV RX12 350 mX12_cashOf 2 := ⟨okX12_cashOf, (qT8 154 rfl rfl), (qT8 156 rfl rfl), (q_w 85 (by decide +kernel) (by decide +kernel))⟩
set_option maxRecDepth 20000 in
theorem lL_184 : q_LV RL 184 mX12_allCash 1 := ⟨okX12_allCash, (qT8 158 rfl rfl), (qT8 159 rfl rfl), (qT8 160 rfl rfl)⟩
set_option maxRecDepth 20000 in
theorem lL_216 : q_LV RL 216 mX12_floor 2 := ⟨okX12_floor, (qT8 162 rfl rfl), (qT8 163 rfl rfl), (qT8 164 rfl rfl)⟩
set_option maxRecDepth 20000 in
theorem lX12_353 : q_LV RX12 353 mX12_allCash 1 := ⟨okX12_allCash, (qT8 166 rfl rfl), (qT8 159 rfl rfl), (qT8 160 rfl rfl)⟩
set_option maxRecDepth 20000 in
theorem lL_164 : q_LV RL 164 mX12_ranked 1 := ⟨okX12_ranked, (qT8 167 rfl rfl), (qT8 168 rfl rfl), (qT8 169 rfl rfl)⟩
set_option maxRecDepth 20000 in
theorem lX12_356 : q_LV RX12 356 mX12_placed 2 := ⟨okX12_placed, (qT8 171 rfl rfl), (qT8 173 rfl rfl), (q_w 86 (by decide +kernel) (by decide +kernel))⟩
set_option maxRecDepth 20000 in
theorem lL_200 : q_LV RL 200 mX12_dearest 1 := ⟨okX12_dearest, (qT8 175 rfl rfl), (qT8 176 rfl rfl), (qT8 177 rfl rfl)⟩
set_option maxRecDepth 20000 in
theorem lL_188 : q_LV RL 188 mX12_tag 1 := ⟨okX12_tag, (qT8 179 rfl rfl), (qT8 180 rfl rfl), (qT8 181 rfl rfl)⟩
set_option maxRecDepth 20000 in
theorem kX12_359 : Cond.constantLong RX12 359 (40) ∈ q_tb := (qT8 183 rfl rfl)
set_option maxRecDepth 20000 in
theorem lL_192 : q_LV RL 192 mX12_counted 1 := ⟨okX12_counted, (qT8 184 rfl rfl), (qT8 185 rfl rfl), (qT8 186 rfl rfl)⟩
set_option maxRecDepth 20000 in
theorem lL_196 : q_LV RL 196 mX12_share 1 := ⟨okX12_share, (qT8 188 rfl rfl), (qT8 189 rfl rfl), (qT8 190 rfl rfl)⟩
set_option maxRecDepth 20000 in
theorem kX12_361 : Cond.constantLong RX12 361 (10000) ∈ q_tb := (qT8 192 rfl rfl)
set_option maxRecDepth 20000 in
theorem kX12_363 : Cond.constantLong RX12 363 (1000000000) ∈ q_tb := (qT8 193 rfl rfl)
set_option maxRecDepth 20000 in
theorem kX12_365 : Cond.constant RX12 365 (zi (1000000000)) ∈ q_tb := (qT8 194 rfl rfl)
set_option maxRecDepth 20000 in
theorem lL_39 : q_LV RL 39 mX12_acts 0 := ⟨okX12_acts, (qT8 195 rfl rfl), (qT8 196 rfl rfl), (qT8 197 rfl rfl)⟩
set_option maxRecDepth 20000 in
theorem lX12_381 : q_LV RX12 381 mX12_readAct 0 := ⟨okX12_readAct, (qT8 199 rfl rfl), (qT8 201 rfl rfl), (q_w 87 (by decide +kernel) (by decide +kernel))⟩
set_option maxRecDepth 20000 in
theorem lX12_384 : q_LV RX12 384 mX12_doAct 1 := ⟨okX12_doAct, (qT8 203 rfl rfl), (qT8 205 rfl rfl), (q_w 88 (by decide +kernel) (by decide +kernel))⟩
set_option maxRecDepth 20000 in
theorem lX12_369 : q_LV RX12 369 mX12_cut 1 := ⟨okX12_cut, (qT8 207 rfl rfl), (qT7 209 rfl rfl), (qT7 210 rfl rfl)⟩
set_option maxRecDepth 20000 in
theorem lX12_372 : q_LV RX12 372 mX12_turn 2 := ⟨okX12_turn, (qT8 208 rfl rfl), (qT8 39 rfl rfl), (qT8 40 rfl rfl)⟩
set_option maxRecDepth 20000 in
theorem lX12_375 : q_LV RX12 375 mX12_days 1 := ⟨okX12_days, (qT8 209 rfl rfl), (qT8 60 rfl rfl), (qT8 61 rfl rfl)⟩
set_option maxRecDepth 20000 in
theorem lX12_378 : q_LV RX12 378 mX12_year 0 := ⟨okX12_year, (qT8 210 rfl rfl), (qT8 64 rfl rfl), (qT8 65 rfl rfl)⟩
set_option maxRecDepth 20000 in
theorem lL_47 : q_LV RL 47 mX12_ended 0 := ⟨okX12_ended, (qT8 211 rfl rfl), (qT8 212 rfl rfl), (qT8 213 rfl rfl)⟩
set_option maxRecDepth 20000 in
theorem lL_237 : q_LV RL 237 mX12_write 0 := ⟨okX12_write, (qT8 215 rfl rfl), (qT8 216 rfl rfl), (qT8 217 rfl rfl)⟩
set_option maxRecDepth 20000 in
theorem lX12_390 : q_LV RX12 390 mX12_writes 1 := ⟨okX12_writes, (qT8 219 rfl rfl), (qT8 221 rfl rfl), (q_w 89 (by decide +kernel) (by decide +kernel))⟩
set_option maxRecDepth 20000 in
theorem lX12_393 : q_LV RX12 393 mX12_writeNumber 2 := ⟨okX12_writeNumber, (qT8 223 rfl rfl), (qT8 225 rfl rfl), (q_w 90 (by decide +kernel) (by decide +kernel))⟩
set_option maxRecDepth 20000 in
theorem lL_241 : q_LV RL 241 mX12_octet 1 := ⟨okX12_octet, (qT8 227 rfl rfl), (qT8 228 rfl rfl), (qT8 229 rfl rfl)⟩
set_option maxRecDepth 20000 in
theorem a_int : Cond.arrayClass .int ∈ q_tb := (qT1 75 rfl rfl)
set_option maxRecDepth 20000 in
theorem a_boolean : Cond.arrayClass .boolean ∈ q_tb := (qT1 76 rfl rfl)
set_option maxRecDepth 20000 in
theorem a_long : Cond.arrayClass .long ∈ q_tb := (qT1 134 rfl rfl)
set_option maxRecDepth 20000 in
theorem a_byte : Cond.arrayClass .byte ∈ q_tb := (qT3 218 rfl rfl)
set_option maxRecDepth 20000 in
theorem o_inst : Cond.instanceMethod Lib.objectInit ∈ q_tb := (qT1 27 rfl rfl)
set_option maxRecDepth 20000 in
theorem o_code : Cond.code Lib.objectInit ⟨#[0xb1]⟩ 1 none ∈ q_tb := (qT1 28 rfl rfl)
