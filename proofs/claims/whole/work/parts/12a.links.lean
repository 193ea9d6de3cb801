theorem q_w {w : Cond} (i : Nat) (h : lw_tbl[i]? = some w) (hg : goodWord w = true) : w ∈ q_tb := List.mem_filter.mpr ⟨List.mem_of_getElem? h, hg⟩
theorem qT1 {w : Cond} (i : Nat) (h : tables_1_1[i]? = some w) (hg : goodWord w = true) : w ∈ q_tb := by
  have h := List.mem_of_getElem? h
  exact List.mem_filter.mpr ⟨List.mem_append_right _ (List.mem_append_left _ h), hg⟩
theorem qT2 {w : Cond} (i : Nat) (h : tables_1_2[i]? = some w) (hg : goodWord w = true) : w ∈ q_tb := by
  have h := List.mem_of_getElem? h
  exact List.mem_filter.mpr ⟨List.mem_append_right _ (List.mem_append_right _ (List.mem_append_left _ h)), hg⟩
theorem qT3 {w : Cond} (i : Nat) (h : tables_1_3[i]? = some w) (hg : goodWord w = true) : w ∈ q_tb := by
  have h := List.mem_of_getElem? h
  exact List.mem_filter.mpr ⟨List.mem_append_right _ (List.mem_append_right _ (List.mem_append_right _ (List.mem_append_left _ h))), hg⟩
theorem qT4 {w : Cond} (i : Nat) (h : tables_1_4[i]? = some w) (hg : goodWord w = true) : w ∈ q_tb := by
  have h := List.mem_of_getElem? h
  exact List.mem_filter.mpr ⟨List.mem_append_right _ (List.mem_append_right _ (List.mem_append_right _ (List.mem_append_right _ (List.mem_append_left _ h)))), hg⟩
theorem qT5 {w : Cond} (i : Nat) (h : tables_1_5[i]? = some w) (hg : goodWord w = true) : w ∈ q_tb := by
  have h := List.mem_of_getElem? h
  exact List.mem_filter.mpr ⟨List.mem_append_right _ (List.mem_append_right _ (List.mem_append_right _ (List.mem_append_right _ (List.mem_append_right _ (List.mem_append_left _ h))))), hg⟩
theorem qT6 {w : Cond} (i : Nat) (h : tables_1_6[i]? = some w) (hg : goodWord w = true) : w ∈ q_tb := by
  have h := List.mem_of_getElem? h
  exact List.mem_filter.mpr ⟨List.mem_append_right _ (List.mem_append_right _ (List.mem_append_right _ (List.mem_append_right _ (List.mem_append_right _ (List.mem_append_right _ (List.mem_append_left _ h)))))), hg⟩
theorem qT7 {w : Cond} (i : Nat) (h : tables_1_7[i]? = some w) (hg : goodWord w = true) : w ∈ q_tb := by
  have h := List.mem_of_getElem? h
  exact List.mem_filter.mpr ⟨List.mem_append_right _ (List.mem_append_right _ (List.mem_append_right _ (List.mem_append_right _ (List.mem_append_right _ (List.mem_append_right _ (List.mem_append_right _ (List.mem_append_left _ h))))))), hg⟩
theorem qT8 {w : Cond} (i : Nat) (h : tables_1_8[i]? = some w) (hg : goodWord w = true) : w ∈ q_tb := by
  have h := List.mem_of_getElem? h
  exact List.mem_filter.mpr ⟨List.mem_append_right _ (List.mem_append_right _ (List.mem_append_right _ (List.mem_append_right _ (List.mem_append_right _ (List.mem_append_right _ (List.mem_append_right _ (List.mem_append_right _ h))))))), hg⟩
theorem q_wn {a b : String} {j : Nat} {x : MethodName} (i : Nat) (h : lw_tbl[i]? = some (.methodLinkNest a j x b)) : Cond.methodLinkNest a j x b ∈ q_nest := List.mem_filter.mpr ⟨List.mem_of_getElem? h, rfl⟩
set_option maxRecDepth 20000 in
theorem q_inX0 : ∀ w ∈ u_ws RX0 TX0 4, w ∈ q_tb := by
  intro w hw
  obtain ⟨k, hk, rfl⟩ := List.mem_map.mp hw
  have hk := List.mem_range.mp hk
  match k, hk with
  | 0, _ => exact (qT2 91 rfl rfl)
  | 1, _ => exact (qT2 93 rfl rfl)
  | 2, _ => exact (qT2 95 rfl rfl)
  | 3, _ => exact (qT2 97 rfl rfl)
  | k + 4, hk => omega
theorem q_ClX0 : q_Cl 0 RX0 TX0 4 := ⟨rfl, by decide, q_inX0, tyX0_ok, nmX0, by decide +kernel⟩
set_option maxRecDepth 20000 in
theorem q_inX1 : ∀ w ∈ u_ws RX1 TX1 14, w ∈ q_tb := by
  intro w hw
  obtain ⟨k, hk, rfl⟩ := List.mem_map.mp hw
  have hk := List.mem_range.mp hk
  match k, hk with
  | 0, _ => exact (qT1 229 rfl rfl)
  | 1, _ => exact (qT1 231 rfl rfl)
  | 2, _ => exact (qT1 233 rfl rfl)
  | 3, _ => exact (qT1 235 rfl rfl)
  | 4, _ => exact (qT1 237 rfl rfl)
  | 5, _ => exact (qT1 239 rfl rfl)
  | 6, _ => exact (qT2 1 rfl rfl)
  | 7, _ => exact (qT2 3 rfl rfl)
  | 8, _ => exact (qT2 5 rfl rfl)
  | 9, _ => exact (qT2 7 rfl rfl)
  | 10, _ => exact (qT2 9 rfl rfl)
  | 11, _ => exact (qT2 11 rfl rfl)
  | 12, _ => exact (qT2 13 rfl rfl)
  | 13, _ => exact (qT2 15 rfl rfl)
  | k + 14, hk => omega
theorem q_ClX1 : q_Cl 1 RX1 TX1 14 := ⟨rfl, by decide, q_inX1, tyX1_ok, nmX1, by decide +kernel⟩
set_option maxRecDepth 20000 in
theorem q_inX2 : ∀ w ∈ u_ws RX2 TX2 2, w ∈ q_tb := by
  intro w hw
  obtain ⟨k, hk, rfl⟩ := List.mem_map.mp hw
  have hk := List.mem_range.mp hk
  match k, hk with
  | 0, _ => exact (qT2 56 rfl rfl)
  | 1, _ => exact (qT2 58 rfl rfl)
  | k + 2, hk => omega
theorem q_ClX2 : q_Cl 2 RX2 TX2 2 := ⟨rfl, by decide, q_inX2, tyX2_ok, nmX2, by decide +kernel⟩
set_option maxRecDepth 20000 in
theorem q_inX3 : ∀ w ∈ u_ws RX3 TX3 13, w ∈ q_tb := by
  intro w hw
  obtain ⟨k, hk, rfl⟩ := List.mem_map.mp hw
  have hk := List.mem_range.mp hk
  match k, hk with
  | 0, _ => exact (qT2 155 rfl rfl)
  | 1, _ => exact (qT2 157 rfl rfl)
  | 2, _ => exact (qT2 159 rfl rfl)
  | 3, _ => exact (qT2 161 rfl rfl)
  | 4, _ => exact (qT2 163 rfl rfl)
  | 5, _ => exact (qT2 165 rfl rfl)
  | 6, _ => exact (qT2 167 rfl rfl)
  | 7, _ => exact (qT2 169 rfl rfl)
  | 8, _ => exact (qT2 171 rfl rfl)
  | 9, _ => exact (qT2 173 rfl rfl)
  | 10, _ => exact (qT2 175 rfl rfl)
  | 11, _ => exact (qT2 177 rfl rfl)
  | 12, _ => exact (qT2 179 rfl rfl)
  | k + 13, hk => omega
theorem q_ClX3 : q_Cl 3 RX3 TX3 13 := ⟨rfl, by decide, q_inX3, tyX3_ok, nmX3, by decide +kernel⟩
set_option maxRecDepth 20000 in
theorem q_inX4 : ∀ w ∈ u_ws RX4 TX4 10, w ∈ q_tb := by
  intro w hw
  obtain ⟨k, hk, rfl⟩ := List.mem_map.mp hw
  have hk := List.mem_range.mp hk
  match k, hk with
  | 0, _ => exact (qT1 162 rfl rfl)
  | 1, _ => exact (qT1 164 rfl rfl)
  | 2, _ => exact (qT1 166 rfl rfl)
  | 3, _ => exact (qT1 168 rfl rfl)
  | 4, _ => exact (qT1 170 rfl rfl)
  | 5, _ => exact (qT1 172 rfl rfl)
  | 6, _ => exact (qT1 174 rfl rfl)
  | 7, _ => exact (qT1 176 rfl rfl)
  | 8, _ => exact (qT1 178 rfl rfl)
  | 9, _ => exact (qT1 180 rfl rfl)
  | k + 10, hk => omega
theorem q_ClX4 : q_Cl 4 RX4 TX4 10 := ⟨rfl, by decide, q_inX4, tyX4_ok, nmX4, by decide +kernel⟩
set_option maxRecDepth 20000 in
theorem q_inX5 : ∀ w ∈ u_ws RX5 TX5 6, w ∈ q_tb := by
  intro w hw
  obtain ⟨k, hk, rfl⟩ := List.mem_map.mp hw
  have hk := List.mem_range.mp hk
  match k, hk with
  | 0, _ => exact (qT1 121 rfl rfl)
  | 1, _ => exact (qT1 123 rfl rfl)
  | 2, _ => exact (qT1 125 rfl rfl)
  | 3, _ => exact (qT1 127 rfl rfl)
  | 4, _ => exact (qT1 129 rfl rfl)
  | 5, _ => exact (qT1 131 rfl rfl)
  | k + 6, hk => omega
theorem q_ClX5 : q_Cl 5 RX5 TX5 6 := ⟨rfl, by decide, q_inX5, tyX5_ok, nmX5, by decide +kernel⟩
set_option maxRecDepth 20000 in
theorem q_inX6 : ∀ w ∈ u_ws RX6 TX6 3, w ∈ q_tb := by
  intro w hw
  obtain ⟨k, hk, rfl⟩ := List.mem_map.mp hw
  have hk := List.mem_range.mp hk
  match k, hk with
  | 0, _ => exact (qT2 30 rfl rfl)
  | 1, _ => exact (qT2 32 rfl rfl)
  | 2, _ => exact (qT2 34 rfl rfl)
  | k + 3, hk => omega
theorem q_ClX6 : q_Cl 6 RX6 TX6 3 := ⟨rfl, by decide, q_inX6, tyX6_ok, nmX6, by decide +kernel⟩
set_option maxRecDepth 20000 in
theorem q_inX7 : ∀ w ∈ u_ws RX7 TX7 5, w ∈ q_tb := by
  intro w hw
  obtain ⟨k, hk, rfl⟩ := List.mem_map.mp hw
  have hk := List.mem_range.mp hk
  match k, hk with
  | 0, _ => exact (qT1 97 rfl rfl)
  | 1, _ => exact (qT1 99 rfl rfl)
  | 2, _ => exact (qT1 101 rfl rfl)
  | 3, _ => exact (qT1 103 rfl rfl)
  | 4, _ => exact (qT1 105 rfl rfl)
  | k + 5, hk => omega
theorem q_ClX7 : q_Cl 7 RX7 TX7 5 := ⟨rfl, by decide, q_inX7, tyX7_ok, nmX7, by decide +kernel⟩
set_option maxRecDepth 20000 in
theorem q_inX8 : ∀ w ∈ u_ws RX8 TX8 6, w ∈ q_tb := by
  intro w hw
  obtain ⟨k, hk, rfl⟩ := List.mem_map.mp hw
  have hk := List.mem_range.mp hk
  match k, hk with
  | 0, _ => exact (qT1 62 rfl rfl)
  | 1, _ => exact (qT1 64 rfl rfl)
  | 2, _ => exact (qT1 66 rfl rfl)
  | 3, _ => exact (qT1 68 rfl rfl)
  | 4, _ => exact (qT1 70 rfl rfl)
  | 5, _ => exact (qT1 72 rfl rfl)
  | k + 6, hk => omega
theorem q_ClX8 : q_Cl 8 RX8 TX8 6 := ⟨rfl, by decide, q_inX8, tyX8_ok, nmX8, by decide +kernel⟩
set_option maxRecDepth 20000 in
theorem q_inX9 : ∀ w ∈ u_ws RX9 TX9 3, w ∈ q_tb := by
  intro w hw
  obtain ⟨k, hk, rfl⟩ := List.mem_map.mp hw
  have hk := List.mem_range.mp hk
  match k, hk with
  | 0, _ => exact (qT2 68 rfl rfl)
  | 1, _ => exact (qT2 70 rfl rfl)
  | 2, _ => exact (qT2 72 rfl rfl)
  | k + 3, hk => omega
theorem q_ClX9 : q_Cl 9 RX9 TX9 3 := ⟨rfl, by decide, q_inX9, tyX9_ok, nmX9, by decide +kernel⟩
set_option maxRecDepth 20000 in
theorem q_inX10 : ∀ w ∈ u_ws RX10 TX10 6, w ∈ q_tb := by
  intro w hw
  obtain ⟨k, hk, rfl⟩ := List.mem_map.mp hw
  have hk := List.mem_range.mp hk
  match k, hk with
  | 0, _ => exact (qT2 118 rfl rfl)
  | 1, _ => exact (qT2 120 rfl rfl)
  | 2, _ => exact (qT2 122 rfl rfl)
  | 3, _ => exact (qT2 124 rfl rfl)
  | 4, _ => exact (qT2 126 rfl rfl)
  | 5, _ => exact (qT2 128 rfl rfl)
  | k + 6, hk => omega
theorem q_ClX10 : q_Cl 10 RX10 TX10 6 := ⟨rfl, by decide, q_inX10, tyX10_ok, nmX10, by decide +kernel⟩
set_option maxRecDepth 20000 in
theorem q_inX11 : ∀ w ∈ u_ws RX11 TX11 12, w ∈ q_tb := by
  intro w hw
  obtain ⟨k, hk, rfl⟩ := List.mem_map.mp hw
  have hk := List.mem_range.mp hk
  match k, hk with
  | 0, _ => exact (qT2 194 rfl rfl)
  | 1, _ => exact (qT2 196 rfl rfl)
  | 2, _ => exact (qT2 198 rfl rfl)
  | 3, _ => exact (qT2 200 rfl rfl)
  | 4, _ => exact (qT2 202 rfl rfl)
  | 5, _ => exact (qT2 204 rfl rfl)
  | 6, _ => exact (qT2 206 rfl rfl)
  | 7, _ => exact (qT2 208 rfl rfl)
  | 8, _ => exact (qT2 210 rfl rfl)
  | 9, _ => exact (qT2 212 rfl rfl)
  | 10, _ => exact (qT2 214 rfl rfl)
  | 11, _ => exact (qT2 216 rfl rfl)
  | k + 12, hk => omega
theorem q_ClX11 : q_Cl 11 RX11 TX11 12 := ⟨rfl, by decide, q_inX11, tyX11_ok, nmX11, by decide +kernel⟩
set_option maxRecDepth 20000 in
theorem q_inX12 : ∀ w ∈ u_ws RX12 TX12 27, w ∈ q_tb := by
  intro w hw
  obtain ⟨k, hk, rfl⟩ := List.mem_map.mp hw
  have hk := List.mem_range.mp hk
  match k, hk with
  | 0, _ => exact (qT6 118 rfl rfl)
  | 1, _ => exact (qT6 120 rfl rfl)
  | 2, _ => exact (qT6 122 rfl rfl)
  | 3, _ => exact (qT6 124 rfl rfl)
  | 4, _ => exact (qT6 126 rfl rfl)
  | 5, _ => exact (qT6 128 rfl rfl)
  | 6, _ => exact (qT6 130 rfl rfl)
  | 7, _ => exact (qT6 132 rfl rfl)
  | 8, _ => exact (qT6 134 rfl rfl)
  | 9, _ => exact (qT6 136 rfl rfl)
  | 10, _ => exact (qT6 138 rfl rfl)
  | 11, _ => exact (qT6 140 rfl rfl)
  | 12, _ => exact (qT6 142 rfl rfl)
  | 13, _ => exact (qT6 144 rfl rfl)
  | 14, _ => exact (qT6 146 rfl rfl)
  | 15, _ => exact (qT6 148 rfl rfl)
  | 16, _ => exact (qT6 150 rfl rfl)
  | 17, _ => exact (qT6 152 rfl rfl)
  | 18, _ => exact (qT6 154 rfl rfl)
  | 19, _ => exact (qT6 156 rfl rfl)
  | 20, _ => exact (qT6 158 rfl rfl)
  | 21, _ => exact (qT6 160 rfl rfl)
  | 22, _ => exact (qT6 162 rfl rfl)
  | 23, _ => exact (qT6 164 rfl rfl)
  | 24, _ => exact (qT6 166 rfl rfl)
  | 25, _ => exact (qT6 168 rfl rfl)
  | 26, _ => exact (qT6 170 rfl rfl)
  | k + 27, hk => omega
theorem q_ClX12 : q_Cl 12 RX12 TX12 27 := ⟨rfl, by decide, q_inX12, tyX12_ok, nmX12, by decide +kernel⟩
abbrev mX11_init : q_M := (yX11_init, cX11_init, 1, none)
abbrev mX1_init : q_M := (yX1_init, cX1_init, 2, none)
abbrev mX8_init : q_M := (yX8_init, cX8_init, 1, none)
abbrev mX7_init : q_M := (yX7_init, cX7_init, 1, none)
abbrev mX5_init : q_M := (yX5_init, cX5_init, 1, none)
abbrev mX4_init : q_M := (yX4_init, cX4_init, 1, none)
abbrev mX6_init : q_M := (yX6_init, cX6_init, 1, none)
abbrev mX9_init : q_M := (yX9_init, cX9_init, 1, none)
abbrev mX2_init : q_M := (yX2_init, cX2_init, 2, none)
abbrev mJ9_max_7cf53 : q_M := (yJ9_max_7cf53, cJ9_max_7cf53, 2, (some .int))
abbrev mX0_init : q_M := (yX0_init, cX0_init, 1, none)
abbrev mX10_init : q_M := (yX10_init, cX10_init, 1, none)
abbrev mX3_init : q_M := (yX3_init, cX3_init, 1, none)
abbrev mX11_feed : q_M := (yX11_feed, cX11_feed, 7, (some .int))
abbrev mX2_addWord : q_M := (yX2_addWord, cX2_addWord, 2, none)
abbrev mX2_add : q_M := (yX2_add, cX2_add, 2, none)
abbrev mX11_end : q_M := (yX11_end, cX11_end, 2, (some .int))
abbrev mX11_text : q_M := (yX11_text, cX11_text, 1, (some .int))
abbrev mX1_copyFrom : q_M := (yX1_copyFrom, cX1_copyFrom, 3, none)
abbrev mX4_copyFrom : q_M := (yX4_copyFrom, cX4_copyFrom, 2, none)
abbrev mX8_copyFrom : q_M := (yX8_copyFrom, cX8_copyFrom, 2, none)
abbrev mX7_copyFrom : q_M := (yX7_copyFrom, cX7_copyFrom, 2, none)
abbrev mX5_copyFrom : q_M := (yX5_copyFrom, cX5_copyFrom, 2, none)
abbrev mX9_begin : q_M := (yX9_begin, cX9_begin, 1, none)
abbrev mX9_readItems : q_M := (yX9_readItems, cX9_readItems, 4, (some .int))
abbrev mX9_hasMore : q_M := (yX9_hasMore, cX9_hasMore, 1, (some .boolean))
abbrev mX9_readItem : q_M := (yX9_readItem, cX9_readItem, 3, none)
abbrev mX9_peek : q_M := (yX9_peek, cX9_peek, 1, (some .int))
abbrev mX2_at : q_M := (yX2_at, cX2_at, 2, (some .int))
abbrev mX9_fail : q_M := (yX9_fail, cX9_fail, 2, none)
abbrev mX9_skip : q_M := (yX9_skip, cX9_skip, 1, none)
abbrev mX9_readLimit : q_M := (yX9_readLimit, cX9_readLimit, 4, none)
abbrev mX9_numberAndComma : q_M := (yX9_numberAndComma, cX9_numberAndComma, 4, (some .int))
abbrev mX9_number : q_M := (yX9_number, cX9_number, 6, (some .int))
abbrev mX9_isDigit : q_M := (yX9_isDigit, cX9_isDigit, 1, (some .boolean))
abbrev mX9_expect : q_M := (yX9_expect, cX9_expect, 2, none)
abbrev mX11_isYear : q_M := (yX11_isYear, cX11_isYear, 1, (some .boolean))
abbrev mX9_readContract : q_M := (yX9_readContract, cX9_readContract, 10, none)
abbrev mJ9_min_7cf53 : q_M := (yJ9_min_7cf53, cJ9_min_7cf53, 2, (some .int))
abbrev mX1_addContract : q_M := (yX1_addContract, cX1_addContract, 1, (some (.object "DeadCap$Contract")))
abbrev mX4_start : q_M := (yX4_start, cX4_start, 6, none)
abbrev mX4_spread : q_M := (yX4_spread, cX4_spread, 5, none)
abbrev mX4_partOf : q_M := (yX4_partOf, cX4_partOf, 4, (some .int))
abbrev mX4_lastYear : q_M := (yX4_lastYear, cX4_lastYear, 1, (some .int))
abbrev mX4_partOfMany : q_M := (yX4_partOfMany, cX4_partOfMany, 4, (some .int))
abbrev mX4_putPay : q_M := (yX4_putPay, cX4_putPay, 4, none)
abbrev mX11_takeDraft : q_M := (yX11_takeDraft, cX11_takeDraft, 3, (some .int))
abbrev mX9_finish : q_M := (yX9_finish, cX9_finish, 1, (some .int))
abbrev mX6_push : q_M := (yX6_push, cX6_push, 3, none)
abbrev mX11_policy : q_M := (yX11_policy, cX11_policy, 1, (some .int))
abbrev mX5_read : q_M := (yX5_read, cX5_read, 8, (some .int))
abbrev mX5_hold : q_M := (yX5_hold, cX5_hold, 2, none)
abbrev mX5_readThing : q_M := (yX5_readThing, cX5_readThing, 3, none)
abbrev mX5_placeOf : q_M := (yX5_placeOf, cX5_placeOf, 2, (some .int))
abbrev mJ0_charAt_5068e : q_M := (yJ0_charAt_5068e, cJ0_charAt_5068e, 2, (some .char))
abbrev mJ0_isLatin1_aae02 : q_M := (yJ0_isLatin1_aae02, cJ0_isLatin1_aae02, 1, (some .boolean))
abbrev mJ1_charAt_3b067 : q_M := (yJ1_charAt_3b067, cJ1_charAt_3b067, 2, (some .char))
abbrev mJ0_checkIndex_df160 : q_M := (yJ0_checkIndex_df160, cJ0_checkIndex_df160, 2, none)
abbrev mJ3_checkIndex_8e157 : q_M := (yJ3_checkIndex_8e157, cJ3_checkIndex_8e157, 3, (some .int))
abbrev mJ2_charAt_3b067 : q_M := (yJ2_charAt_3b067, cJ2_charAt_3b067, 2, (some .char))
abbrev mJ2_checkIndex_2214a : q_M := (yJ2_checkIndex_2214a, cJ2_checkIndex_2214a, 2, none)
abbrev mJ2_length_9d52b : q_M := (yJ2_length_9d52b, cJ2_length_9d52b, 1, (some .int))
abbrev mJ2_getChar_3b067 : q_M := (yJ2_getChar_3b067, cJ2_getChar_3b067, 2, (some .char))
abbrev mX5_emit : q_M := (yX5_emit, cX5_emit, 2, none)
abbrev mX5_closeBracket : q_M := (yX5_closeBracket, cX5_closeBracket, 1, none)
abbrev mX5_emitWaiting : q_M := (yX5_emitWaiting, cX5_emitWaiting, 4, none)
abbrev mX5_strength : q_M := (yX5_strength, cX5_strength, 1, (some .int))
abbrev mX5_readOperator : q_M := (yX5_readOperator, cX5_readOperator, 3, none)
abbrev mX11_market : q_M := (yX11_market, cX11_market, 1, (some .int))
abbrev mX7_read : q_M := (yX7_read, cX7_read, 4, (some .int))
abbrev mX11_acts : q_M := (yX11_acts, cX11_acts, 2, (some .int))
abbrev mX0_read : q_M := (yX0_read, cX0_read, 3, none)
abbrev mX0_readAct : q_M := (yX0_readAct, cX0_readAct, 4, none)
abbrev mX11_perform : q_M := (yX11_perform, cX11_perform, 3, (some .boolean))
abbrev mX11_letGo : q_M := (yX11_letGo, cX11_letGo, 3, (some .int))
abbrev mX1_refusal : q_M := (yX1_refusal, cX1_refusal, 3, (some .int))
abbrev mX1_find : q_M := (yX1_find, cX1_find, 2, (some (.object "DeadCap$Contract")))
abbrev mX4_isOpen : q_M := (yX4_isOpen, cX4_isOpen, 1, (some .boolean))
abbrev mX1_release : q_M := (yX1_release, cX1_release, 4, none)
abbrev mX1_findBegun : q_M := (yX1_findBegun, cX1_findBegun, 2, (some (.object "DeadCap$Contract")))
abbrev mX1_deadPartsNow : q_M := (yX1_deadPartsNow, cX1_deadPartsNow, 3, (some .int))
abbrev mX4_partsFrom : q_M := (yX4_partsFrom, cX4_partsFrom, 4, (some .int))
abbrev mX4_partsIn : q_M := (yX4_partsIn, cX4_partsIn, 3, (some .int))
abbrev mX1_deadNow : q_M := (yX1_deadNow, cX1_deadNow, 3, (some .int))
abbrev mX1_deadPay : q_M := (yX1_deadPay, cX1_deadPay, 5, (some .int))
abbrev mX4_sureBase : q_M := (yX4_sureBase, cX4_sureBase, 2, (some .int))
abbrev mX4_rosterBonus : q_M := (yX4_rosterBonus, cX4_rosterBonus, 2, (some .int))
abbrev mX4_plays : q_M := (yX4_plays, cX4_plays, 2, (some .boolean))
abbrev mX1_deadNext : q_M := (yX1_deadNext, cX1_deadNext, 3, (some .int))
abbrev mX1_manyThatAre : q_M := (yX1_manyThatAre, cX1_manyThatAre, 4, (some .int))
abbrev mX11_turn : q_M := (yX11_turn, cX11_turn, 4, (some .int))
abbrev mX1_payRefusal : q_M := (yX1_payRefusal, cX1_payRefusal, 4, (some .int))
abbrev mX4_basePay : q_M := (yX4_basePay, cX4_basePay, 2, (some .int))
abbrev mX4_takeFromBase : q_M := (yX4_takeFromBase, cX4_takeFromBase, 3, none)
abbrev mX4_hit : q_M := (yX4_hit, cX4_hit, 2, (some .int))
abbrev mX11_days : q_M := (yX11_days, cX11_days, 2, (some .int))
abbrev mX11_year : q_M := (yX11_year, cX11_year, 1, (some .int))
abbrev mX10_load : q_M := (yX10_load, cX10_load, 4, none)
abbrev mX10_loadPromises : q_M := (yX10_loadPromises, cX10_loadPromises, 5, none)
abbrev mX10_rank : q_M := (yX10_rank, cX10_rank, 4, none)
abbrev mX10_isAhead : q_M := (yX10_isAhead, cX10_isAhead, 3, (some .boolean))
abbrev mX10_room : q_M := (yX10_room, cX10_room, 2, (some .int))
abbrev mX10_count : q_M := (yX10_count, cX10_count, 3, (some .int))
abbrev mX1_fullPlaces : q_M := (yX1_fullPlaces, cX1_fullPlaces, 2, (some .int))
abbrev mX10_total : q_M := (yX10_total, cX10_total, 6, (some .int))
abbrev mX1_passYear : q_M := (yX1_passYear, cX1_passYear, 6, (some .int))
abbrev mX1_promisesSettled : q_M := (yX1_promisesSettled, cX1_promisesSettled, 4, (some .int))
abbrev mX8_settled : q_M := (yX8_settled, cX8_settled, 2, (some .int))
abbrev mX11_fault : q_M := (yX11_fault, cX11_fault, 1, (some .int))
abbrev mX11_ended : q_M := (yX11_ended, cX11_ended, 1, (some .int))
abbrev mX11_why : q_M := (yX11_why, cX11_why, 1, (some .int))
abbrev mX11_is : q_M := (yX11_is, cX11_is, 2, (some .int))
abbrev mX11_limit : q_M := (yX11_limit, cX11_limit, 2, (some .int))
abbrev mX11_dead : q_M := (yX11_dead, cX11_dead, 2, (some .int))
abbrev mX11_contract : q_M := (yX11_contract, cX11_contract, 4, (some .int))
abbrev mX4_yearsLeft : q_M := (yX4_yearsLeft, cX4_yearsLeft, 2, (some .int))
abbrev mX11_countsInFull : q_M := (yX11_countsInFull, cX11_countsInFull, 4, (some .boolean))
abbrev mX11_pay : q_M := (yX11_pay, cX11_pay, 5, (some .int))
abbrev mX11_now : q_M := (yX11_now, cX11_now, 2, (some .int))
abbrev mX11_would : q_M := (yX11_would, cX11_would, 4, (some .int))
abbrev mX1_deadInAll : q_M := (yX1_deadInAll, cX1_deadInAll, 2, (some .int))
abbrev mX10_saved : q_M := (yX10_saved, cX10_saved, 7, (some .int))
abbrev mX11_cut : q_M := (yX11_cut, cX11_cut, 2, (some .int))
abbrev mX11_trade : q_M := (yX11_trade, cX11_trade, 2, (some .int))
abbrev mX11_sign : q_M := (yX11_sign, cX11_sign, 2, (some .int))
abbrev mX1_signRefusal : q_M := (yX1_signRefusal, cX1_signRefusal, 3, (some .int))
abbrev mX7_has : q_M := (yX7_has, cX7_has, 2, (some .boolean))
abbrev mX1_takeOffer : q_M := (yX1_takeOffer, cX1_takeOffer, 4, (some .int))
abbrev mX7_remove : q_M := (yX7_remove, cX7_remove, 3, none)
abbrev mX11_promise : q_M := (yX11_promise, cX11_promise, 6, (some .int))
abbrev mX8_isFull : q_M := (yX8_isFull, cX8_isFull, 1, (some .boolean))
abbrev mX8_add : q_M := (yX8_add, cX8_add, 5, (some .int))
abbrev mX11_earn : q_M := (yX11_earn, cX11_earn, 4, (some .int))
abbrev mX8_has : q_M := (yX8_has, cX8_has, 2, (some .boolean))
abbrev mX11_longer : q_M := (yX11_longer, cX11_longer, 6, (some .int))
abbrev mX1_longerRefusal : q_M := (yX1_longerRefusal, cX1_longerRefusal, 8, (some .int))
abbrev mX4_addYears : q_M := (yX4_addYears, cX4_addYears, 4, none)
abbrev mX11_lower : q_M := (yX11_lower, cX11_lower, 4, (some .int))
abbrev mX11_says : q_M := (yX11_says, cX11_says, 2, (some .long))
abbrev mX11_policySum : q_M := (yX11_policySum, cX11_policySum, 4, (some .long))
abbrev mX5_put : q_M := (yX5_put, cX5_put, 4, none)
abbrev mX5_value : q_M := (yX5_value, cX5_value, 4, (some .long))
abbrev mX5_join : q_M := (yX5_join, cX5_join, 5, (some .long))
abbrev mX11_byPolicy : q_M := (yX11_byPolicy, cX11_byPolicy, 5, (some .int))
abbrev mX11_isGoal : q_M := (yX11_isGoal, cX11_isGoal, 1, (some .boolean))
abbrev mX11_greatestByPolicy : q_M := (yX11_greatestByPolicy, cX11_greatestByPolicy, 7, (some .int))
abbrev mX11_set : q_M := (yX11_set, cX11_set, 3, (some .int))
abbrev mX3_chooseSet : q_M := (yX3_chooseSet, cX3_chooseSet, 8, none)
abbrev mX3_gather : q_M := (yX3_gather, cX3_gather, 6, none)
abbrev mX1_mostTurned : q_M := (yX1_mostTurned, cX1_mostTurned, 2, (some .int))
abbrev mX3_sumOf : q_M := (yX3_sumOf, cX3_sumOf, 5, (some .int))
abbrev mJ6_bitCount_0f7a4 : q_M := (yJ6_bitCount_0f7a4, cJ6_bitCount_0f7a4, 1, (some .int))
abbrev mX11_turned : q_M := (yX11_turned, cX11_turned, 4, (some .int))
abbrev mX11_savedByTurn : q_M := (yX11_savedByTurn, cX11_savedByTurn, 5, (some .int))
abbrev mX10_shift : q_M := (yX10_shift, cX10_shift, 4, none)
abbrev mX11_ahead : q_M := (yX11_ahead, cX11_ahead, 2, (some .int))
abbrev mX1_countAhead : q_M := (yX1_countAhead, cX1_countAhead, 6, (some .int))
abbrev mX8_likelyOf : q_M := (yX8_likelyOf, cX8_likelyOf, 5, (some .int))
abbrev mX11_bestDay : q_M := (yX11_bestDay, cX11_bestDay, 4, (some .int))
abbrev mX11_coins : q_M := (yX11_coins, cX11_coins, 6, (some .int))
abbrev mX11_freeYear : q_M := (yX11_freeYear, cX11_freeYear, 5, (some .int))
abbrev mX11_allTurned : q_M := (yX11_allTurned, cX11_allTurned, 4, (some .int))
abbrev mX11_ranked : q_M := (yX11_ranked, cX11_ranked, 2, (some .int))
abbrev mX11_fit : q_M := (yX11_fit, cX11_fit, 3, (some .int))
abbrev mX3_chooseFit : q_M := (yX3_chooseFit, cX3_chooseFit, 9, none)
abbrev mX3_digits : q_M := (yX3_digits, cX3_digits, 6, (some .int))
abbrev mX3_arrange : q_M := (yX3_arrange, cX3_arrange, 6, none)
abbrev mX11_piece : q_M := (yX11_piece, cX11_piece, 5, (some .int))
abbrev mX11_lastDay : q_M := (yX11_lastDay, cX11_lastDay, 3, (some .int))
abbrev mX11_dayIfSaved : q_M := (yX11_dayIfSaved, cX11_dayIfSaved, 4, (some .int))
abbrev mX11_cash : q_M := (yX11_cash, cX11_cash, 4, (some .int))
abbrev mX4_cashIn : q_M := (yX4_cashIn, cX4_cashIn, 4, (some .int))
abbrev mX11_allCash : q_M := (yX11_allCash, cX11_allCash, 2, (some .int))
abbrev mX1_cashOfAll : q_M := (yX1_cashOfAll, cX1_cashOfAll, 4, (some .int))
abbrev mX11_tag : q_M := (yX11_tag, cX11_tag, 5, (some .int))
abbrev mX11_counted : q_M := (yX11_counted, cX11_counted, 3, (some .int))
abbrev mX11_share : q_M := (yX11_share, cX11_share, 3, (some .int))
abbrev mJ9_min_f86c9 : q_M := (yJ9_min_f86c9, cJ9_min_f86c9, 4, (some .long))
abbrev mX11_dearest : q_M := (yX11_dearest, cX11_dearest, 6, (some .int))
abbrev mX11_offer : q_M := (yX11_offer, cX11_offer, 4, (some .int))
abbrev mX7_hit : q_M := (yX7_hit, cX7_hit, 2, (some .int))
abbrev mX11_buys : q_M := (yX11_buys, cX11_buys, 2, (some .int))
abbrev mX3_chooseOffers : q_M := (yX3_chooseOffers, cX3_chooseOffers, 7, none)
abbrev mX11_promised : q_M := (yX11_promised, cX11_promised, 4, (some .int))
abbrev mX11_floor : q_M := (yX11_floor, cX11_floor, 6, (some .int))
abbrev mX11_over : q_M := (yX11_over, cX11_over, 5, (some .int))
abbrev mX11_undo : q_M := (yX11_undo, cX11_undo, 2, (some .int))
abbrev mX6_pop : q_M := (yX6_pop, cX6_pop, 1, (some (.object "DeadCap$Books")))
abbrev mX11_keep : q_M := (yX11_keep, cX11_keep, 3, (some .boolean))
abbrev mX11_restore : q_M := (yX11_restore, cX11_restore, 3, (some .boolean))
abbrev mX11_write : q_M := (yX11_write, cX11_write, 2, (some .int))
abbrev mX2_addNumber : q_M := (yX2_addNumber, cX2_addNumber, 4, none)
abbrev mX11_octet : q_M := (yX11_octet, cX11_octet, 2, (some .int))
abbrev mX12_init : q_M := (yX12_init, cX12_init, 2, none)
abbrev mX12_undo : q_M := (yX12_undo, cX12_undo, 1, (some .int))
abbrev mX12_copyRow : q_M := (yX12_copyRow, cX12_copyRow, 4, none)
abbrev mX12_keep : q_M := (yX12_keep, cX12_keep, 2, (some .boolean))
abbrev mX12_isIn : q_M := (yX12_isIn, cX12_isIn, 6, (some .boolean))
abbrev mX12_restore : q_M := (yX12_restore, cX12_restore, 2, (some .boolean))
abbrev mX12_deedOf : q_M := (yX12_deedOf, cX12_deedOf, 3, none)
abbrev mX12_feed : q_M := (yX12_feed, cX12_feed, 6, (some .int))
abbrev mX12_four : q_M := (yX12_four, cX12_four, 3, none)
abbrev mX12_end : q_M := (yX12_end, cX12_end, 2, (some .int))
abbrev mX12_fault : q_M := (yX12_fault, cX12_fault, 1, (some .int))
abbrev mX12_market : q_M := (yX12_market, cX12_market, 1, (some .int))
abbrev mX12_beginText : q_M := (yX12_beginText, cX12_beginText, 1, none)
abbrev mX12_readOffer : q_M := (yX12_readOffer, cX12_readOffer, 2, (some .boolean))
abbrev mX12_fails : q_M := (yX12_fails, cX12_fails, 2, (some .boolean))
abbrev mX12_reads : q_M := (yX12_reads, cX12_reads, 4, (some .boolean))
abbrev mX12_readNumber : q_M := (yX12_readNumber, cX12_readNumber, 4, (some .boolean))
abbrev mX12_here : q_M := (yX12_here, cX12_here, 1, (some .int))
abbrev mX12_isFigure : q_M := (yX12_isFigure, cX12_isFigure, 1, (some .boolean))
abbrev mX12_takes : q_M := (yX12_takes, cX12_takes, 2, (some .boolean))
abbrev mX12_ends : q_M := (yX12_ends, cX12_ends, 1, (some .boolean))
abbrev mX12_text : q_M := (yX12_text, cX12_text, 2, (some .int))
abbrev mX12_readItem : q_M := (yX12_readItem, cX12_readItem, 2, (some .boolean))
abbrev mX12_readLimit : q_M := (yX12_readLimit, cX12_readLimit, 2, (some .boolean))
abbrev mX12_readDays : q_M := (yX12_readDays, cX12_readDays, 1, (some .boolean))
abbrev mX12_readContract : q_M := (yX12_readContract, cX12_readContract, 5, (some .boolean))
abbrev mX12_placeOf : q_M := (yX12_placeOf, cX12_placeOf, 2, (some .int))
abbrev mX12_of : q_M := (yX12_of, cX12_of, 3, (some .int))
abbrev mX12_lesser : q_M := (yX12_lesser, cX12_lesser, 2, (some .int))
abbrev mX12_endOf : q_M := (yX12_endOf, cX12_endOf, 2, (some .int))
abbrev mX12_spreads : q_M := (yX12_spreads, cX12_spreads, 6, none)
abbrev mX12_partsFrom : q_M := (yX12_partsFrom, cX12_partsFrom, 3, (some .int))
abbrev mX12_lastOf : q_M := (yX12_lastOf, cX12_lastOf, 2, (some .int))
abbrev mX12_pieceOf : q_M := (yX12_pieceOf, cX12_pieceOf, 3, (some .int))
abbrev mX12_policy : q_M := (yX12_policy, cX12_policy, 3, (some .int))
abbrev mX12_readSum : q_M := (yX12_readSum, cX12_readSum, 2, (some .boolean))
abbrev mX12_readThing : q_M := (yX12_readThing, cX12_readThing, 2, (some .boolean))
abbrev mX12_waitsFor : q_M := (yX12_waitsFor, cX12_waitsFor, 2, none)
abbrev mX12_nameOf : q_M := (yX12_nameOf, cX12_nameOf, 1, (some .int))
abbrev mX12_does : q_M := (yX12_does, cX12_does, 2, none)
abbrev mX12_closes : q_M := (yX12_closes, cX12_closes, 1, none)
abbrev mX12_doesWaiting : q_M := (yX12_doesWaiting, cX12_doesWaiting, 2, none)
abbrev mX12_rankOf : q_M := (yX12_rankOf, cX12_rankOf, 1, (some .int))
abbrev mX12_now : q_M := (yX12_now, cX12_now, 2, (some .int))
abbrev mX12_countOf : q_M := (yX12_countOf, cX12_countOf, 8, (some .int))
abbrev mX12_layHits : q_M := (yX12_layHits, cX12_layHits, 10, none)
abbrev mX12_isOpen : q_M := (yX12_isOpen, cX12_isOpen, 2, (some .boolean))
abbrev mX12_mostOf : q_M := (yX12_mostOf, cX12_mostOf, 2, (some .int))
abbrev mX12_greater : q_M := (yX12_greater, cX12_greater, 2, (some .int))
abbrev mX12_hitOf : q_M := (yX12_hitOf, cX12_hitOf, 3, (some .int))
abbrev mX12_deadNow : q_M := (yX12_deadNow, cX12_deadNow, 5, (some .int))
abbrev mX12_partsBehind : q_M := (yX12_partsBehind, cX12_partsBehind, 5, (some .int))
abbrev mX12_sureOf : q_M := (yX12_sureOf, cX12_sureOf, 3, (some .int))
abbrev mX12_promisesOf : q_M := (yX12_promisesOf, cX12_promisesOf, 8, (some .int))
abbrev mX12_roomOf : q_M := (yX12_roomOf, cX12_roomOf, 5, (some .int))
abbrev mX12_is : q_M := (yX12_is, cX12_is, 2, (some .int))
abbrev mX12_howMany : q_M := (yX12_howMany, cX12_howMany, 4, (some .int))
abbrev mX12_limit : q_M := (yX12_limit, cX12_limit, 2, (some .int))
abbrev mX12_isYear : q_M := (yX12_isYear, cX12_isYear, 1, (some .boolean))
abbrev mX12_dead : q_M := (yX12_dead, cX12_dead, 2, (some .int))
abbrev mX12_contract : q_M := (yX12_contract, cX12_contract, 3, (some .int))
abbrev mX12_isContract : q_M := (yX12_isContract, cX12_isContract, 2, (some .boolean))
abbrev mX12_yearsLeft : q_M := (yX12_yearsLeft, cX12_yearsLeft, 2, (some .int))
abbrev mX12_pay : q_M := (yX12_pay, cX12_pay, 4, (some .int))
abbrev mX12_would : q_M := (yX12_would, cX12_would, 3, (some .int))
abbrev mX12_canCut : q_M := (yX12_canCut, cX12_canCut, 2, (some .boolean))
abbrev mX12_deadLater : q_M := (yX12_deadLater, cX12_deadLater, 3, (some .int))
abbrev mX12_deadInAll : q_M := (yX12_deadInAll, cX12_deadInAll, 2, (some .int))
abbrev mX12_savedOn : q_M := (yX12_savedOn, cX12_savedOn, 3, (some .int))
abbrev mX12_why : q_M := (yX12_why, cX12_why, 1, (some .int))
abbrev mX12_cut : q_M := (yX12_cut, cX12_cut, 2, (some .int))
abbrev mX12_whyNot : q_M := (yX12_whyNot, cX12_whyNot, 2, (some .int))
abbrev mX12_refuses : q_M := (yX12_refuses, cX12_refuses, 2, (some .boolean))
abbrev mX12_cuts : q_M := (yX12_cuts, cX12_cuts, 3, none)
abbrev mX12_closesFor : q_M := (yX12_closesFor, cX12_closesFor, 3, none)
abbrev mX12_trade : q_M := (yX12_trade, cX12_trade, 4, (some .int))
abbrev mX12_promise : q_M := (yX12_promise, cX12_promise, 6, (some .int))
abbrev mX12_earn : q_M := (yX12_earn, cX12_earn, 3, (some .int))
abbrev mX12_isPromise : q_M := (yX12_isPromise, cX12_isPromise, 2, (some .boolean))
abbrev mX12_promised : q_M := (yX12_promised, cX12_promised, 3, (some .int))
abbrev mX12_offer : q_M := (yX12_offer, cX12_offer, 3, (some .int))
abbrev mX12_isOffer : q_M := (yX12_isOffer, cX12_isOffer, 2, (some .boolean))
abbrev mX12_hitOfOffer : q_M := (yX12_hitOfOffer, cX12_hitOfOffer, 3, (some .int))
abbrev mX12_buys : q_M := (yX12_buys, cX12_buys, 10, (some .int))
abbrev mX12_bits : q_M := (yX12_bits, cX12_bits, 3, (some .int))
abbrev mX12_sign : q_M := (yX12_sign, cX12_sign, 5, (some .int))
abbrev mX12_whyNotSign : q_M := (yX12_whyNotSign, cX12_whyNotSign, 2, (some .int))
abbrev mX12_turn : q_M := (yX12_turn, cX12_turn, 3, (some .int))
abbrev mX12_whyNotLess : q_M := (yX12_whyNotLess, cX12_whyNotLess, 4, (some .int))
abbrev mX12_lower : q_M := (yX12_lower, cX12_lower, 3, (some .int))
abbrev mX12_longer : q_M := (yX12_longer, cX12_longer, 6, (some .int))
abbrev mX12_whyNotLonger : q_M := (yX12_whyNotLonger, cX12_whyNotLonger, 6, (some .int))
abbrev mX12_days : q_M := (yX12_days, cX12_days, 2, (some .int))
abbrev mX12_year : q_M := (yX12_year, cX12_year, 4, (some .int))
abbrev mX12_says : q_M := (yX12_says, cX12_says, 2, (some .long))
abbrev mX12_saysOf : q_M := (yX12_saysOf, cX12_saysOf, 2, (some .long))
abbrev mX12_worth : q_M := (yX12_worth, cX12_worth, 4, (some .long))
abbrev mX12_joined : q_M := (yX12_joined, cX12_joined, 5, (some .long))
abbrev mX12_byPolicy : q_M := (yX12_byPolicy, cX12_byPolicy, 9, (some .int))
abbrev mX12_isGoal : q_M := (yX12_isGoal, cX12_isGoal, 1, (some .boolean))
abbrev mX12_set : q_M := (yX12_set, cX12_set, 7, (some .int))
abbrev mX12_laySome : q_M := (yX12_laySome, cX12_laySome, 3, none)
abbrev mX12_deadOf : q_M := (yX12_deadOf, cX12_deadOf, 4, (some .int))
abbrev mX12_contractsOf : q_M := (yX12_contractsOf, cX12_contractsOf, 5, (some .long))
abbrev mX12_fit : q_M := (yX12_fit, cX12_fit, 12, (some .int))
abbrev mX12_turned : q_M := (yX12_turned, cX12_turned, 3, (some .int))
abbrev mX12_allTurned : q_M := (yX12_allTurned, cX12_allTurned, 4, (some .int))
abbrev mX12_piece : q_M := (yX12_piece, cX12_piece, 4, (some .int))
abbrev mX12_ahead : q_M := (yX12_ahead, cX12_ahead, 4, (some .int))
abbrev mX12_over : q_M := (yX12_over, cX12_over, 5, (some .int))
abbrev mX12_bestDay : q_M := (yX12_bestDay, cX12_bestDay, 2, (some .int))
abbrev mX12_lastDay : q_M := (yX12_lastDay, cX12_lastDay, 4, (some .int))
abbrev mX12_freeYear : q_M := (yX12_freeYear, cX12_freeYear, 4, (some .int))
abbrev mX12_coins : q_M := (yX12_coins, cX12_coins, 5, (some .int))
abbrev mX12_cash : q_M := (yX12_cash, cX12_cash, 3, (some .int))
abbrev mX12_cashOf : q_M := (yX12_cashOf, cX12_cashOf, 3, (some .int))
abbrev mX12_allCash : q_M := (yX12_allCash, cX12_allCash, 4, (some .int))
abbrev mX12_floor : q_M := (yX12_floor, cX12_floor, 6, (some .int))
abbrev mX12_ranked : q_M := (yX12_ranked, cX12_ranked, 2, (some .int))
abbrev mX12_placed : q_M := (yX12_placed, cX12_placed, 6, (some .int))
abbrev mX12_dearest : q_M := (yX12_dearest, cX12_dearest, 2, (some .int))
abbrev mX12_tag : q_M := (yX12_tag, cX12_tag, 5, (some .int))
abbrev mX12_counted : q_M := (yX12_counted, cX12_counted, 5, (some .int))
abbrev mX12_share : q_M := (yX12_share, cX12_share, 4, (some .int))
abbrev mX12_acts : q_M := (yX12_acts, cX12_acts, 2, (some .int))
abbrev mX12_readAct : q_M := (yX12_readAct, cX12_readAct, 5, (some .boolean))
abbrev mX12_doAct : q_M := (yX12_doAct, cX12_doAct, 2, (some .boolean))
abbrev mX12_ended : q_M := (yX12_ended, cX12_ended, 1, (some .int))
abbrev mX12_write : q_M := (yX12_write, cX12_write, 2, (some .int))
abbrev mX12_writes : q_M := (yX12_writes, cX12_writes, 2, none)
abbrev mX12_writeNumber : q_M := (yX12_writeNumber, cX12_writeNumber, 4, none)
abbrev mX12_octet : q_M := (yX12_octet, cX12_octet, 2, (some .int))
abbrev mL_law : q_M := (yL_law, cL_law, 4, (some .boolean))
