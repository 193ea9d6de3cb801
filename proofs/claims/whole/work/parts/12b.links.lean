set_option maxRecDepth 20000 in
theorem okX0_init : q_Ok mX0_init 0 := ⟨(qT2 81 rfl rfl), (qT1 11 rfl rfl), by decide +kernel, by decide⟩
set_option maxRecDepth 20000 in
theorem okX0_read : q_Ok mX0_read 1 := ⟨(qT4 0 rfl rfl), (qT1 11 rfl rfl), by decide +kernel, by decide⟩
set_option maxRecDepth 20000 in
theorem okX0_readAct : q_Ok mX0_readAct 2 := ⟨(qT4 5 rfl rfl), (qT1 11 rfl rfl), by decide +kernel, by decide⟩
set_option maxRecDepth 20000 in
theorem okX1_init : q_Ok mX1_init 0 := ⟨(qT1 33 rfl rfl), (qT1 2 rfl rfl), by decide +kernel, by decide⟩
set_option maxRecDepth 20000 in
theorem okX1_copyFrom : q_Ok mX1_copyFrom 1 := ⟨(qT3 2 rfl rfl), (qT1 2 rfl rfl), by decide +kernel, by decide⟩
set_option maxRecDepth 20000 in
theorem okX1_find : q_Ok mX1_find 1 := ⟨(qT4 28 rfl rfl), (qT1 2 rfl rfl), by decide +kernel, by decide⟩
set_option maxRecDepth 20000 in
theorem okX1_findBegun : q_Ok mX1_findBegun 1 := ⟨(qT4 40 rfl rfl), (qT1 2 rfl rfl), by decide +kernel, by decide⟩
set_option maxRecDepth 20000 in
theorem okX1_addContract : q_Ok mX1_addContract 0 := ⟨(qT3 92 rfl rfl), (qT1 2 rfl rfl), by decide +kernel, by decide⟩
set_option maxRecDepth 20000 in
theorem okX1_manyThatAre : q_Ok mX1_manyThatAre 1 := ⟨(qT4 82 rfl rfl), (qT1 2 rfl rfl), by decide +kernel, by decide⟩
set_option maxRecDepth 20000 in
theorem okX1_refusal : q_Ok mX1_refusal 1 := ⟨(qT4 24 rfl rfl), (qT1 2 rfl rfl), by decide +kernel, by decide⟩
set_option maxRecDepth 20000 in
theorem okX1_payRefusal : q_Ok mX1_payRefusal 2 := ⟨(qT4 90 rfl rfl), (qT1 2 rfl rfl), by decide +kernel, by decide⟩
set_option maxRecDepth 20000 in
theorem okX1_longerRefusal : q_Ok mX1_longerRefusal 4 := ⟨(qT5 61 rfl rfl), (qT1 2 rfl rfl), by decide +kernel, by decide⟩
set_option maxRecDepth 20000 in
theorem okX1_signRefusal : q_Ok mX1_signRefusal 1 := ⟨(qT5 13 rfl rfl), (qT1 2 rfl rfl), by decide +kernel, by decide⟩
set_option maxRecDepth 20000 in
theorem okX1_takeOffer : q_Ok mX1_takeOffer 1 := ⟨(qT5 21 rfl rfl), (qT1 2 rfl rfl), by decide +kernel, by decide⟩
set_option maxRecDepth 20000 in
theorem okX1_fullPlaces : q_Ok mX1_fullPlaces 1 := ⟨(qT4 147 rfl rfl), (qT1 2 rfl rfl), by decide +kernel, by decide⟩
set_option maxRecDepth 20000 in
theorem okX1_deadPay : q_Ok mX1_deadPay 3 := ⟨(qT4 62 rfl rfl), (qT1 2 rfl rfl), by decide +kernel, by decide⟩
set_option maxRecDepth 20000 in
theorem okX1_deadPartsNow : q_Ok mX1_deadPartsNow 2 := ⟨(qT4 45 rfl rfl), (qT1 2 rfl rfl), by decide +kernel, by decide⟩
set_option maxRecDepth 20000 in
theorem okX1_deadNow : q_Ok mX1_deadNow 2 := ⟨(qT4 58 rfl rfl), (qT1 2 rfl rfl), by decide +kernel, by decide⟩
set_option maxRecDepth 20000 in
theorem okX1_deadNext : q_Ok mX1_deadNext 2 := ⟨(qT4 78 rfl rfl), (qT1 2 rfl rfl), by decide +kernel, by decide⟩
set_option maxRecDepth 20000 in
theorem okX1_deadInAll : q_Ok mX1_deadInAll 1 := ⟨(qT4 231 rfl rfl), (qT1 2 rfl rfl), by decide +kernel, by decide⟩
set_option maxRecDepth 20000 in
theorem okX1_release : q_Ok mX1_release 2 := ⟨(qT4 36 rfl rfl), (qT1 2 rfl rfl), by decide +kernel, by decide⟩
set_option maxRecDepth 20000 in
theorem okX1_mostTurned : q_Ok mX1_mostTurned 1 := ⟨(qT5 127 rfl rfl), (qT1 2 rfl rfl), by decide +kernel, by decide⟩
set_option maxRecDepth 20000 in
theorem okX1_countAhead : q_Ok mX1_countAhead 1 := ⟨(qT5 162 rfl rfl), (qT1 2 rfl rfl), by decide +kernel, by decide⟩
set_option maxRecDepth 20000 in
theorem okX1_cashOfAll : q_Ok mX1_cashOfAll 1 := ⟨(qT5 237 rfl rfl), (qT1 2 rfl rfl), by decide +kernel, by decide⟩
set_option maxRecDepth 20000 in
theorem okX1_passYear : q_Ok mX1_passYear 1 := ⟨(qT4 155 rfl rfl), (qT1 2 rfl rfl), by decide +kernel, by decide⟩
set_option maxRecDepth 20000 in
theorem okX1_promisesSettled : q_Ok mX1_promisesSettled 0 := ⟨(qT4 160 rfl rfl), (qT1 2 rfl rfl), by decide +kernel, by decide⟩
set_option maxRecDepth 20000 in
theorem okX2_init : q_Ok mX2_init 1 := ⟨(qT2 47 rfl rfl), (qT1 9 rfl rfl), by decide +kernel, by decide⟩
set_option maxRecDepth 20000 in
theorem okX2_at : q_Ok mX2_at 1 := ⟨(qT3 49 rfl rfl), (qT1 9 rfl rfl), by decide +kernel, by decide⟩
set_option maxRecDepth 20000 in
theorem okX2_add : q_Ok mX2_add 1 := ⟨(qT2 230 rfl rfl), (qT1 9 rfl rfl), by decide +kernel, by decide⟩
set_option maxRecDepth 20000 in
theorem okX2_addWord : q_Ok mX2_addWord 1 := ⟨(qT2 226 rfl rfl), (qT1 9 rfl rfl), by decide +kernel, by decide⟩
set_option maxRecDepth 20000 in
theorem okX2_addNumber : q_Ok mX2_addNumber 1 := ⟨(qT6 76 rfl rfl), (qT1 9 rfl rfl), by decide +kernel, by decide⟩
set_option maxRecDepth 20000 in
theorem okX3_init : q_Ok mX3_init 0 := ⟨(qT2 135 rfl rfl), (qT1 13 rfl rfl), by decide +kernel, by decide⟩
set_option maxRecDepth 20000 in
theorem okX3_gather : q_Ok mX3_gather 3 := ⟨(qT5 119 rfl rfl), (qT1 13 rfl rfl), by decide +kernel, by decide⟩
set_option maxRecDepth 20000 in
theorem okX3_sumOf : q_Ok mX3_sumOf 2 := ⟨(qT5 132 rfl rfl), (qT1 13 rfl rfl), by decide +kernel, by decide⟩
set_option maxRecDepth 20000 in
theorem okX3_chooseSet : q_Ok mX3_chooseSet 3 := ⟨(qT5 115 rfl rfl), (qT1 13 rfl rfl), by decide +kernel, by decide⟩
set_option maxRecDepth 20000 in
theorem okX3_chooseFit : q_Ok mX3_chooseFit 3 := ⟨(qT5 199 rfl rfl), (qT1 13 rfl rfl), by decide +kernel, by decide⟩
set_option maxRecDepth 20000 in
theorem okX3_digits : q_Ok mX3_digits 2 := ⟨(qT5 203 rfl rfl), (qT1 13 rfl rfl), by decide +kernel, by decide⟩
set_option maxRecDepth 20000 in
theorem okX3_arrange : q_Ok mX3_arrange 3 := ⟨(qT5 207 rfl rfl), (qT1 13 rfl rfl), by decide +kernel, by decide⟩
set_option maxRecDepth 20000 in
theorem okX3_chooseOffers : q_Ok mX3_chooseOffers 2 := ⟨(qT6 37 rfl rfl), (qT1 13 rfl rfl), by decide +kernel, by decide⟩
set_option maxRecDepth 20000 in
theorem okX4_init : q_Ok mX4_init 0 := ⟨(qT1 139 rfl rfl), (qT1 6 rfl rfl), by decide +kernel, by decide⟩
set_option maxRecDepth 20000 in
theorem okX4_start : q_Ok mX4_start 4 := ⟨(qT3 96 rfl rfl), (qT1 6 rfl rfl), by decide +kernel, by decide⟩
set_option maxRecDepth 20000 in
theorem okX4_copyFrom : q_Ok mX4_copyFrom 1 := ⟨(qT3 9 rfl rfl), (qT1 6 rfl rfl), by decide +kernel, by decide⟩
set_option maxRecDepth 20000 in
theorem okX4_plays : q_Ok mX4_plays 1 := ⟨(qT4 74 rfl rfl), (qT1 6 rfl rfl), by decide +kernel, by decide⟩
set_option maxRecDepth 20000 in
theorem okX4_isOpen : q_Ok mX4_isOpen 0 := ⟨(qT4 32 rfl rfl), (qT1 6 rfl rfl), by decide +kernel, by decide⟩
set_option maxRecDepth 20000 in
theorem okX4_lastYear : q_Ok mX4_lastYear 0 := ⟨(qT3 108 rfl rfl), (qT1 6 rfl rfl), by decide +kernel, by decide⟩
set_option maxRecDepth 20000 in
theorem okX4_yearsLeft : q_Ok mX4_yearsLeft 1 := ⟨(qT4 199 rfl rfl), (qT1 6 rfl rfl), by decide +kernel, by decide⟩
set_option maxRecDepth 20000 in
theorem okX4_basePay : q_Ok mX4_basePay 1 := ⟨(qT4 95 rfl rfl), (qT1 6 rfl rfl), by decide +kernel, by decide⟩
set_option maxRecDepth 20000 in
theorem okX4_rosterBonus : q_Ok mX4_rosterBonus 1 := ⟨(qT4 70 rfl rfl), (qT1 6 rfl rfl), by decide +kernel, by decide⟩
set_option maxRecDepth 20000 in
theorem okX4_partsIn : q_Ok mX4_partsIn 1 := ⟨(qT4 54 rfl rfl), (qT1 6 rfl rfl), by decide +kernel, by decide⟩
set_option maxRecDepth 20000 in
theorem okX4_partsFrom : q_Ok mX4_partsFrom 1 := ⟨(qT4 49 rfl rfl), (qT1 6 rfl rfl), by decide +kernel, by decide⟩
set_option maxRecDepth 20000 in
theorem okX4_hit : q_Ok mX4_hit 1 := ⟨(qT4 105 rfl rfl), (qT1 6 rfl rfl), by decide +kernel, by decide⟩
set_option maxRecDepth 20000 in
theorem okX4_sureBase : q_Ok mX4_sureBase 1 := ⟨(qT4 66 rfl rfl), (qT1 6 rfl rfl), by decide +kernel, by decide⟩
set_option maxRecDepth 20000 in
theorem okX4_cashIn : q_Ok mX4_cashIn 1 := ⟨(qT5 229 rfl rfl), (qT1 6 rfl rfl), by decide +kernel, by decide⟩
set_option maxRecDepth 20000 in
theorem okX4_putPay : q_Ok mX4_putPay 3 := ⟨(qT3 116 rfl rfl), (qT1 6 rfl rfl), by decide +kernel, by decide⟩
set_option maxRecDepth 20000 in
theorem okX4_takeFromBase : q_Ok mX4_takeFromBase 2 := ⟨(qT4 100 rfl rfl), (qT1 6 rfl rfl), by decide +kernel, by decide⟩
set_option maxRecDepth 20000 in
theorem okX4_addYears : q_Ok mX4_addYears 2 := ⟨(qT5 66 rfl rfl), (qT1 6 rfl rfl), by decide +kernel, by decide⟩
set_option maxRecDepth 20000 in
theorem okX4_partOf : q_Ok mX4_partOf 3 := ⟨(qT3 104 rfl rfl), (qT1 6 rfl rfl), by decide +kernel, by decide⟩
set_option maxRecDepth 20000 in
theorem okX4_partOfMany : q_Ok mX4_partOfMany 3 := ⟨(qT3 111 rfl rfl), (qT1 6 rfl rfl), by decide +kernel, by decide⟩
set_option maxRecDepth 20000 in
theorem okX4_spread : q_Ok mX4_spread 2 := ⟨(qT3 100 rfl rfl), (qT1 6 rfl rfl), by decide +kernel, by decide⟩
set_option maxRecDepth 20000 in
theorem okX5_init : q_Ok mX5_init 0 := ⟨(qT1 112 rfl rfl), (qT1 5 rfl rfl), by decide +kernel, by decide⟩
set_option maxRecDepth 20000 in
theorem okX5_copyFrom : q_Ok mX5_copyFrom 1 := ⟨(qT3 24 rfl rfl), (qT1 5 rfl rfl), by decide +kernel, by decide⟩
set_option maxRecDepth 20000 in
theorem okX5_read : q_Ok mX5_read 1 := ⟨(qT3 139 rfl rfl), (qT1 5 rfl rfl), by decide +kernel, by decide⟩
set_option maxRecDepth 20000 in
theorem okX5_readThing : q_Ok mX5_readThing 1 := ⟨(qT3 151 rfl rfl), (qT1 5 rfl rfl), by decide +kernel, by decide⟩
set_option maxRecDepth 20000 in
theorem okX5_placeOf : q_Ok mX5_placeOf 1 := ⟨(qT3 154 rfl rfl), (qT1 5 rfl rfl), by decide +kernel, by decide⟩
set_option maxRecDepth 20000 in
theorem okX5_readOperator : q_Ok mX5_readOperator 1 := ⟨(qT3 217 rfl rfl), (qT1 5 rfl rfl), by decide +kernel, by decide⟩
set_option maxRecDepth 20000 in
theorem okX5_strength : q_Ok mX5_strength 1 := ⟨(qT3 213 rfl rfl), (qT1 5 rfl rfl), by decide +kernel, by decide⟩
set_option maxRecDepth 20000 in
theorem okX5_emit : q_Ok mX5_emit 1 := ⟨(qT3 201 rfl rfl), (qT1 5 rfl rfl), by decide +kernel, by decide⟩
set_option maxRecDepth 20000 in
theorem okX5_hold : q_Ok mX5_hold 1 := ⟨(qT3 147 rfl rfl), (qT1 5 rfl rfl), by decide +kernel, by decide⟩
set_option maxRecDepth 20000 in
theorem okX5_emitWaiting : q_Ok mX5_emitWaiting 1 := ⟨(qT3 209 rfl rfl), (qT1 5 rfl rfl), by decide +kernel, by decide⟩
set_option maxRecDepth 20000 in
theorem okX5_closeBracket : q_Ok mX5_closeBracket 0 := ⟨(qT3 205 rfl rfl), (qT1 5 rfl rfl), by decide +kernel, by decide⟩
set_option maxRecDepth 20000 in
theorem okX5_put : q_Ok mX5_put 2 := ⟨(qT5 87 rfl rfl), (qT1 5 rfl rfl), by decide +kernel, by decide⟩
set_option maxRecDepth 20000 in
theorem okX5_value : q_Ok mX5_value 0 := ⟨(qT5 91 rfl rfl), (qT1 5 rfl rfl), by decide +kernel, by decide⟩
set_option maxRecDepth 20000 in
theorem okX5_join : q_Ok mX5_join 3 := ⟨(qT5 94 rfl rfl), (qT1 5 rfl rfl), by decide +kernel, by decide⟩
set_option maxRecDepth 20000 in
theorem okX6_init : q_Ok mX6_init 0 := ⟨(qT2 23 rfl rfl), (qT1 7 rfl rfl), by decide +kernel, by decide⟩
set_option maxRecDepth 20000 in
theorem okX6_push : q_Ok mX6_push 1 := ⟨(qT3 128 rfl rfl), (qT1 7 rfl rfl), by decide +kernel, by decide⟩
set_option maxRecDepth 20000 in
theorem okX6_pop : q_Ok mX6_pop 0 := ⟨(qT6 59 rfl rfl), (qT1 7 rfl rfl), by decide +kernel, by decide⟩
set_option maxRecDepth 20000 in
theorem okX7_init : q_Ok mX7_init 0 := ⟨(qT1 81 rfl rfl), (qT1 4 rfl rfl), by decide +kernel, by decide⟩
set_option maxRecDepth 20000 in
theorem okX7_copyFrom : q_Ok mX7_copyFrom 1 := ⟨(qT3 19 rfl rfl), (qT1 4 rfl rfl), by decide +kernel, by decide⟩
set_option maxRecDepth 20000 in
theorem okX7_has : q_Ok mX7_has 1 := ⟨(qT5 17 rfl rfl), (qT1 4 rfl rfl), by decide +kernel, by decide⟩
set_option maxRecDepth 20000 in
theorem okX7_hit : q_Ok mX7_hit 1 := ⟨(qT6 28 rfl rfl), (qT1 4 rfl rfl), by decide +kernel, by decide⟩
set_option maxRecDepth 20000 in
theorem okX7_remove : q_Ok mX7_remove 1 := ⟨(qT5 29 rfl rfl), (qT1 4 rfl rfl), by decide +kernel, by decide⟩
set_option maxRecDepth 20000 in
theorem okX7_read : q_Ok mX7_read 2 := ⟨(qT3 226 rfl rfl), (qT1 4 rfl rfl), by decide +kernel, by decide⟩
set_option maxRecDepth 20000 in
theorem okX8_init : q_Ok mX8_init 0 := ⟨(qT1 41 rfl rfl), (qT1 3 rfl rfl), by decide +kernel, by decide⟩
set_option maxRecDepth 20000 in
theorem okX8_copyFrom : q_Ok mX8_copyFrom 1 := ⟨(qT3 14 rfl rfl), (qT1 3 rfl rfl), by decide +kernel, by decide⟩
set_option maxRecDepth 20000 in
theorem okX8_has : q_Ok mX8_has 1 := ⟨(qT5 52 rfl rfl), (qT1 3 rfl rfl), by decide +kernel, by decide⟩
set_option maxRecDepth 20000 in
theorem okX8_isFull : q_Ok mX8_isFull 0 := ⟨(qT5 39 rfl rfl), (qT1 3 rfl rfl), by decide +kernel, by decide⟩
set_option maxRecDepth 20000 in
theorem okX8_add : q_Ok mX8_add 4 := ⟨(qT5 43 rfl rfl), (qT1 3 rfl rfl), by decide +kernel, by decide⟩
set_option maxRecDepth 20000 in
theorem okX8_likelyOf : q_Ok mX8_likelyOf 2 := ⟨(qT5 168 rfl rfl), (qT1 3 rfl rfl), by decide +kernel, by decide⟩
set_option maxRecDepth 20000 in
theorem okX8_settled : q_Ok mX8_settled 1 := ⟨(qT4 164 rfl rfl), (qT1 3 rfl rfl), by decide +kernel, by decide⟩
set_option maxRecDepth 20000 in
theorem okX9_init : q_Ok mX9_init 0 := ⟨(qT2 41 rfl rfl), (qT1 8 rfl rfl), by decide +kernel, by decide⟩
set_option maxRecDepth 20000 in
theorem okX9_begin : q_Ok mX9_begin 0 := ⟨(qT3 29 rfl rfl), (qT1 8 rfl rfl), by decide +kernel, by decide⟩
set_option maxRecDepth 20000 in
theorem okX9_finish : q_Ok mX9_finish 0 := ⟨(qT3 124 rfl rfl), (qT1 8 rfl rfl), by decide +kernel, by decide⟩
set_option maxRecDepth 20000 in
theorem okX9_hasMore : q_Ok mX9_hasMore 0 := ⟨(qT3 37 rfl rfl), (qT1 8 rfl rfl), by decide +kernel, by decide⟩
set_option maxRecDepth 20000 in
theorem okX9_peek : q_Ok mX9_peek 0 := ⟨(qT3 45 rfl rfl), (qT1 8 rfl rfl), by decide +kernel, by decide⟩
set_option maxRecDepth 20000 in
theorem okX9_isDigit : q_Ok mX9_isDigit 1 := ⟨(qT3 72 rfl rfl), (qT1 8 rfl rfl), by decide +kernel, by decide⟩
set_option maxRecDepth 20000 in
theorem okX9_fail : q_Ok mX9_fail 1 := ⟨(qT3 53 rfl rfl), (qT1 8 rfl rfl), by decide +kernel, by decide⟩
set_option maxRecDepth 20000 in
theorem okX9_skip : q_Ok mX9_skip 0 := ⟨(qT3 57 rfl rfl), (qT1 8 rfl rfl), by decide +kernel, by decide⟩
set_option maxRecDepth 20000 in
theorem okX9_expect : q_Ok mX9_expect 1 := ⟨(qT3 76 rfl rfl), (qT1 8 rfl rfl), by decide +kernel, by decide⟩
set_option maxRecDepth 20000 in
theorem okX9_number : q_Ok mX9_number 2 := ⟨(qT3 69 rfl rfl), (qT1 8 rfl rfl), by decide +kernel, by decide⟩
set_option maxRecDepth 20000 in
theorem okX9_numberAndComma : q_Ok mX9_numberAndComma 2 := ⟨(qT3 65 rfl rfl), (qT1 8 rfl rfl), by decide +kernel, by decide⟩
set_option maxRecDepth 20000 in
theorem okX9_readItems : q_Ok mX9_readItems 1 := ⟨(qT3 33 rfl rfl), (qT1 8 rfl rfl), by decide +kernel, by decide⟩
set_option maxRecDepth 20000 in
theorem okX9_readItem : q_Ok mX9_readItem 1 := ⟨(qT3 41 rfl rfl), (qT1 8 rfl rfl), by decide +kernel, by decide⟩
set_option maxRecDepth 20000 in
theorem okX9_readLimit : q_Ok mX9_readLimit 1 := ⟨(qT3 61 rfl rfl), (qT1 8 rfl rfl), by decide +kernel, by decide⟩
set_option maxRecDepth 20000 in
theorem okX9_readContract : q_Ok mX9_readContract 1 := ⟨(qT3 84 rfl rfl), (qT1 8 rfl rfl), by decide +kernel, by decide⟩
set_option maxRecDepth 20000 in
theorem okX10_init : q_Ok mX10_init 0 := ⟨(qT2 104 rfl rfl), (qT1 12 rfl rfl), by decide +kernel, by decide⟩
set_option maxRecDepth 20000 in
theorem okX10_load : q_Ok mX10_load 1 := ⟨(qT4 120 rfl rfl), (qT1 12 rfl rfl), by decide +kernel, by decide⟩
set_option maxRecDepth 20000 in
theorem okX10_loadPromises : q_Ok mX10_loadPromises 2 := ⟨(qT4 127 rfl rfl), (qT1 12 rfl rfl), by decide +kernel, by decide⟩
set_option maxRecDepth 20000 in
theorem okX10_rank : q_Ok mX10_rank 0 := ⟨(qT4 131 rfl rfl), (qT1 12 rfl rfl), by decide +kernel, by decide⟩
set_option maxRecDepth 20000 in
theorem okX10_isAhead : q_Ok mX10_isAhead 2 := ⟨(qT4 135 rfl rfl), (qT1 12 rfl rfl), by decide +kernel, by decide⟩
set_option maxRecDepth 20000 in
theorem okX10_shift : q_Ok mX10_shift 3 := ⟨(qT5 153 rfl rfl), (qT1 12 rfl rfl), by decide +kernel, by decide⟩
set_option maxRecDepth 20000 in
theorem okX10_total : q_Ok mX10_total 1 := ⟨(qT4 151 rfl rfl), (qT1 12 rfl rfl), by decide +kernel, by decide⟩
set_option maxRecDepth 20000 in
theorem okX10_count : q_Ok mX10_count 2 := ⟨(qT4 143 rfl rfl), (qT1 12 rfl rfl), by decide +kernel, by decide⟩
set_option maxRecDepth 20000 in
theorem okX10_room : q_Ok mX10_room 1 := ⟨(qT4 139 rfl rfl), (qT1 12 rfl rfl), by decide +kernel, by decide⟩
set_option maxRecDepth 20000 in
theorem okX10_saved : q_Ok mX10_saved 3 := ⟨(qT4 235 rfl rfl), (qT1 12 rfl rfl), by decide +kernel, by decide⟩
set_option maxRecDepth 20000 in
theorem okX11_init : q_Ok mX11_init 0 := ⟨(qT1 25 rfl rfl), (qT1 1 rfl rfl), by decide +kernel, by decide⟩
set_option maxRecDepth 20000 in
theorem okX11_feed : q_Ok mX11_feed 5 := ⟨(qT2 222 rfl rfl), (qT1 1 rfl rfl), by decide +kernel, by decide⟩
set_option maxRecDepth 20000 in
theorem okX11_end : q_Ok mX11_end 1 := ⟨(qT2 234 rfl rfl), (qT1 1 rfl rfl), by decide +kernel, by decide⟩
set_option maxRecDepth 20000 in
theorem okX11_text : q_Ok mX11_text 0 := ⟨(qT2 238 rfl rfl), (qT1 1 rfl rfl), by decide +kernel, by decide⟩
set_option maxRecDepth 20000 in
theorem okX11_policy : q_Ok mX11_policy 0 := ⟨(qT3 135 rfl rfl), (qT1 1 rfl rfl), by decide +kernel, by decide⟩
set_option maxRecDepth 20000 in
theorem okX11_market : q_Ok mX11_market 0 := ⟨(qT3 222 rfl rfl), (qT1 1 rfl rfl), by decide +kernel, by decide⟩
set_option maxRecDepth 20000 in
theorem okX11_acts : q_Ok mX11_acts 0 := ⟨(qT3 236 rfl rfl), (qT1 1 rfl rfl), by decide +kernel, by decide⟩
set_option maxRecDepth 20000 in
theorem okX11_fault : q_Ok mX11_fault 0 := ⟨(qT4 170 rfl rfl), (qT1 1 rfl rfl), by decide +kernel, by decide⟩
set_option maxRecDepth 20000 in
theorem okX11_ended : q_Ok mX11_ended 0 := ⟨(qT4 174 rfl rfl), (qT1 1 rfl rfl), by decide +kernel, by decide⟩
set_option maxRecDepth 20000 in
theorem okX11_why : q_Ok mX11_why 0 := ⟨(qT4 178 rfl rfl), (qT1 1 rfl rfl), by decide +kernel, by decide⟩
set_option maxRecDepth 20000 in
theorem okX11_is : q_Ok mX11_is 1 := ⟨(qT4 182 rfl rfl), (qT1 1 rfl rfl), by decide +kernel, by decide⟩
set_option maxRecDepth 20000 in
theorem okX11_limit : q_Ok mX11_limit 1 := ⟨(qT4 186 rfl rfl), (qT1 1 rfl rfl), by decide +kernel, by decide⟩
set_option maxRecDepth 20000 in
theorem okX11_dead : q_Ok mX11_dead 1 := ⟨(qT4 191 rfl rfl), (qT1 1 rfl rfl), by decide +kernel, by decide⟩
set_option maxRecDepth 20000 in
theorem okX11_contract : q_Ok mX11_contract 2 := ⟨(qT4 195 rfl rfl), (qT1 1 rfl rfl), by decide +kernel, by decide⟩
set_option maxRecDepth 20000 in
theorem okX11_pay : q_Ok mX11_pay 3 := ⟨(qT4 211 rfl rfl), (qT1 1 rfl rfl), by decide +kernel, by decide⟩
set_option maxRecDepth 20000 in
theorem okX11_now : q_Ok mX11_now 1 := ⟨(qT4 218 rfl rfl), (qT1 1 rfl rfl), by decide +kernel, by decide⟩
set_option maxRecDepth 20000 in
theorem okX11_would : q_Ok mX11_would 2 := ⟨(qT4 224 rfl rfl), (qT1 1 rfl rfl), by decide +kernel, by decide⟩
set_option maxRecDepth 20000 in
theorem okX11_cut : q_Ok mX11_cut 1 := ⟨(qT5 1 rfl rfl), (qT1 1 rfl rfl), by decide +kernel, by decide⟩
set_option maxRecDepth 20000 in
theorem okX11_trade : q_Ok mX11_trade 1 := ⟨(qT5 5 rfl rfl), (qT1 1 rfl rfl), by decide +kernel, by decide⟩
set_option maxRecDepth 20000 in
theorem okX11_sign : q_Ok mX11_sign 1 := ⟨(qT5 9 rfl rfl), (qT1 1 rfl rfl), by decide +kernel, by decide⟩
set_option maxRecDepth 20000 in
theorem okX11_promise : q_Ok mX11_promise 4 := ⟨(qT5 34 rfl rfl), (qT1 1 rfl rfl), by decide +kernel, by decide⟩
set_option maxRecDepth 20000 in
theorem okX11_earn : q_Ok mX11_earn 1 := ⟨(qT5 48 rfl rfl), (qT1 1 rfl rfl), by decide +kernel, by decide⟩
set_option maxRecDepth 20000 in
theorem okX11_turn : q_Ok mX11_turn 2 := ⟨(qT4 86 rfl rfl), (qT1 1 rfl rfl), by decide +kernel, by decide⟩
set_option maxRecDepth 20000 in
theorem okX11_longer : q_Ok mX11_longer 4 := ⟨(qT5 57 rfl rfl), (qT1 1 rfl rfl), by decide +kernel, by decide⟩
set_option maxRecDepth 20000 in
theorem okX11_lower : q_Ok mX11_lower 2 := ⟨(qT5 72 rfl rfl), (qT1 1 rfl rfl), by decide +kernel, by decide⟩
set_option maxRecDepth 20000 in
theorem okX11_days : q_Ok mX11_days 1 := ⟨(qT4 112 rfl rfl), (qT1 1 rfl rfl), by decide +kernel, by decide⟩
set_option maxRecDepth 20000 in
theorem okX11_year : q_Ok mX11_year 0 := ⟨(qT4 116 rfl rfl), (qT1 1 rfl rfl), by decide +kernel, by decide⟩
set_option maxRecDepth 20000 in
theorem okX11_says : q_Ok mX11_says 1 := ⟨(qT5 78 rfl rfl), (qT1 1 rfl rfl), by decide +kernel, by decide⟩
set_option maxRecDepth 20000 in
theorem okX11_byPolicy : q_Ok mX11_byPolicy 1 := ⟨(qT5 98 rfl rfl), (qT1 1 rfl rfl), by decide +kernel, by decide⟩
set_option maxRecDepth 20000 in
theorem okX11_set : q_Ok mX11_set 2 := ⟨(qT5 111 rfl rfl), (qT1 1 rfl rfl), by decide +kernel, by decide⟩
set_option maxRecDepth 20000 in
theorem okX11_turned : q_Ok mX11_turned 2 := ⟨(qT5 143 rfl rfl), (qT1 1 rfl rfl), by decide +kernel, by decide⟩
set_option maxRecDepth 20000 in
theorem okX11_ahead : q_Ok mX11_ahead 1 := ⟨(qT5 158 rfl rfl), (qT1 1 rfl rfl), by decide +kernel, by decide⟩
set_option maxRecDepth 20000 in
theorem okX11_bestDay : q_Ok mX11_bestDay 1 := ⟨(qT5 172 rfl rfl), (qT1 1 rfl rfl), by decide +kernel, by decide⟩
set_option maxRecDepth 20000 in
theorem okX11_coins : q_Ok mX11_coins 2 := ⟨(qT5 176 rfl rfl), (qT1 1 rfl rfl), by decide +kernel, by decide⟩
set_option maxRecDepth 20000 in
theorem okX11_freeYear : q_Ok mX11_freeYear 1 := ⟨(qT5 181 rfl rfl), (qT1 1 rfl rfl), by decide +kernel, by decide⟩
set_option maxRecDepth 20000 in
theorem okX11_allTurned : q_Ok mX11_allTurned 0 := ⟨(qT5 187 rfl rfl), (qT1 1 rfl rfl), by decide +kernel, by decide⟩
set_option maxRecDepth 20000 in
theorem okX11_ranked : q_Ok mX11_ranked 1 := ⟨(qT5 191 rfl rfl), (qT1 1 rfl rfl), by decide +kernel, by decide⟩
set_option maxRecDepth 20000 in
theorem okX11_fit : q_Ok mX11_fit 2 := ⟨(qT5 195 rfl rfl), (qT1 1 rfl rfl), by decide +kernel, by decide⟩
set_option maxRecDepth 20000 in
theorem okX11_piece : q_Ok mX11_piece 3 := ⟨(qT5 213 rfl rfl), (qT1 1 rfl rfl), by decide +kernel, by decide⟩
set_option maxRecDepth 20000 in
theorem okX11_lastDay : q_Ok mX11_lastDay 2 := ⟨(qT5 217 rfl rfl), (qT1 1 rfl rfl), by decide +kernel, by decide⟩
set_option maxRecDepth 20000 in
theorem okX11_cash : q_Ok mX11_cash 2 := ⟨(qT5 225 rfl rfl), (qT1 1 rfl rfl), by decide +kernel, by decide⟩
set_option maxRecDepth 20000 in
theorem okX11_allCash : q_Ok mX11_allCash 1 := ⟨(qT5 233 rfl rfl), (qT1 1 rfl rfl), by decide +kernel, by decide⟩
set_option maxRecDepth 20000 in
theorem okX11_tag : q_Ok mX11_tag 1 := ⟨(qT6 2 rfl rfl), (qT1 1 rfl rfl), by decide +kernel, by decide⟩
set_option maxRecDepth 20000 in
theorem okX11_counted : q_Ok mX11_counted 1 := ⟨(qT6 6 rfl rfl), (qT1 1 rfl rfl), by decide +kernel, by decide⟩
set_option maxRecDepth 20000 in
theorem okX11_share : q_Ok mX11_share 1 := ⟨(qT6 10 rfl rfl), (qT1 1 rfl rfl), by decide +kernel, by decide⟩
set_option maxRecDepth 20000 in
theorem okX11_dearest : q_Ok mX11_dearest 1 := ⟨(qT6 19 rfl rfl), (qT1 1 rfl rfl), by decide +kernel, by decide⟩
set_option maxRecDepth 20000 in
theorem okX11_offer : q_Ok mX11_offer 2 := ⟨(qT6 23 rfl rfl), (qT1 1 rfl rfl), by decide +kernel, by decide⟩
set_option maxRecDepth 20000 in
theorem okX11_buys : q_Ok mX11_buys 1 := ⟨(qT6 33 rfl rfl), (qT1 1 rfl rfl), by decide +kernel, by decide⟩
set_option maxRecDepth 20000 in
theorem okX11_promised : q_Ok mX11_promised 2 := ⟨(qT6 43 rfl rfl), (qT1 1 rfl rfl), by decide +kernel, by decide⟩
set_option maxRecDepth 20000 in
theorem okX11_floor : q_Ok mX11_floor 2 := ⟨(qT6 47 rfl rfl), (qT1 1 rfl rfl), by decide +kernel, by decide⟩
set_option maxRecDepth 20000 in
theorem okX11_over : q_Ok mX11_over 1 := ⟨(qT6 51 rfl rfl), (qT1 1 rfl rfl), by decide +kernel, by decide⟩
set_option maxRecDepth 20000 in
theorem okX11_undo : q_Ok mX11_undo 0 := ⟨(qT6 55 rfl rfl), (qT1 1 rfl rfl), by decide +kernel, by decide⟩
set_option maxRecDepth 20000 in
theorem okX11_keep : q_Ok mX11_keep 1 := ⟨(qT6 63 rfl rfl), (qT1 1 rfl rfl), by decide +kernel, by decide⟩
set_option maxRecDepth 20000 in
theorem okX11_restore : q_Ok mX11_restore 1 := ⟨(qT6 67 rfl rfl), (qT1 1 rfl rfl), by decide +kernel, by decide⟩
set_option maxRecDepth 20000 in
theorem okX11_write : q_Ok mX11_write 0 := ⟨(qT6 71 rfl rfl), (qT1 1 rfl rfl), by decide +kernel, by decide⟩
set_option maxRecDepth 20000 in
theorem okX11_octet : q_Ok mX11_octet 1 := ⟨(qT6 81 rfl rfl), (qT1 1 rfl rfl), by decide +kernel, by decide⟩
set_option maxRecDepth 20000 in
theorem okX11_isYear : q_Ok mX11_isYear 1 := ⟨(qT3 80 rfl rfl), (qT1 1 rfl rfl), by decide +kernel, by decide⟩
set_option maxRecDepth 20000 in
theorem okX11_isGoal : q_Ok mX11_isGoal 1 := ⟨(qT5 101 rfl rfl), (qT1 1 rfl rfl), by decide +kernel, by decide⟩
set_option maxRecDepth 20000 in
theorem okX11_takeDraft : q_Ok mX11_takeDraft 1 := ⟨(qT3 120 rfl rfl), (qT1 1 rfl rfl), by decide +kernel, by decide⟩
set_option maxRecDepth 20000 in
theorem okX11_perform : q_Ok mX11_perform 1 := ⟨(qT4 16 rfl rfl), (qT1 1 rfl rfl), by decide +kernel, by decide⟩
set_option maxRecDepth 20000 in
theorem okX11_letGo : q_Ok mX11_letGo 2 := ⟨(qT4 20 rfl rfl), (qT1 1 rfl rfl), by decide +kernel, by decide⟩
set_option maxRecDepth 20000 in
theorem okX11_countsInFull : q_Ok mX11_countsInFull 1 := ⟨(qT4 205 rfl rfl), (qT1 1 rfl rfl), by decide +kernel, by decide⟩
set_option maxRecDepth 20000 in
theorem okX11_dayIfSaved : q_Ok mX11_dayIfSaved 3 := ⟨(qT5 221 rfl rfl), (qT1 1 rfl rfl), by decide +kernel, by decide⟩
set_option maxRecDepth 20000 in
theorem okX11_savedByTurn : q_Ok mX11_savedByTurn 2 := ⟨(qT5 148 rfl rfl), (qT1 1 rfl rfl), by decide +kernel, by decide⟩
set_option maxRecDepth 20000 in
theorem okX11_policySum : q_Ok mX11_policySum 1 := ⟨(qT5 83 rfl rfl), (qT1 1 rfl rfl), by decide +kernel, by decide⟩
set_option maxRecDepth 20000 in
theorem okX11_greatestByPolicy : q_Ok mX11_greatestByPolicy 0 := ⟨(qT5 107 rfl rfl), (qT1 1 rfl rfl), by decide +kernel, by decide⟩
set_option maxRecDepth 20000 in
theorem okX12_isIn : q_Ok mX12_isIn 3 := ⟨(qT6 187 rfl rfl), (qT1 14 rfl rfl), by decide +kernel, by decide⟩
set_option maxRecDepth 20000 in
theorem okX12_copyRow : q_Ok mX12_copyRow 2 := ⟨(qT6 180 rfl rfl), (qT1 14 rfl rfl), by decide +kernel, by decide⟩
set_option maxRecDepth 20000 in
theorem okX12_init : q_Ok mX12_init 0 := ⟨(qT6 87 rfl rfl), (qT1 14 rfl rfl), by decide +kernel, by decide⟩
set_option maxRecDepth 20000 in
theorem okX12_deedOf : q_Ok mX12_deedOf 1 := ⟨(qT6 195 rfl rfl), (qT1 14 rfl rfl), by decide +kernel, by decide⟩
set_option maxRecDepth 20000 in
theorem okX12_undo : q_Ok mX12_undo 0 := ⟨(qT6 176 rfl rfl), (qT1 14 rfl rfl), by decide +kernel, by decide⟩
set_option maxRecDepth 20000 in
theorem okX12_keep : q_Ok mX12_keep 1 := ⟨(qT6 184 rfl rfl), (qT1 14 rfl rfl), by decide +kernel, by decide⟩
set_option maxRecDepth 20000 in
theorem okX12_restore : q_Ok mX12_restore 1 := ⟨(qT6 191 rfl rfl), (qT1 14 rfl rfl), by decide +kernel, by decide⟩
set_option maxRecDepth 20000 in
theorem okX12_four : q_Ok mX12_four 1 := ⟨(qT6 203 rfl rfl), (qT1 14 rfl rfl), by decide +kernel, by decide⟩
set_option maxRecDepth 20000 in
theorem okX12_feed : q_Ok mX12_feed 5 := ⟨(qT6 199 rfl rfl), (qT1 14 rfl rfl), by decide +kernel, by decide⟩
set_option maxRecDepth 20000 in
theorem okX12_end : q_Ok mX12_end 1 := ⟨(qT6 207 rfl rfl), (qT1 14 rfl rfl), by decide +kernel, by decide⟩
set_option maxRecDepth 20000 in
theorem okX12_fault : q_Ok mX12_fault 0 := ⟨(qT6 211 rfl rfl), (qT1 14 rfl rfl), by decide +kernel, by decide⟩
set_option maxRecDepth 20000 in
theorem okX12_here : q_Ok mX12_here 0 := ⟨(qT6 239 rfl rfl), (qT1 14 rfl rfl), by decide +kernel, by decide⟩
set_option maxRecDepth 20000 in
theorem okX12_isFigure : q_Ok mX12_isFigure 1 := ⟨(qT7 2 rfl rfl), (qT1 14 rfl rfl), by decide +kernel, by decide⟩
set_option maxRecDepth 20000 in
theorem okX12_fails : q_Ok mX12_fails 1 := ⟨(qT6 227 rfl rfl), (qT1 14 rfl rfl), by decide +kernel, by decide⟩
set_option maxRecDepth 20000 in
theorem okX12_takes : q_Ok mX12_takes 1 := ⟨(qT7 6 rfl rfl), (qT1 14 rfl rfl), by decide +kernel, by decide⟩
set_option maxRecDepth 20000 in
theorem okX12_readNumber : q_Ok mX12_readNumber 2 := ⟨(qT6 235 rfl rfl), (qT1 14 rfl rfl), by decide +kernel, by decide⟩
set_option maxRecDepth 20000 in
theorem okX12_reads : q_Ok mX12_reads 3 := ⟨(qT6 231 rfl rfl), (qT1 14 rfl rfl), by decide +kernel, by decide⟩
set_option maxRecDepth 20000 in
theorem okX12_readLimit : q_Ok mX12_readLimit 0 := ⟨(qT7 23 rfl rfl), (qT1 14 rfl rfl), by decide +kernel, by decide⟩
set_option maxRecDepth 20000 in
theorem okX12_placeOf : q_Ok mX12_placeOf 2 := ⟨(qT7 35 rfl rfl), (qT1 14 rfl rfl), by decide +kernel, by decide⟩
set_option maxRecDepth 20000 in
theorem okX12_of : q_Ok mX12_of 2 := ⟨(qT7 39 rfl rfl), (qT1 14 rfl rfl), by decide +kernel, by decide⟩
set_option maxRecDepth 20000 in
theorem okX12_lesser : q_Ok mX12_lesser 2 := ⟨(qT7 42 rfl rfl), (qT1 14 rfl rfl), by decide +kernel, by decide⟩
set_option maxRecDepth 20000 in
theorem okX12_greater : q_Ok mX12_greater 2 := ⟨(qT7 121 rfl rfl), (qT1 14 rfl rfl), by decide +kernel, by decide⟩
set_option maxRecDepth 20000 in
theorem okX12_lastOf : q_Ok mX12_lastOf 1 := ⟨(qT7 58 rfl rfl), (qT1 14 rfl rfl), by decide +kernel, by decide⟩
set_option maxRecDepth 20000 in
theorem okX12_partsFrom : q_Ok mX12_partsFrom 2 := ⟨(qT7 54 rfl rfl), (qT1 14 rfl rfl), by decide +kernel, by decide⟩
set_option maxRecDepth 20000 in
theorem okX12_pieceOf : q_Ok mX12_pieceOf 3 := ⟨(qT7 61 rfl rfl), (qT1 14 rfl rfl), by decide +kernel, by decide⟩
set_option maxRecDepth 20000 in
theorem okX12_spreads : q_Ok mX12_spreads 3 := ⟨(qT7 50 rfl rfl), (qT1 14 rfl rfl), by decide +kernel, by decide⟩
set_option maxRecDepth 20000 in
theorem okX12_readContract : q_Ok mX12_readContract 0 := ⟨(qT7 32 rfl rfl), (qT1 14 rfl rfl), by decide +kernel, by decide⟩
set_option maxRecDepth 20000 in
theorem okX12_readDays : q_Ok mX12_readDays 0 := ⟨(qT7 28 rfl rfl), (qT1 14 rfl rfl), by decide +kernel, by decide⟩
set_option maxRecDepth 20000 in
theorem okX12_readItem : q_Ok mX12_readItem 0 := ⟨(qT7 19 rfl rfl), (qT1 14 rfl rfl), by decide +kernel, by decide⟩
set_option maxRecDepth 20000 in
theorem okX12_beginText : q_Ok mX12_beginText 0 := ⟨(qT6 219 rfl rfl), (qT1 14 rfl rfl), by decide +kernel, by decide⟩
set_option maxRecDepth 20000 in
theorem okX12_readOffer : q_Ok mX12_readOffer 0 := ⟨(qT6 223 rfl rfl), (qT1 14 rfl rfl), by decide +kernel, by decide⟩
set_option maxRecDepth 20000 in
theorem okX12_market : q_Ok mX12_market 0 := ⟨(qT6 215 rfl rfl), (qT1 14 rfl rfl), by decide +kernel, by decide⟩
set_option maxRecDepth 20000 in
theorem okX12_ends : q_Ok mX12_ends 0 := ⟨(qT7 11 rfl rfl), (qT1 14 rfl rfl), by decide +kernel, by decide⟩
set_option maxRecDepth 20000 in
theorem okX12_text : q_Ok mX12_text 0 := ⟨(qT7 15 rfl rfl), (qT1 14 rfl rfl), by decide +kernel, by decide⟩
set_option maxRecDepth 20000 in
theorem okX12_does : q_Ok mX12_does 1 := ⟨(qT7 84 rfl rfl), (qT1 14 rfl rfl), by decide +kernel, by decide⟩
set_option maxRecDepth 20000 in
theorem okX12_nameOf : q_Ok mX12_nameOf 1 := ⟨(qT7 80 rfl rfl), (qT1 14 rfl rfl), by decide +kernel, by decide⟩
set_option maxRecDepth 20000 in
theorem okX12_rankOf : q_Ok mX12_rankOf 1 := ⟨(qT7 96 rfl rfl), (qT1 14 rfl rfl), by decide +kernel, by decide⟩
set_option maxRecDepth 20000 in
theorem okX12_doesWaiting : q_Ok mX12_doesWaiting 1 := ⟨(qT7 93 rfl rfl), (qT1 14 rfl rfl), by decide +kernel, by decide⟩
set_option maxRecDepth 20000 in
theorem okX12_waitsFor : q_Ok mX12_waitsFor 1 := ⟨(qT7 77 rfl rfl), (qT1 14 rfl rfl), by decide +kernel, by decide⟩
set_option maxRecDepth 20000 in
theorem okX12_readThing : q_Ok mX12_readThing 0 := ⟨(qT7 73 rfl rfl), (qT1 14 rfl rfl), by decide +kernel, by decide⟩
set_option maxRecDepth 20000 in
theorem okX12_closes : q_Ok mX12_closes 0 := ⟨(qT7 89 rfl rfl), (qT1 14 rfl rfl), by decide +kernel, by decide⟩
set_option maxRecDepth 20000 in
theorem okX12_readSum : q_Ok mX12_readSum 0 := ⟨(qT7 69 rfl rfl), (qT1 14 rfl rfl), by decide +kernel, by decide⟩
set_option maxRecDepth 20000 in
theorem okX12_policy : q_Ok mX12_policy 0 := ⟨(qT7 65 rfl rfl), (qT1 14 rfl rfl), by decide +kernel, by decide⟩
set_option maxRecDepth 20000 in
theorem okX12_joined : q_Ok mX12_joined 3 := ⟨(qT8 81 rfl rfl), (qT1 14 rfl rfl), by decide +kernel, by decide⟩
set_option maxRecDepth 20000 in
theorem okX12_worth : q_Ok mX12_worth 0 := ⟨(qT8 78 rfl rfl), (qT1 14 rfl rfl), by decide +kernel, by decide⟩
set_option maxRecDepth 20000 in
theorem okX12_isContract : q_Ok mX12_isContract 1 := ⟨(qT7 173 rfl rfl), (qT1 14 rfl rfl), by decide +kernel, by decide⟩
set_option maxRecDepth 20000 in
theorem okX12_isYear : q_Ok mX12_isYear 1 := ⟨(qT7 160 rfl rfl), (qT1 14 rfl rfl), by decide +kernel, by decide⟩
set_option maxRecDepth 20000 in
theorem okX12_isOpen : q_Ok mX12_isOpen 1 := ⟨(qT7 114 rfl rfl), (qT1 14 rfl rfl), by decide +kernel, by decide⟩
set_option maxRecDepth 20000 in
theorem okX12_canCut : q_Ok mX12_canCut 1 := ⟨(qT7 190 rfl rfl), (qT1 14 rfl rfl), by decide +kernel, by decide⟩
set_option maxRecDepth 20000 in
theorem okX12_endOf : q_Ok mX12_endOf 1 := ⟨(qT7 46 rfl rfl), (qT1 14 rfl rfl), by decide +kernel, by decide⟩
set_option maxRecDepth 20000 in
theorem okX12_hitOf : q_Ok mX12_hitOf 2 := ⟨(qT7 125 rfl rfl), (qT1 14 rfl rfl), by decide +kernel, by decide⟩
set_option maxRecDepth 20000 in
theorem okX12_partsBehind : q_Ok mX12_partsBehind 2 := ⟨(qT7 133 rfl rfl), (qT1 14 rfl rfl), by decide +kernel, by decide⟩
set_option maxRecDepth 20000 in
theorem okX12_sureOf : q_Ok mX12_sureOf 2 := ⟨(qT7 137 rfl rfl), (qT1 14 rfl rfl), by decide +kernel, by decide⟩
set_option maxRecDepth 20000 in
theorem okX12_deadNow : q_Ok mX12_deadNow 2 := ⟨(qT7 129 rfl rfl), (qT1 14 rfl rfl), by decide +kernel, by decide⟩
set_option maxRecDepth 20000 in
theorem okX12_deadLater : q_Ok mX12_deadLater 2 := ⟨(qT7 195 rfl rfl), (qT1 14 rfl rfl), by decide +kernel, by decide⟩
set_option maxRecDepth 20000 in
theorem okX12_deadInAll : q_Ok mX12_deadInAll 1 := ⟨(qT7 199 rfl rfl), (qT1 14 rfl rfl), by decide +kernel, by decide⟩
set_option maxRecDepth 20000 in
theorem okX12_mostOf : q_Ok mX12_mostOf 1 := ⟨(qT7 118 rfl rfl), (qT1 14 rfl rfl), by decide +kernel, by decide⟩
set_option maxRecDepth 20000 in
theorem okX12_layHits : q_Ok mX12_layHits 3 := ⟨(qT7 110 rfl rfl), (qT1 14 rfl rfl), by decide +kernel, by decide⟩
set_option maxRecDepth 20000 in
theorem okX12_promisesOf : q_Ok mX12_promisesOf 4 := ⟨(qT7 141 rfl rfl), (qT1 14 rfl rfl), by decide +kernel, by decide⟩
set_option maxRecDepth 20000 in
theorem okX12_countOf : q_Ok mX12_countOf 3 := ⟨(qT7 106 rfl rfl), (qT1 14 rfl rfl), by decide +kernel, by decide⟩
set_option maxRecDepth 20000 in
theorem okX12_roomOf : q_Ok mX12_roomOf 2 := ⟨(qT7 145 rfl rfl), (qT1 14 rfl rfl), by decide +kernel, by decide⟩
set_option maxRecDepth 20000 in
theorem okX12_savedOn : q_Ok mX12_savedOn 2 := ⟨(qT7 203 rfl rfl), (qT1 14 rfl rfl), by decide +kernel, by decide⟩
set_option maxRecDepth 20000 in
theorem okX12_now : q_Ok mX12_now 1 := ⟨(qT7 101 rfl rfl), (qT1 14 rfl rfl), by decide +kernel, by decide⟩
set_option maxRecDepth 20000 in
theorem okX12_howMany : q_Ok mX12_howMany 1 := ⟨(qT7 153 rfl rfl), (qT1 14 rfl rfl), by decide +kernel, by decide⟩
set_option maxRecDepth 20000 in
theorem okX12_is : q_Ok mX12_is 1 := ⟨(qT7 149 rfl rfl), (qT1 14 rfl rfl), by decide +kernel, by decide⟩
set_option maxRecDepth 20000 in
theorem okX12_limit : q_Ok mX12_limit 1 := ⟨(qT7 157 rfl rfl), (qT1 14 rfl rfl), by decide +kernel, by decide⟩
set_option maxRecDepth 20000 in
theorem okX12_dead : q_Ok mX12_dead 1 := ⟨(qT7 165 rfl rfl), (qT1 14 rfl rfl), by decide +kernel, by decide⟩
set_option maxRecDepth 20000 in
theorem okX12_yearsLeft : q_Ok mX12_yearsLeft 1 := ⟨(qT7 178 rfl rfl), (qT1 14 rfl rfl), by decide +kernel, by decide⟩
set_option maxRecDepth 20000 in
theorem okX12_contract : q_Ok mX12_contract 2 := ⟨(qT7 169 rfl rfl), (qT1 14 rfl rfl), by decide +kernel, by decide⟩
set_option maxRecDepth 20000 in
theorem okX12_pay : q_Ok mX12_pay 3 := ⟨(qT7 182 rfl rfl), (qT1 14 rfl rfl), by decide +kernel, by decide⟩
set_option maxRecDepth 20000 in
theorem okX12_would : q_Ok mX12_would 2 := ⟨(qT7 186 rfl rfl), (qT1 14 rfl rfl), by decide +kernel, by decide⟩
set_option maxRecDepth 20000 in
theorem okX12_refuses : q_Ok mX12_refuses 1 := ⟨(qT7 219 rfl rfl), (qT1 14 rfl rfl), by decide +kernel, by decide⟩
set_option maxRecDepth 20000 in
theorem okX12_why : q_Ok mX12_why 0 := ⟨(qT7 207 rfl rfl), (qT1 14 rfl rfl), by decide +kernel, by decide⟩
set_option maxRecDepth 20000 in
theorem okX12_whyNot : q_Ok mX12_whyNot 1 := ⟨(qT7 215 rfl rfl), (qT1 14 rfl rfl), by decide +kernel, by decide⟩
set_option maxRecDepth 20000 in
theorem okX12_cuts : q_Ok mX12_cuts 1 := ⟨(qT7 223 rfl rfl), (qT1 14 rfl rfl), by decide +kernel, by decide⟩
set_option maxRecDepth 20000 in
theorem okX12_closesFor : q_Ok mX12_closesFor 2 := ⟨(qT7 227 rfl rfl), (qT1 14 rfl rfl), by decide +kernel, by decide⟩
set_option maxRecDepth 20000 in
theorem okX12_cut : q_Ok mX12_cut 1 := ⟨(qT7 211 rfl rfl), (qT1 14 rfl rfl), by decide +kernel, by decide⟩
set_option maxRecDepth 20000 in
theorem okX12_trade : q_Ok mX12_trade 1 := ⟨(qT7 231 rfl rfl), (qT1 14 rfl rfl), by decide +kernel, by decide⟩
set_option maxRecDepth 20000 in
theorem okX12_promise : q_Ok mX12_promise 4 := ⟨(qT7 235 rfl rfl), (qT1 14 rfl rfl), by decide +kernel, by decide⟩
set_option maxRecDepth 20000 in
theorem okX12_isPromise : q_Ok mX12_isPromise 1 := ⟨(qT8 4 rfl rfl), (qT1 14 rfl rfl), by decide +kernel, by decide⟩
set_option maxRecDepth 20000 in
theorem okX12_earn : q_Ok mX12_earn 1 := ⟨(qT8 0 rfl rfl), (qT1 14 rfl rfl), by decide +kernel, by decide⟩
set_option maxRecDepth 20000 in
theorem okX12_promised : q_Ok mX12_promised 2 := ⟨(qT8 8 rfl rfl), (qT1 14 rfl rfl), by decide +kernel, by decide⟩
set_option maxRecDepth 20000 in
theorem okX12_isOffer : q_Ok mX12_isOffer 1 := ⟨(qT8 17 rfl rfl), (qT1 14 rfl rfl), by decide +kernel, by decide⟩
set_option maxRecDepth 20000 in
theorem okX12_hitOfOffer : q_Ok mX12_hitOfOffer 1 := ⟨(qT8 21 rfl rfl), (qT1 14 rfl rfl), by decide +kernel, by decide⟩
set_option maxRecDepth 20000 in
theorem okX12_offer : q_Ok mX12_offer 2 := ⟨(qT8 13 rfl rfl), (qT1 14 rfl rfl), by decide +kernel, by decide⟩
set_option maxRecDepth 20000 in
theorem okX12_buys : q_Ok mX12_buys 1 := ⟨(qT8 25 rfl rfl), (qT1 14 rfl rfl), by decide +kernel, by decide⟩
set_option maxRecDepth 20000 in
theorem okX12_whyNotSign : q_Ok mX12_whyNotSign 1 := ⟨(qT8 37 rfl rfl), (qT1 14 rfl rfl), by decide +kernel, by decide⟩
set_option maxRecDepth 20000 in
theorem okX12_sign : q_Ok mX12_sign 1 := ⟨(qT8 33 rfl rfl), (qT1 14 rfl rfl), by decide +kernel, by decide⟩
set_option maxRecDepth 20000 in
theorem okX12_whyNotLess : q_Ok mX12_whyNotLess 2 := ⟨(qT8 45 rfl rfl), (qT1 14 rfl rfl), by decide +kernel, by decide⟩
set_option maxRecDepth 20000 in
theorem okX12_turn : q_Ok mX12_turn 2 := ⟨(qT8 41 rfl rfl), (qT1 14 rfl rfl), by decide +kernel, by decide⟩
set_option maxRecDepth 20000 in
theorem okX12_lower : q_Ok mX12_lower 2 := ⟨(qT8 49 rfl rfl), (qT1 14 rfl rfl), by decide +kernel, by decide⟩
set_option maxRecDepth 20000 in
theorem okX12_whyNotLonger : q_Ok mX12_whyNotLonger 4 := ⟨(qT8 57 rfl rfl), (qT1 14 rfl rfl), by decide +kernel, by decide⟩
set_option maxRecDepth 20000 in
theorem okX12_longer : q_Ok mX12_longer 4 := ⟨(qT8 53 rfl rfl), (qT1 14 rfl rfl), by decide +kernel, by decide⟩
set_option maxRecDepth 20000 in
theorem okX12_days : q_Ok mX12_days 1 := ⟨(qT8 62 rfl rfl), (qT1 14 rfl rfl), by decide +kernel, by decide⟩
set_option maxRecDepth 20000 in
theorem okX12_year : q_Ok mX12_year 0 := ⟨(qT8 66 rfl rfl), (qT1 14 rfl rfl), by decide +kernel, by decide⟩
set_option maxRecDepth 20000 in
theorem okX12_saysOf : q_Ok mX12_saysOf 1 := ⟨(qT8 74 rfl rfl), (qT1 14 rfl rfl), by decide +kernel, by decide⟩
set_option maxRecDepth 20000 in
theorem okX12_says : q_Ok mX12_says 1 := ⟨(qT8 70 rfl rfl), (qT1 14 rfl rfl), by decide +kernel, by decide⟩
set_option maxRecDepth 20000 in
theorem okX12_isGoal : q_Ok mX12_isGoal 1 := ⟨(qT8 89 rfl rfl), (qT1 14 rfl rfl), by decide +kernel, by decide⟩
set_option maxRecDepth 20000 in
theorem okX12_byPolicy : q_Ok mX12_byPolicy 1 := ⟨(qT8 86 rfl rfl), (qT1 14 rfl rfl), by decide +kernel, by decide⟩
set_option maxRecDepth 20000 in
theorem okX12_laySome : q_Ok mX12_laySome 1 := ⟨(qT8 99 rfl rfl), (qT1 14 rfl rfl), by decide +kernel, by decide⟩
set_option maxRecDepth 20000 in
theorem okX12_bits : q_Ok mX12_bits 1 := ⟨(qT8 29 rfl rfl), (qT1 14 rfl rfl), by decide +kernel, by decide⟩
set_option maxRecDepth 20000 in
theorem okX12_deadOf : q_Ok mX12_deadOf 1 := ⟨(qT8 103 rfl rfl), (qT1 14 rfl rfl), by decide +kernel, by decide⟩
set_option maxRecDepth 20000 in
theorem okX12_contractsOf : q_Ok mX12_contractsOf 1 := ⟨(qT8 107 rfl rfl), (qT1 14 rfl rfl), by decide +kernel, by decide⟩
set_option maxRecDepth 20000 in
theorem okX12_set : q_Ok mX12_set 2 := ⟨(qT8 95 rfl rfl), (qT1 14 rfl rfl), by decide +kernel, by decide⟩
set_option maxRecDepth 20000 in
theorem okX12_fit : q_Ok mX12_fit 2 := ⟨(qT8 111 rfl rfl), (qT1 14 rfl rfl), by decide +kernel, by decide⟩
set_option maxRecDepth 20000 in
theorem okX12_turned : q_Ok mX12_turned 2 := ⟨(qT8 115 rfl rfl), (qT1 14 rfl rfl), by decide +kernel, by decide⟩
set_option maxRecDepth 20000 in
theorem okX12_allTurned : q_Ok mX12_allTurned 0 := ⟨(qT8 119 rfl rfl), (qT1 14 rfl rfl), by decide +kernel, by decide⟩
set_option maxRecDepth 20000 in
theorem okX12_piece : q_Ok mX12_piece 3 := ⟨(qT8 123 rfl rfl), (qT1 14 rfl rfl), by decide +kernel, by decide⟩
set_option maxRecDepth 20000 in
theorem okX12_ahead : q_Ok mX12_ahead 1 := ⟨(qT8 127 rfl rfl), (qT1 14 rfl rfl), by decide +kernel, by decide⟩
set_option maxRecDepth 20000 in
theorem okX12_over : q_Ok mX12_over 1 := ⟨(qT8 131 rfl rfl), (qT1 14 rfl rfl), by decide +kernel, by decide⟩
set_option maxRecDepth 20000 in
theorem okX12_bestDay : q_Ok mX12_bestDay 1 := ⟨(qT8 137 rfl rfl), (qT1 14 rfl rfl), by decide +kernel, by decide⟩
set_option maxRecDepth 20000 in
theorem okX12_lastDay : q_Ok mX12_lastDay 2 := ⟨(qT8 141 rfl rfl), (qT1 14 rfl rfl), by decide +kernel, by decide⟩
set_option maxRecDepth 20000 in
theorem okX12_freeYear : q_Ok mX12_freeYear 1 := ⟨(qT8 145 rfl rfl), (qT1 14 rfl rfl), by decide +kernel, by decide⟩
set_option maxRecDepth 20000 in
theorem okX12_coins : q_Ok mX12_coins 2 := ⟨(qT8 149 rfl rfl), (qT1 14 rfl rfl), by decide +kernel, by decide⟩
set_option maxRecDepth 20000 in
theorem okX12_cashOf : q_Ok mX12_cashOf 2 := ⟨(qT8 157 rfl rfl), (qT1 14 rfl rfl), by decide +kernel, by decide⟩
set_option maxRecDepth 20000 in
theorem okX12_cash : q_Ok mX12_cash 2 := ⟨(qT8 153 rfl rfl), (qT1 14 rfl rfl), by decide +kernel, by decide⟩
set_option maxRecDepth 20000 in
theorem okX12_allCash : q_Ok mX12_allCash 1 := ⟨(qT8 161 rfl rfl), (qT1 14 rfl rfl), by decide +kernel, by decide⟩
set_option maxRecDepth 20000 in
theorem okX12_floor : q_Ok mX12_floor 2 := ⟨(qT8 165 rfl rfl), (qT1 14 rfl rfl), by decide +kernel, by decide⟩
set_option maxRecDepth 20000 in
theorem okX12_placed : q_Ok mX12_placed 2 := ⟨(qT8 174 rfl rfl), (qT1 14 rfl rfl), by decide +kernel, by decide⟩
set_option maxRecDepth 20000 in
theorem okX12_ranked : q_Ok mX12_ranked 1 := ⟨(qT8 170 rfl rfl), (qT1 14 rfl rfl), by decide +kernel, by decide⟩
set_option maxRecDepth 20000 in
theorem okX12_dearest : q_Ok mX12_dearest 1 := ⟨(qT8 178 rfl rfl), (qT1 14 rfl rfl), by decide +kernel, by decide⟩
set_option maxRecDepth 20000 in
theorem okX12_tag : q_Ok mX12_tag 1 := ⟨(qT8 182 rfl rfl), (qT1 14 rfl rfl), by decide +kernel, by decide⟩
set_option maxRecDepth 20000 in
theorem okX12_counted : q_Ok mX12_counted 1 := ⟨(qT8 187 rfl rfl), (qT1 14 rfl rfl), by decide +kernel, by decide⟩
set_option maxRecDepth 20000 in
theorem okX12_share : q_Ok mX12_share 1 := ⟨(qT8 191 rfl rfl), (qT1 14 rfl rfl), by decide +kernel, by decide⟩
set_option maxRecDepth 20000 in
theorem okX12_readAct : q_Ok mX12_readAct 0 := ⟨(qT8 202 rfl rfl), (qT1 14 rfl rfl), by decide +kernel, by decide⟩
set_option maxRecDepth 20000 in
theorem okX12_doAct : q_Ok mX12_doAct 1 := ⟨(qT8 206 rfl rfl), (qT1 14 rfl rfl), by decide +kernel, by decide⟩
set_option maxRecDepth 20000 in
theorem okX12_acts : q_Ok mX12_acts 0 := ⟨(qT8 198 rfl rfl), (qT1 14 rfl rfl), by decide +kernel, by decide⟩
set_option maxRecDepth 20000 in
theorem okX12_ended : q_Ok mX12_ended 0 := ⟨(qT8 214 rfl rfl), (qT1 14 rfl rfl), by decide +kernel, by decide⟩
set_option maxRecDepth 20000 in
theorem okX12_writes : q_Ok mX12_writes 1 := ⟨(qT8 222 rfl rfl), (qT1 14 rfl rfl), by decide +kernel, by decide⟩
set_option maxRecDepth 20000 in
theorem okX12_writeNumber : q_Ok mX12_writeNumber 2 := ⟨(qT8 226 rfl rfl), (qT1 14 rfl rfl), by decide +kernel, by decide⟩
set_option maxRecDepth 20000 in
theorem okX12_write : q_Ok mX12_write 0 := ⟨(qT8 218 rfl rfl), (qT1 14 rfl rfl), by decide +kernel, by decide⟩
set_option maxRecDepth 20000 in
theorem okX12_octet : q_Ok mX12_octet 1 := ⟨(qT8 230 rfl rfl), (qT1 14 rfl rfl), by decide +kernel, by decide⟩
set_option maxRecDepth 20000 in
theorem okJ6_bitCount_0f7a4 : q_Ok mJ6_bitCount_0f7a4 1 := ⟨(qT5 135 rfl rfl), (qT1 20 rfl rfl), by decide +kernel, by decide⟩
set_option maxRecDepth 20000 in
theorem okJ9_max_7cf53 : q_Ok mJ9_max_7cf53 2 := ⟨(qT2 51 rfl rfl), (qT1 10 rfl rfl), by decide +kernel, by decide⟩
set_option maxRecDepth 20000 in
theorem okJ9_min_7cf53 : q_Ok mJ9_min_7cf53 2 := ⟨(qT3 87 rfl rfl), (qT1 10 rfl rfl), by decide +kernel, by decide⟩
set_option maxRecDepth 20000 in
theorem okJ9_min_f86c9 : q_Ok mJ9_min_f86c9 2 := ⟨(qT6 15 rfl rfl), (qT1 10 rfl rfl), by decide +kernel, by decide⟩
set_option maxRecDepth 20000 in
theorem okJ0_charAt_5068e : q_Ok mJ0_charAt_5068e 1 := ⟨(qT3 159 rfl rfl), (qT1 16 rfl rfl), by decide +kernel, by decide⟩
set_option maxRecDepth 20000 in
theorem okJ0_isLatin1_aae02 : q_Ok mJ0_isLatin1_aae02 0 := ⟨(qT3 163 rfl rfl), (qT1 16 rfl rfl), by decide +kernel, by decide⟩
set_option maxRecDepth 20000 in
theorem okJ0_checkIndex_df160 : q_Ok mJ0_checkIndex_df160 2 := ⟨(qT3 171 rfl rfl), (qT1 16 rfl rfl), by decide +kernel, by decide⟩
set_option maxRecDepth 20000 in
theorem okJ1_charAt_3b067 : q_Ok mJ1_charAt_3b067 2 := ⟨(qT3 168 rfl rfl), (qT1 17 rfl rfl), by decide +kernel, by decide⟩
set_option maxRecDepth 20000 in
theorem okJ2_getChar_3b067 : q_Ok mJ2_getChar_3b067 2 := ⟨(qT3 189 rfl rfl), (qT1 19 rfl rfl), by decide +kernel, by decide⟩
set_option maxRecDepth 20000 in
theorem okJ2_length_9d52b : q_Ok mJ2_length_9d52b 1 := ⟨(qT3 185 rfl rfl), (qT1 19 rfl rfl), by decide +kernel, by decide⟩
set_option maxRecDepth 20000 in
theorem okJ2_charAt_3b067 : q_Ok mJ2_charAt_3b067 2 := ⟨(qT3 179 rfl rfl), (qT1 19 rfl rfl), by decide +kernel, by decide⟩
set_option maxRecDepth 20000 in
theorem okJ2_checkIndex_2214a : q_Ok mJ2_checkIndex_2214a 2 := ⟨(qT3 182 rfl rfl), (qT1 19 rfl rfl), by decide +kernel, by decide⟩
set_option maxRecDepth 20000 in
theorem okJ3_checkIndex_8e157 : q_Ok mJ3_checkIndex_8e157 3 := ⟨(qT3 176 rfl rfl), (qT1 18 rfl rfl), by decide +kernel, by decide⟩
