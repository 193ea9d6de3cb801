set_option maxRecDepth 20000 in
theorem okX0_init : q_Ok mX0_init 0 := ⟨(q_w 412 (by decide +kernel) (by decide +kernel)), (q_w 102 (by decide +kernel) (by decide +kernel)), by decide +kernel, by decide⟩
set_option maxRecDepth 20000 in
theorem okX0_read : q_Ok mX0_read 1 := ⟨(q_w 811 (by decide +kernel) (by decide +kernel)), (q_w 102 (by decide +kernel) (by decide +kernel)), by decide +kernel, by decide⟩
set_option maxRecDepth 20000 in
theorem okX0_readAct : q_Ok mX0_readAct 2 := ⟨(q_w 816 (by decide +kernel) (by decide +kernel)), (q_w 102 (by decide +kernel) (by decide +kernel)), by decide +kernel, by decide⟩
set_option maxRecDepth 20000 in
theorem okX1_init : q_Ok mX1_init 0 := ⟨(q_w 124 (by decide +kernel) (by decide +kernel)), (q_w 93 (by decide +kernel) (by decide +kernel)), by decide +kernel, by decide⟩
set_option maxRecDepth 20000 in
theorem okX1_copyFrom : q_Ok mX1_copyFrom 1 := ⟨(q_w 573 (by decide +kernel) (by decide +kernel)), (q_w 93 (by decide +kernel) (by decide +kernel)), by decide +kernel, by decide⟩
set_option maxRecDepth 20000 in
theorem okX1_find : q_Ok mX1_find 1 := ⟨(q_w 839 (by decide +kernel) (by decide +kernel)), (q_w 93 (by decide +kernel) (by decide +kernel)), by decide +kernel, by decide⟩
set_option maxRecDepth 20000 in
theorem okX1_findBegun : q_Ok mX1_findBegun 1 := ⟨(q_w 851 (by decide +kernel) (by decide +kernel)), (q_w 93 (by decide +kernel) (by decide +kernel)), by decide +kernel, by decide⟩
set_option maxRecDepth 20000 in
theorem okX1_addContract : q_Ok mX1_addContract 0 := ⟨(q_w 663 (by decide +kernel) (by decide +kernel)), (q_w 93 (by decide +kernel) (by decide +kernel)), by decide +kernel, by decide⟩
set_option maxRecDepth 20000 in
theorem okX1_manyThatAre : q_Ok mX1_manyThatAre 1 := ⟨(q_w 893 (by decide +kernel) (by decide +kernel)), (q_w 93 (by decide +kernel) (by decide +kernel)), by decide +kernel, by decide⟩
set_option maxRecDepth 20000 in
theorem okX1_refusal : q_Ok mX1_refusal 1 := ⟨(q_w 835 (by decide +kernel) (by decide +kernel)), (q_w 93 (by decide +kernel) (by decide +kernel)), by decide +kernel, by decide⟩
set_option maxRecDepth 20000 in
theorem okX1_payRefusal : q_Ok mX1_payRefusal 2 := ⟨(q_w 901 (by decide +kernel) (by decide +kernel)), (q_w 93 (by decide +kernel) (by decide +kernel)), by decide +kernel, by decide⟩
set_option maxRecDepth 20000 in
theorem okX1_longerRefusal : q_Ok mX1_longerRefusal 4 := ⟨(q_w 1112 (by decide +kernel) (by decide +kernel)), (q_w 93 (by decide +kernel) (by decide +kernel)), by decide +kernel, by decide⟩
set_option maxRecDepth 20000 in
theorem okX1_signRefusal : q_Ok mX1_signRefusal 1 := ⟨(q_w 1064 (by decide +kernel) (by decide +kernel)), (q_w 93 (by decide +kernel) (by decide +kernel)), by decide +kernel, by decide⟩
set_option maxRecDepth 20000 in
theorem okX1_takeOffer : q_Ok mX1_takeOffer 1 := ⟨(q_w 1072 (by decide +kernel) (by decide +kernel)), (q_w 93 (by decide +kernel) (by decide +kernel)), by decide +kernel, by decide⟩
set_option maxRecDepth 20000 in
theorem okX1_fullPlaces : q_Ok mX1_fullPlaces 1 := ⟨(q_w 958 (by decide +kernel) (by decide +kernel)), (q_w 93 (by decide +kernel) (by decide +kernel)), by decide +kernel, by decide⟩
set_option maxRecDepth 20000 in
theorem okX1_deadPay : q_Ok mX1_deadPay 3 := ⟨(q_w 873 (by decide +kernel) (by decide +kernel)), (q_w 93 (by decide +kernel) (by decide +kernel)), by decide +kernel, by decide⟩
set_option maxRecDepth 20000 in
theorem okX1_deadPartsNow : q_Ok mX1_deadPartsNow 2 := ⟨(q_w 856 (by decide +kernel) (by decide +kernel)), (q_w 93 (by decide +kernel) (by decide +kernel)), by decide +kernel, by decide⟩
set_option maxRecDepth 20000 in
theorem okX1_deadNow : q_Ok mX1_deadNow 2 := ⟨(q_w 869 (by decide +kernel) (by decide +kernel)), (q_w 93 (by decide +kernel) (by decide +kernel)), by decide +kernel, by decide⟩
set_option maxRecDepth 20000 in
theorem okX1_deadNext : q_Ok mX1_deadNext 2 := ⟨(q_w 889 (by decide +kernel) (by decide +kernel)), (q_w 93 (by decide +kernel) (by decide +kernel)), by decide +kernel, by decide⟩
set_option maxRecDepth 20000 in
theorem okX1_deadInAll : q_Ok mX1_deadInAll 1 := ⟨(q_w 1042 (by decide +kernel) (by decide +kernel)), (q_w 93 (by decide +kernel) (by decide +kernel)), by decide +kernel, by decide⟩
set_option maxRecDepth 20000 in
theorem okX1_release : q_Ok mX1_release 2 := ⟨(q_w 847 (by decide +kernel) (by decide +kernel)), (q_w 93 (by decide +kernel) (by decide +kernel)), by decide +kernel, by decide⟩
set_option maxRecDepth 20000 in
theorem okX1_mostTurned : q_Ok mX1_mostTurned 1 := ⟨(q_w 1178 (by decide +kernel) (by decide +kernel)), (q_w 93 (by decide +kernel) (by decide +kernel)), by decide +kernel, by decide⟩
set_option maxRecDepth 20000 in
theorem okX1_countAhead : q_Ok mX1_countAhead 1 := ⟨(q_w 1213 (by decide +kernel) (by decide +kernel)), (q_w 93 (by decide +kernel) (by decide +kernel)), by decide +kernel, by decide⟩
set_option maxRecDepth 20000 in
theorem okX1_cashOfAll : q_Ok mX1_cashOfAll 1 := ⟨(q_w 1288 (by decide +kernel) (by decide +kernel)), (q_w 93 (by decide +kernel) (by decide +kernel)), by decide +kernel, by decide⟩
set_option maxRecDepth 20000 in
theorem okX1_passYear : q_Ok mX1_passYear 1 := ⟨(q_w 966 (by decide +kernel) (by decide +kernel)), (q_w 93 (by decide +kernel) (by decide +kernel)), by decide +kernel, by decide⟩
set_option maxRecDepth 20000 in
theorem okX1_promisesSettled : q_Ok mX1_promisesSettled 0 := ⟨(q_w 971 (by decide +kernel) (by decide +kernel)), (q_w 93 (by decide +kernel) (by decide +kernel)), by decide +kernel, by decide⟩
set_option maxRecDepth 20000 in
theorem okX2_init : q_Ok mX2_init 1 := ⟨(q_w 378 (by decide +kernel) (by decide +kernel)), (q_w 100 (by decide +kernel) (by decide +kernel)), by decide +kernel, by decide⟩
set_option maxRecDepth 20000 in
theorem okX2_at : q_Ok mX2_at 1 := ⟨(q_w 620 (by decide +kernel) (by decide +kernel)), (q_w 100 (by decide +kernel) (by decide +kernel)), by decide +kernel, by decide⟩
set_option maxRecDepth 20000 in
theorem okX2_add : q_Ok mX2_add 1 := ⟨(q_w 561 (by decide +kernel) (by decide +kernel)), (q_w 100 (by decide +kernel) (by decide +kernel)), by decide +kernel, by decide⟩
set_option maxRecDepth 20000 in
theorem okX2_addWord : q_Ok mX2_addWord 1 := ⟨(q_w 557 (by decide +kernel) (by decide +kernel)), (q_w 100 (by decide +kernel) (by decide +kernel)), by decide +kernel, by decide⟩
set_option maxRecDepth 20000 in
theorem okX2_addNumber : q_Ok mX2_addNumber 1 := ⟨(q_w 1367 (by decide +kernel) (by decide +kernel)), (q_w 100 (by decide +kernel) (by decide +kernel)), by decide +kernel, by decide⟩
set_option maxRecDepth 20000 in
theorem okX3_init : q_Ok mX3_init 0 := ⟨(q_w 466 (by decide +kernel) (by decide +kernel)), (q_w 104 (by decide +kernel) (by decide +kernel)), by decide +kernel, by decide⟩
set_option maxRecDepth 20000 in
theorem okX3_gather : q_Ok mX3_gather 3 := ⟨(q_w 1170 (by decide +kernel) (by decide +kernel)), (q_w 104 (by decide +kernel) (by decide +kernel)), by decide +kernel, by decide⟩
set_option maxRecDepth 20000 in
theorem okX3_sumOf : q_Ok mX3_sumOf 2 := ⟨(q_w 1183 (by decide +kernel) (by decide +kernel)), (q_w 104 (by decide +kernel) (by decide +kernel)), by decide +kernel, by decide⟩
set_option maxRecDepth 20000 in
theorem okX3_chooseSet : q_Ok mX3_chooseSet 3 := ⟨(q_w 1166 (by decide +kernel) (by decide +kernel)), (q_w 104 (by decide +kernel) (by decide +kernel)), by decide +kernel, by decide⟩
set_option maxRecDepth 20000 in
theorem okX3_chooseFit : q_Ok mX3_chooseFit 3 := ⟨(q_w 1250 (by decide +kernel) (by decide +kernel)), (q_w 104 (by decide +kernel) (by decide +kernel)), by decide +kernel, by decide⟩
set_option maxRecDepth 20000 in
theorem okX3_digits : q_Ok mX3_digits 2 := ⟨(q_w 1254 (by decide +kernel) (by decide +kernel)), (q_w 104 (by decide +kernel) (by decide +kernel)), by decide +kernel, by decide⟩
set_option maxRecDepth 20000 in
theorem okX3_arrange : q_Ok mX3_arrange 3 := ⟨(q_w 1258 (by decide +kernel) (by decide +kernel)), (q_w 104 (by decide +kernel) (by decide +kernel)), by decide +kernel, by decide⟩
set_option maxRecDepth 20000 in
theorem okX3_chooseOffers : q_Ok mX3_chooseOffers 2 := ⟨(q_w 1328 (by decide +kernel) (by decide +kernel)), (q_w 104 (by decide +kernel) (by decide +kernel)), by decide +kernel, by decide⟩
set_option maxRecDepth 20000 in
theorem okX4_init : q_Ok mX4_init 0 := ⟨(q_w 230 (by decide +kernel) (by decide +kernel)), (q_w 97 (by decide +kernel) (by decide +kernel)), by decide +kernel, by decide⟩
set_option maxRecDepth 20000 in
theorem okX4_start : q_Ok mX4_start 4 := ⟨(q_w 667 (by decide +kernel) (by decide +kernel)), (q_w 97 (by decide +kernel) (by decide +kernel)), by decide +kernel, by decide⟩
set_option maxRecDepth 20000 in
theorem okX4_copyFrom : q_Ok mX4_copyFrom 1 := ⟨(q_w 580 (by decide +kernel) (by decide +kernel)), (q_w 97 (by decide +kernel) (by decide +kernel)), by decide +kernel, by decide⟩
set_option maxRecDepth 20000 in
theorem okX4_plays : q_Ok mX4_plays 1 := ⟨(q_w 885 (by decide +kernel) (by decide +kernel)), (q_w 97 (by decide +kernel) (by decide +kernel)), by decide +kernel, by decide⟩
set_option maxRecDepth 20000 in
theorem okX4_isOpen : q_Ok mX4_isOpen 0 := ⟨(q_w 843 (by decide +kernel) (by decide +kernel)), (q_w 97 (by decide +kernel) (by decide +kernel)), by decide +kernel, by decide⟩
set_option maxRecDepth 20000 in
theorem okX4_lastYear : q_Ok mX4_lastYear 0 := ⟨(q_w 679 (by decide +kernel) (by decide +kernel)), (q_w 97 (by decide +kernel) (by decide +kernel)), by decide +kernel, by decide⟩
set_option maxRecDepth 20000 in
theorem okX4_yearsLeft : q_Ok mX4_yearsLeft 1 := ⟨(q_w 1010 (by decide +kernel) (by decide +kernel)), (q_w 97 (by decide +kernel) (by decide +kernel)), by decide +kernel, by decide⟩
set_option maxRecDepth 20000 in
theorem okX4_basePay : q_Ok mX4_basePay 1 := ⟨(q_w 906 (by decide +kernel) (by decide +kernel)), (q_w 97 (by decide +kernel) (by decide +kernel)), by decide +kernel, by decide⟩
set_option maxRecDepth 20000 in
theorem okX4_rosterBonus : q_Ok mX4_rosterBonus 1 := ⟨(q_w 881 (by decide +kernel) (by decide +kernel)), (q_w 97 (by decide +kernel) (by decide +kernel)), by decide +kernel, by decide⟩
set_option maxRecDepth 20000 in
theorem okX4_partsIn : q_Ok mX4_partsIn 1 := ⟨(q_w 865 (by decide +kernel) (by decide +kernel)), (q_w 97 (by decide +kernel) (by decide +kernel)), by decide +kernel, by decide⟩
set_option maxRecDepth 20000 in
theorem okX4_partsFrom : q_Ok mX4_partsFrom 1 := ⟨(q_w 860 (by decide +kernel) (by decide +kernel)), (q_w 97 (by decide +kernel) (by decide +kernel)), by decide +kernel, by decide⟩
set_option maxRecDepth 20000 in
theorem okX4_hit : q_Ok mX4_hit 1 := ⟨(q_w 916 (by decide +kernel) (by decide +kernel)), (q_w 97 (by decide +kernel) (by decide +kernel)), by decide +kernel, by decide⟩
set_option maxRecDepth 20000 in
theorem okX4_sureBase : q_Ok mX4_sureBase 1 := ⟨(q_w 877 (by decide +kernel) (by decide +kernel)), (q_w 97 (by decide +kernel) (by decide +kernel)), by decide +kernel, by decide⟩
set_option maxRecDepth 20000 in
theorem okX4_cashIn : q_Ok mX4_cashIn 1 := ⟨(q_w 1280 (by decide +kernel) (by decide +kernel)), (q_w 97 (by decide +kernel) (by decide +kernel)), by decide +kernel, by decide⟩
set_option maxRecDepth 20000 in
theorem okX4_putPay : q_Ok mX4_putPay 3 := ⟨(q_w 687 (by decide +kernel) (by decide +kernel)), (q_w 97 (by decide +kernel) (by decide +kernel)), by decide +kernel, by decide⟩
set_option maxRecDepth 20000 in
theorem okX4_takeFromBase : q_Ok mX4_takeFromBase 2 := ⟨(q_w 911 (by decide +kernel) (by decide +kernel)), (q_w 97 (by decide +kernel) (by decide +kernel)), by decide +kernel, by decide⟩
set_option maxRecDepth 20000 in
theorem okX4_addYears : q_Ok mX4_addYears 2 := ⟨(q_w 1117 (by decide +kernel) (by decide +kernel)), (q_w 97 (by decide +kernel) (by decide +kernel)), by decide +kernel, by decide⟩
set_option maxRecDepth 20000 in
theorem okX4_partOf : q_Ok mX4_partOf 3 := ⟨(q_w 675 (by decide +kernel) (by decide +kernel)), (q_w 97 (by decide +kernel) (by decide +kernel)), by decide +kernel, by decide⟩
set_option maxRecDepth 20000 in
theorem okX4_partOfMany : q_Ok mX4_partOfMany 3 := ⟨(q_w 682 (by decide +kernel) (by decide +kernel)), (q_w 97 (by decide +kernel) (by decide +kernel)), by decide +kernel, by decide⟩
set_option maxRecDepth 20000 in
theorem okX4_spread : q_Ok mX4_spread 2 := ⟨(q_w 671 (by decide +kernel) (by decide +kernel)), (q_w 97 (by decide +kernel) (by decide +kernel)), by decide +kernel, by decide⟩
set_option maxRecDepth 20000 in
theorem okX5_init : q_Ok mX5_init 0 := ⟨(q_w 203 (by decide +kernel) (by decide +kernel)), (q_w 96 (by decide +kernel) (by decide +kernel)), by decide +kernel, by decide⟩
set_option maxRecDepth 20000 in
theorem okX5_copyFrom : q_Ok mX5_copyFrom 1 := ⟨(q_w 595 (by decide +kernel) (by decide +kernel)), (q_w 96 (by decide +kernel) (by decide +kernel)), by decide +kernel, by decide⟩
set_option maxRecDepth 20000 in
theorem okX5_read : q_Ok mX5_read 1 := ⟨(q_w 710 (by decide +kernel) (by decide +kernel)), (q_w 96 (by decide +kernel) (by decide +kernel)), by decide +kernel, by decide⟩
set_option maxRecDepth 20000 in
theorem okX5_readThing : q_Ok mX5_readThing 1 := ⟨(q_w 722 (by decide +kernel) (by decide +kernel)), (q_w 96 (by decide +kernel) (by decide +kernel)), by decide +kernel, by decide⟩
set_option maxRecDepth 20000 in
theorem okX5_placeOf : q_Ok mX5_placeOf 1 := ⟨(q_w 725 (by decide +kernel) (by decide +kernel)), (q_w 96 (by decide +kernel) (by decide +kernel)), by decide +kernel, by decide⟩
set_option maxRecDepth 20000 in
theorem okX5_readOperator : q_Ok mX5_readOperator 1 := ⟨(q_w 788 (by decide +kernel) (by decide +kernel)), (q_w 96 (by decide +kernel) (by decide +kernel)), by decide +kernel, by decide⟩
set_option maxRecDepth 20000 in
theorem okX5_strength : q_Ok mX5_strength 1 := ⟨(q_w 784 (by decide +kernel) (by decide +kernel)), (q_w 96 (by decide +kernel) (by decide +kernel)), by decide +kernel, by decide⟩
set_option maxRecDepth 20000 in
theorem okX5_emit : q_Ok mX5_emit 1 := ⟨(q_w 772 (by decide +kernel) (by decide +kernel)), (q_w 96 (by decide +kernel) (by decide +kernel)), by decide +kernel, by decide⟩
set_option maxRecDepth 20000 in
theorem okX5_hold : q_Ok mX5_hold 1 := ⟨(q_w 718 (by decide +kernel) (by decide +kernel)), (q_w 96 (by decide +kernel) (by decide +kernel)), by decide +kernel, by decide⟩
set_option maxRecDepth 20000 in
theorem okX5_emitWaiting : q_Ok mX5_emitWaiting 1 := ⟨(q_w 780 (by decide +kernel) (by decide +kernel)), (q_w 96 (by decide +kernel) (by decide +kernel)), by decide +kernel, by decide⟩
set_option maxRecDepth 20000 in
theorem okX5_closeBracket : q_Ok mX5_closeBracket 0 := ⟨(q_w 776 (by decide +kernel) (by decide +kernel)), (q_w 96 (by decide +kernel) (by decide +kernel)), by decide +kernel, by decide⟩
set_option maxRecDepth 20000 in
theorem okX5_put : q_Ok mX5_put 2 := ⟨(q_w 1138 (by decide +kernel) (by decide +kernel)), (q_w 96 (by decide +kernel) (by decide +kernel)), by decide +kernel, by decide⟩
set_option maxRecDepth 20000 in
theorem okX5_value : q_Ok mX5_value 0 := ⟨(q_w 1142 (by decide +kernel) (by decide +kernel)), (q_w 96 (by decide +kernel) (by decide +kernel)), by decide +kernel, by decide⟩
set_option maxRecDepth 20000 in
theorem okX5_join : q_Ok mX5_join 3 := ⟨(q_w 1145 (by decide +kernel) (by decide +kernel)), (q_w 96 (by decide +kernel) (by decide +kernel)), by decide +kernel, by decide⟩
set_option maxRecDepth 20000 in
theorem okX6_init : q_Ok mX6_init 0 := ⟨(q_w 354 (by decide +kernel) (by decide +kernel)), (q_w 98 (by decide +kernel) (by decide +kernel)), by decide +kernel, by decide⟩
set_option maxRecDepth 20000 in
theorem okX6_push : q_Ok mX6_push 1 := ⟨(q_w 699 (by decide +kernel) (by decide +kernel)), (q_w 98 (by decide +kernel) (by decide +kernel)), by decide +kernel, by decide⟩
set_option maxRecDepth 20000 in
theorem okX6_pop : q_Ok mX6_pop 0 := ⟨(q_w 1350 (by decide +kernel) (by decide +kernel)), (q_w 98 (by decide +kernel) (by decide +kernel)), by decide +kernel, by decide⟩
set_option maxRecDepth 20000 in
theorem okX7_init : q_Ok mX7_init 0 := ⟨(q_w 172 (by decide +kernel) (by decide +kernel)), (q_w 95 (by decide +kernel) (by decide +kernel)), by decide +kernel, by decide⟩
set_option maxRecDepth 20000 in
theorem okX7_copyFrom : q_Ok mX7_copyFrom 1 := ⟨(q_w 590 (by decide +kernel) (by decide +kernel)), (q_w 95 (by decide +kernel) (by decide +kernel)), by decide +kernel, by decide⟩
set_option maxRecDepth 20000 in
theorem okX7_has : q_Ok mX7_has 1 := ⟨(q_w 1068 (by decide +kernel) (by decide +kernel)), (q_w 95 (by decide +kernel) (by decide +kernel)), by decide +kernel, by decide⟩
set_option maxRecDepth 20000 in
theorem okX7_hit : q_Ok mX7_hit 1 := ⟨(q_w 1319 (by decide +kernel) (by decide +kernel)), (q_w 95 (by decide +kernel) (by decide +kernel)), by decide +kernel, by decide⟩
set_option maxRecDepth 20000 in
theorem okX7_remove : q_Ok mX7_remove 1 := ⟨(q_w 1080 (by decide +kernel) (by decide +kernel)), (q_w 95 (by decide +kernel) (by decide +kernel)), by decide +kernel, by decide⟩
set_option maxRecDepth 20000 in
theorem okX7_read : q_Ok mX7_read 2 := ⟨(q_w 797 (by decide +kernel) (by decide +kernel)), (q_w 95 (by decide +kernel) (by decide +kernel)), by decide +kernel, by decide⟩
set_option maxRecDepth 20000 in
theorem okX8_init : q_Ok mX8_init 0 := ⟨(q_w 132 (by decide +kernel) (by decide +kernel)), (q_w 94 (by decide +kernel) (by decide +kernel)), by decide +kernel, by decide⟩
set_option maxRecDepth 20000 in
theorem okX8_copyFrom : q_Ok mX8_copyFrom 1 := ⟨(q_w 585 (by decide +kernel) (by decide +kernel)), (q_w 94 (by decide +kernel) (by decide +kernel)), by decide +kernel, by decide⟩
set_option maxRecDepth 20000 in
theorem okX8_has : q_Ok mX8_has 1 := ⟨(q_w 1103 (by decide +kernel) (by decide +kernel)), (q_w 94 (by decide +kernel) (by decide +kernel)), by decide +kernel, by decide⟩
set_option maxRecDepth 20000 in
theorem okX8_isFull : q_Ok mX8_isFull 0 := ⟨(q_w 1090 (by decide +kernel) (by decide +kernel)), (q_w 94 (by decide +kernel) (by decide +kernel)), by decide +kernel, by decide⟩
set_option maxRecDepth 20000 in
theorem okX8_add : q_Ok mX8_add 4 := ⟨(q_w 1094 (by decide +kernel) (by decide +kernel)), (q_w 94 (by decide +kernel) (by decide +kernel)), by decide +kernel, by decide⟩
set_option maxRecDepth 20000 in
theorem okX8_likelyOf : q_Ok mX8_likelyOf 2 := ⟨(q_w 1219 (by decide +kernel) (by decide +kernel)), (q_w 94 (by decide +kernel) (by decide +kernel)), by decide +kernel, by decide⟩
set_option maxRecDepth 20000 in
theorem okX8_settled : q_Ok mX8_settled 1 := ⟨(q_w 975 (by decide +kernel) (by decide +kernel)), (q_w 94 (by decide +kernel) (by decide +kernel)), by decide +kernel, by decide⟩
set_option maxRecDepth 20000 in
theorem okX9_init : q_Ok mX9_init 0 := ⟨(q_w 372 (by decide +kernel) (by decide +kernel)), (q_w 99 (by decide +kernel) (by decide +kernel)), by decide +kernel, by decide⟩
set_option maxRecDepth 20000 in
theorem okX9_begin : q_Ok mX9_begin 0 := ⟨(q_w 600 (by decide +kernel) (by decide +kernel)), (q_w 99 (by decide +kernel) (by decide +kernel)), by decide +kernel, by decide⟩
set_option maxRecDepth 20000 in
theorem okX9_finish : q_Ok mX9_finish 0 := ⟨(q_w 695 (by decide +kernel) (by decide +kernel)), (q_w 99 (by decide +kernel) (by decide +kernel)), by decide +kernel, by decide⟩
set_option maxRecDepth 20000 in
theorem okX9_hasMore : q_Ok mX9_hasMore 0 := ⟨(q_w 608 (by decide +kernel) (by decide +kernel)), (q_w 99 (by decide +kernel) (by decide +kernel)), by decide +kernel, by decide⟩
set_option maxRecDepth 20000 in
theorem okX9_peek : q_Ok mX9_peek 0 := ⟨(q_w 616 (by decide +kernel) (by decide +kernel)), (q_w 99 (by decide +kernel) (by decide +kernel)), by decide +kernel, by decide⟩
set_option maxRecDepth 20000 in
theorem okX9_isDigit : q_Ok mX9_isDigit 1 := ⟨(q_w 643 (by decide +kernel) (by decide +kernel)), (q_w 99 (by decide +kernel) (by decide +kernel)), by decide +kernel, by decide⟩
set_option maxRecDepth 20000 in
theorem okX9_fail : q_Ok mX9_fail 1 := ⟨(q_w 624 (by decide +kernel) (by decide +kernel)), (q_w 99 (by decide +kernel) (by decide +kernel)), by decide +kernel, by decide⟩
set_option maxRecDepth 20000 in
theorem okX9_skip : q_Ok mX9_skip 0 := ⟨(q_w 628 (by decide +kernel) (by decide +kernel)), (q_w 99 (by decide +kernel) (by decide +kernel)), by decide +kernel, by decide⟩
set_option maxRecDepth 20000 in
theorem okX9_expect : q_Ok mX9_expect 1 := ⟨(q_w 647 (by decide +kernel) (by decide +kernel)), (q_w 99 (by decide +kernel) (by decide +kernel)), by decide +kernel, by decide⟩
set_option maxRecDepth 20000 in
theorem okX9_number : q_Ok mX9_number 2 := ⟨(q_w 640 (by decide +kernel) (by decide +kernel)), (q_w 99 (by decide +kernel) (by decide +kernel)), by decide +kernel, by decide⟩
set_option maxRecDepth 20000 in
theorem okX9_numberAndComma : q_Ok mX9_numberAndComma 2 := ⟨(q_w 636 (by decide +kernel) (by decide +kernel)), (q_w 99 (by decide +kernel) (by decide +kernel)), by decide +kernel, by decide⟩
set_option maxRecDepth 20000 in
theorem okX9_readItems : q_Ok mX9_readItems 1 := ⟨(q_w 604 (by decide +kernel) (by decide +kernel)), (q_w 99 (by decide +kernel) (by decide +kernel)), by decide +kernel, by decide⟩
set_option maxRecDepth 20000 in
theorem okX9_readItem : q_Ok mX9_readItem 1 := ⟨(q_w 612 (by decide +kernel) (by decide +kernel)), (q_w 99 (by decide +kernel) (by decide +kernel)), by decide +kernel, by decide⟩
set_option maxRecDepth 20000 in
theorem okX9_readLimit : q_Ok mX9_readLimit 1 := ⟨(q_w 632 (by decide +kernel) (by decide +kernel)), (q_w 99 (by decide +kernel) (by decide +kernel)), by decide +kernel, by decide⟩
set_option maxRecDepth 20000 in
theorem okX9_readContract : q_Ok mX9_readContract 1 := ⟨(q_w 655 (by decide +kernel) (by decide +kernel)), (q_w 99 (by decide +kernel) (by decide +kernel)), by decide +kernel, by decide⟩
set_option maxRecDepth 20000 in
theorem okX10_init : q_Ok mX10_init 0 := ⟨(q_w 435 (by decide +kernel) (by decide +kernel)), (q_w 103 (by decide +kernel) (by decide +kernel)), by decide +kernel, by decide⟩
set_option maxRecDepth 20000 in
theorem okX10_load : q_Ok mX10_load 1 := ⟨(q_w 931 (by decide +kernel) (by decide +kernel)), (q_w 103 (by decide +kernel) (by decide +kernel)), by decide +kernel, by decide⟩
set_option maxRecDepth 20000 in
theorem okX10_loadPromises : q_Ok mX10_loadPromises 2 := ⟨(q_w 938 (by decide +kernel) (by decide +kernel)), (q_w 103 (by decide +kernel) (by decide +kernel)), by decide +kernel, by decide⟩
set_option maxRecDepth 20000 in
theorem okX10_rank : q_Ok mX10_rank 0 := ⟨(q_w 942 (by decide +kernel) (by decide +kernel)), (q_w 103 (by decide +kernel) (by decide +kernel)), by decide +kernel, by decide⟩
set_option maxRecDepth 20000 in
theorem okX10_isAhead : q_Ok mX10_isAhead 2 := ⟨(q_w 946 (by decide +kernel) (by decide +kernel)), (q_w 103 (by decide +kernel) (by decide +kernel)), by decide +kernel, by decide⟩
set_option maxRecDepth 20000 in
theorem okX10_shift : q_Ok mX10_shift 3 := ⟨(q_w 1204 (by decide +kernel) (by decide +kernel)), (q_w 103 (by decide +kernel) (by decide +kernel)), by decide +kernel, by decide⟩
set_option maxRecDepth 20000 in
theorem okX10_total : q_Ok mX10_total 1 := ⟨(q_w 962 (by decide +kernel) (by decide +kernel)), (q_w 103 (by decide +kernel) (by decide +kernel)), by decide +kernel, by decide⟩
set_option maxRecDepth 20000 in
theorem okX10_count : q_Ok mX10_count 2 := ⟨(q_w 954 (by decide +kernel) (by decide +kernel)), (q_w 103 (by decide +kernel) (by decide +kernel)), by decide +kernel, by decide⟩
set_option maxRecDepth 20000 in
theorem okX10_room : q_Ok mX10_room 1 := ⟨(q_w 950 (by decide +kernel) (by decide +kernel)), (q_w 103 (by decide +kernel) (by decide +kernel)), by decide +kernel, by decide⟩
set_option maxRecDepth 20000 in
theorem okX10_saved : q_Ok mX10_saved 3 := ⟨(q_w 1046 (by decide +kernel) (by decide +kernel)), (q_w 103 (by decide +kernel) (by decide +kernel)), by decide +kernel, by decide⟩
set_option maxRecDepth 20000 in
theorem okX11_init : q_Ok mX11_init 0 := ⟨(q_w 116 (by decide +kernel) (by decide +kernel)), (q_w 92 (by decide +kernel) (by decide +kernel)), by decide +kernel, by decide⟩
set_option maxRecDepth 20000 in
theorem okX11_feed : q_Ok mX11_feed 5 := ⟨(q_w 553 (by decide +kernel) (by decide +kernel)), (q_w 92 (by decide +kernel) (by decide +kernel)), by decide +kernel, by decide⟩
set_option maxRecDepth 20000 in
theorem okX11_end : q_Ok mX11_end 1 := ⟨(q_w 565 (by decide +kernel) (by decide +kernel)), (q_w 92 (by decide +kernel) (by decide +kernel)), by decide +kernel, by decide⟩
set_option maxRecDepth 20000 in
theorem okX11_text : q_Ok mX11_text 0 := ⟨(q_w 569 (by decide +kernel) (by decide +kernel)), (q_w 92 (by decide +kernel) (by decide +kernel)), by decide +kernel, by decide⟩
set_option maxRecDepth 20000 in
theorem okX11_policy : q_Ok mX11_policy 0 := ⟨(q_w 706 (by decide +kernel) (by decide +kernel)), (q_w 92 (by decide +kernel) (by decide +kernel)), by decide +kernel, by decide⟩
set_option maxRecDepth 20000 in
theorem okX11_market : q_Ok mX11_market 0 := ⟨(q_w 793 (by decide +kernel) (by decide +kernel)), (q_w 92 (by decide +kernel) (by decide +kernel)), by decide +kernel, by decide⟩
set_option maxRecDepth 20000 in
theorem okX11_acts : q_Ok mX11_acts 0 := ⟨(q_w 807 (by decide +kernel) (by decide +kernel)), (q_w 92 (by decide +kernel) (by decide +kernel)), by decide +kernel, by decide⟩
set_option maxRecDepth 20000 in
theorem okX11_fault : q_Ok mX11_fault 0 := ⟨(q_w 981 (by decide +kernel) (by decide +kernel)), (q_w 92 (by decide +kernel) (by decide +kernel)), by decide +kernel, by decide⟩
set_option maxRecDepth 20000 in
theorem okX11_ended : q_Ok mX11_ended 0 := ⟨(q_w 985 (by decide +kernel) (by decide +kernel)), (q_w 92 (by decide +kernel) (by decide +kernel)), by decide +kernel, by decide⟩
set_option maxRecDepth 20000 in
theorem okX11_why : q_Ok mX11_why 0 := ⟨(q_w 989 (by decide +kernel) (by decide +kernel)), (q_w 92 (by decide +kernel) (by decide +kernel)), by decide +kernel, by decide⟩
set_option maxRecDepth 20000 in
theorem okX11_is : q_Ok mX11_is 1 := ⟨(q_w 993 (by decide +kernel) (by decide +kernel)), (q_w 92 (by decide +kernel) (by decide +kernel)), by decide +kernel, by decide⟩
set_option maxRecDepth 20000 in
theorem okX11_limit : q_Ok mX11_limit 1 := ⟨(q_w 997 (by decide +kernel) (by decide +kernel)), (q_w 92 (by decide +kernel) (by decide +kernel)), by decide +kernel, by decide⟩
set_option maxRecDepth 20000 in
theorem okX11_dead : q_Ok mX11_dead 1 := ⟨(q_w 1002 (by decide +kernel) (by decide +kernel)), (q_w 92 (by decide +kernel) (by decide +kernel)), by decide +kernel, by decide⟩
set_option maxRecDepth 20000 in
theorem okX11_contract : q_Ok mX11_contract 2 := ⟨(q_w 1006 (by decide +kernel) (by decide +kernel)), (q_w 92 (by decide +kernel) (by decide +kernel)), by decide +kernel, by decide⟩
set_option maxRecDepth 20000 in
theorem okX11_pay : q_Ok mX11_pay 3 := ⟨(q_w 1022 (by decide +kernel) (by decide +kernel)), (q_w 92 (by decide +kernel) (by decide +kernel)), by decide +kernel, by decide⟩
set_option maxRecDepth 20000 in
theorem okX11_now : q_Ok mX11_now 1 := ⟨(q_w 1029 (by decide +kernel) (by decide +kernel)), (q_w 92 (by decide +kernel) (by decide +kernel)), by decide +kernel, by decide⟩
set_option maxRecDepth 20000 in
theorem okX11_would : q_Ok mX11_would 2 := ⟨(q_w 1035 (by decide +kernel) (by decide +kernel)), (q_w 92 (by decide +kernel) (by decide +kernel)), by decide +kernel, by decide⟩
set_option maxRecDepth 20000 in
theorem okX11_cut : q_Ok mX11_cut 1 := ⟨(q_w 1052 (by decide +kernel) (by decide +kernel)), (q_w 92 (by decide +kernel) (by decide +kernel)), by decide +kernel, by decide⟩
set_option maxRecDepth 20000 in
theorem okX11_trade : q_Ok mX11_trade 1 := ⟨(q_w 1056 (by decide +kernel) (by decide +kernel)), (q_w 92 (by decide +kernel) (by decide +kernel)), by decide +kernel, by decide⟩
set_option maxRecDepth 20000 in
theorem okX11_sign : q_Ok mX11_sign 1 := ⟨(q_w 1060 (by decide +kernel) (by decide +kernel)), (q_w 92 (by decide +kernel) (by decide +kernel)), by decide +kernel, by decide⟩
set_option maxRecDepth 20000 in
theorem okX11_promise : q_Ok mX11_promise 4 := ⟨(q_w 1085 (by decide +kernel) (by decide +kernel)), (q_w 92 (by decide +kernel) (by decide +kernel)), by decide +kernel, by decide⟩
set_option maxRecDepth 20000 in
theorem okX11_earn : q_Ok mX11_earn 1 := ⟨(q_w 1099 (by decide +kernel) (by decide +kernel)), (q_w 92 (by decide +kernel) (by decide +kernel)), by decide +kernel, by decide⟩
set_option maxRecDepth 20000 in
theorem okX11_turn : q_Ok mX11_turn 2 := ⟨(q_w 897 (by decide +kernel) (by decide +kernel)), (q_w 92 (by decide +kernel) (by decide +kernel)), by decide +kernel, by decide⟩
set_option maxRecDepth 20000 in
theorem okX11_longer : q_Ok mX11_longer 4 := ⟨(q_w 1108 (by decide +kernel) (by decide +kernel)), (q_w 92 (by decide +kernel) (by decide +kernel)), by decide +kernel, by decide⟩
set_option maxRecDepth 20000 in
theorem okX11_lower : q_Ok mX11_lower 2 := ⟨(q_w 1123 (by decide +kernel) (by decide +kernel)), (q_w 92 (by decide +kernel) (by decide +kernel)), by decide +kernel, by decide⟩
set_option maxRecDepth 20000 in
theorem okX11_days : q_Ok mX11_days 1 := ⟨(q_w 923 (by decide +kernel) (by decide +kernel)), (q_w 92 (by decide +kernel) (by decide +kernel)), by decide +kernel, by decide⟩
set_option maxRecDepth 20000 in
theorem okX11_year : q_Ok mX11_year 0 := ⟨(q_w 927 (by decide +kernel) (by decide +kernel)), (q_w 92 (by decide +kernel) (by decide +kernel)), by decide +kernel, by decide⟩
set_option maxRecDepth 20000 in
theorem okX11_says : q_Ok mX11_says 1 := ⟨(q_w 1129 (by decide +kernel) (by decide +kernel)), (q_w 92 (by decide +kernel) (by decide +kernel)), by decide +kernel, by decide⟩
set_option maxRecDepth 20000 in
theorem okX11_byPolicy : q_Ok mX11_byPolicy 1 := ⟨(q_w 1149 (by decide +kernel) (by decide +kernel)), (q_w 92 (by decide +kernel) (by decide +kernel)), by decide +kernel, by decide⟩
set_option maxRecDepth 20000 in
theorem okX11_set : q_Ok mX11_set 2 := ⟨(q_w 1162 (by decide +kernel) (by decide +kernel)), (q_w 92 (by decide +kernel) (by decide +kernel)), by decide +kernel, by decide⟩
set_option maxRecDepth 20000 in
theorem okX11_turned : q_Ok mX11_turned 2 := ⟨(q_w 1194 (by decide +kernel) (by decide +kernel)), (q_w 92 (by decide +kernel) (by decide +kernel)), by decide +kernel, by decide⟩
set_option maxRecDepth 20000 in
theorem okX11_ahead : q_Ok mX11_ahead 1 := ⟨(q_w 1209 (by decide +kernel) (by decide +kernel)), (q_w 92 (by decide +kernel) (by decide +kernel)), by decide +kernel, by decide⟩
set_option maxRecDepth 20000 in
theorem okX11_bestDay : q_Ok mX11_bestDay 1 := ⟨(q_w 1223 (by decide +kernel) (by decide +kernel)), (q_w 92 (by decide +kernel) (by decide +kernel)), by decide +kernel, by decide⟩
set_option maxRecDepth 20000 in
theorem okX11_coins : q_Ok mX11_coins 2 := ⟨(q_w 1227 (by decide +kernel) (by decide +kernel)), (q_w 92 (by decide +kernel) (by decide +kernel)), by decide +kernel, by decide⟩
set_option maxRecDepth 20000 in
theorem okX11_freeYear : q_Ok mX11_freeYear 1 := ⟨(q_w 1232 (by decide +kernel) (by decide +kernel)), (q_w 92 (by decide +kernel) (by decide +kernel)), by decide +kernel, by decide⟩
set_option maxRecDepth 20000 in
theorem okX11_allTurned : q_Ok mX11_allTurned 0 := ⟨(q_w 1238 (by decide +kernel) (by decide +kernel)), (q_w 92 (by decide +kernel) (by decide +kernel)), by decide +kernel, by decide⟩
set_option maxRecDepth 20000 in
theorem okX11_ranked : q_Ok mX11_ranked 1 := ⟨(q_w 1242 (by decide +kernel) (by decide +kernel)), (q_w 92 (by decide +kernel) (by decide +kernel)), by decide +kernel, by decide⟩
set_option maxRecDepth 20000 in
theorem okX11_fit : q_Ok mX11_fit 2 := ⟨(q_w 1246 (by decide +kernel) (by decide +kernel)), (q_w 92 (by decide +kernel) (by decide +kernel)), by decide +kernel, by decide⟩
set_option maxRecDepth 20000 in
theorem okX11_piece : q_Ok mX11_piece 3 := ⟨(q_w 1264 (by decide +kernel) (by decide +kernel)), (q_w 92 (by decide +kernel) (by decide +kernel)), by decide +kernel, by decide⟩
set_option maxRecDepth 20000 in
theorem okX11_lastDay : q_Ok mX11_lastDay 2 := ⟨(q_w 1268 (by decide +kernel) (by decide +kernel)), (q_w 92 (by decide +kernel) (by decide +kernel)), by decide +kernel, by decide⟩
set_option maxRecDepth 20000 in
theorem okX11_cash : q_Ok mX11_cash 2 := ⟨(q_w 1276 (by decide +kernel) (by decide +kernel)), (q_w 92 (by decide +kernel) (by decide +kernel)), by decide +kernel, by decide⟩
set_option maxRecDepth 20000 in
theorem okX11_allCash : q_Ok mX11_allCash 1 := ⟨(q_w 1284 (by decide +kernel) (by decide +kernel)), (q_w 92 (by decide +kernel) (by decide +kernel)), by decide +kernel, by decide⟩
set_option maxRecDepth 20000 in
theorem okX11_tag : q_Ok mX11_tag 1 := ⟨(q_w 1293 (by decide +kernel) (by decide +kernel)), (q_w 92 (by decide +kernel) (by decide +kernel)), by decide +kernel, by decide⟩
set_option maxRecDepth 20000 in
theorem okX11_counted : q_Ok mX11_counted 1 := ⟨(q_w 1297 (by decide +kernel) (by decide +kernel)), (q_w 92 (by decide +kernel) (by decide +kernel)), by decide +kernel, by decide⟩
set_option maxRecDepth 20000 in
theorem okX11_share : q_Ok mX11_share 1 := ⟨(q_w 1301 (by decide +kernel) (by decide +kernel)), (q_w 92 (by decide +kernel) (by decide +kernel)), by decide +kernel, by decide⟩
set_option maxRecDepth 20000 in
theorem okX11_dearest : q_Ok mX11_dearest 1 := ⟨(q_w 1310 (by decide +kernel) (by decide +kernel)), (q_w 92 (by decide +kernel) (by decide +kernel)), by decide +kernel, by decide⟩
set_option maxRecDepth 20000 in
theorem okX11_offer : q_Ok mX11_offer 2 := ⟨(q_w 1314 (by decide +kernel) (by decide +kernel)), (q_w 92 (by decide +kernel) (by decide +kernel)), by decide +kernel, by decide⟩
set_option maxRecDepth 20000 in
theorem okX11_buys : q_Ok mX11_buys 1 := ⟨(q_w 1324 (by decide +kernel) (by decide +kernel)), (q_w 92 (by decide +kernel) (by decide +kernel)), by decide +kernel, by decide⟩
set_option maxRecDepth 20000 in
theorem okX11_promised : q_Ok mX11_promised 2 := ⟨(q_w 1334 (by decide +kernel) (by decide +kernel)), (q_w 92 (by decide +kernel) (by decide +kernel)), by decide +kernel, by decide⟩
set_option maxRecDepth 20000 in
theorem okX11_floor : q_Ok mX11_floor 2 := ⟨(q_w 1338 (by decide +kernel) (by decide +kernel)), (q_w 92 (by decide +kernel) (by decide +kernel)), by decide +kernel, by decide⟩
set_option maxRecDepth 20000 in
theorem okX11_over : q_Ok mX11_over 1 := ⟨(q_w 1342 (by decide +kernel) (by decide +kernel)), (q_w 92 (by decide +kernel) (by decide +kernel)), by decide +kernel, by decide⟩
set_option maxRecDepth 20000 in
theorem okX11_undo : q_Ok mX11_undo 0 := ⟨(q_w 1346 (by decide +kernel) (by decide +kernel)), (q_w 92 (by decide +kernel) (by decide +kernel)), by decide +kernel, by decide⟩
set_option maxRecDepth 20000 in
theorem okX11_keep : q_Ok mX11_keep 1 := ⟨(q_w 1354 (by decide +kernel) (by decide +kernel)), (q_w 92 (by decide +kernel) (by decide +kernel)), by decide +kernel, by decide⟩
set_option maxRecDepth 20000 in
theorem okX11_restore : q_Ok mX11_restore 1 := ⟨(q_w 1358 (by decide +kernel) (by decide +kernel)), (q_w 92 (by decide +kernel) (by decide +kernel)), by decide +kernel, by decide⟩
set_option maxRecDepth 20000 in
theorem okX11_write : q_Ok mX11_write 0 := ⟨(q_w 1362 (by decide +kernel) (by decide +kernel)), (q_w 92 (by decide +kernel) (by decide +kernel)), by decide +kernel, by decide⟩
set_option maxRecDepth 20000 in
theorem okX11_octet : q_Ok mX11_octet 1 := ⟨(q_w 1372 (by decide +kernel) (by decide +kernel)), (q_w 92 (by decide +kernel) (by decide +kernel)), by decide +kernel, by decide⟩
set_option maxRecDepth 20000 in
theorem okX11_isYear : q_Ok mX11_isYear 1 := ⟨(q_w 651 (by decide +kernel) (by decide +kernel)), (q_w 92 (by decide +kernel) (by decide +kernel)), by decide +kernel, by decide⟩
set_option maxRecDepth 20000 in
theorem okX11_isGoal : q_Ok mX11_isGoal 1 := ⟨(q_w 1152 (by decide +kernel) (by decide +kernel)), (q_w 92 (by decide +kernel) (by decide +kernel)), by decide +kernel, by decide⟩
set_option maxRecDepth 20000 in
theorem okX11_takeDraft : q_Ok mX11_takeDraft 1 := ⟨(q_w 691 (by decide +kernel) (by decide +kernel)), (q_w 92 (by decide +kernel) (by decide +kernel)), by decide +kernel, by decide⟩
set_option maxRecDepth 20000 in
theorem okX11_perform : q_Ok mX11_perform 1 := ⟨(q_w 827 (by decide +kernel) (by decide +kernel)), (q_w 92 (by decide +kernel) (by decide +kernel)), by decide +kernel, by decide⟩
set_option maxRecDepth 20000 in
theorem okX11_letGo : q_Ok mX11_letGo 2 := ⟨(q_w 831 (by decide +kernel) (by decide +kernel)), (q_w 92 (by decide +kernel) (by decide +kernel)), by decide +kernel, by decide⟩
set_option maxRecDepth 20000 in
theorem okX11_countsInFull : q_Ok mX11_countsInFull 1 := ⟨(q_w 1016 (by decide +kernel) (by decide +kernel)), (q_w 92 (by decide +kernel) (by decide +kernel)), by decide +kernel, by decide⟩
set_option maxRecDepth 20000 in
theorem okX11_dayIfSaved : q_Ok mX11_dayIfSaved 3 := ⟨(q_w 1272 (by decide +kernel) (by decide +kernel)), (q_w 92 (by decide +kernel) (by decide +kernel)), by decide +kernel, by decide⟩
set_option maxRecDepth 20000 in
theorem okX11_savedByTurn : q_Ok mX11_savedByTurn 2 := ⟨(q_w 1199 (by decide +kernel) (by decide +kernel)), (q_w 92 (by decide +kernel) (by decide +kernel)), by decide +kernel, by decide⟩
set_option maxRecDepth 20000 in
theorem okX11_policySum : q_Ok mX11_policySum 1 := ⟨(q_w 1134 (by decide +kernel) (by decide +kernel)), (q_w 92 (by decide +kernel) (by decide +kernel)), by decide +kernel, by decide⟩
set_option maxRecDepth 20000 in
theorem okX11_greatestByPolicy : q_Ok mX11_greatestByPolicy 0 := ⟨(q_w 1158 (by decide +kernel) (by decide +kernel)), (q_w 92 (by decide +kernel) (by decide +kernel)), by decide +kernel, by decide⟩
set_option maxRecDepth 20000 in
theorem okX12_isIn : q_Ok mX12_isIn 3 := ⟨(q_w 1478 (by decide +kernel) (by decide +kernel)), (q_w 105 (by decide +kernel) (by decide +kernel)), by decide +kernel, by decide⟩
set_option maxRecDepth 20000 in
theorem okX12_copyRow : q_Ok mX12_copyRow 2 := ⟨(q_w 1471 (by decide +kernel) (by decide +kernel)), (q_w 105 (by decide +kernel) (by decide +kernel)), by decide +kernel, by decide⟩
set_option maxRecDepth 20000 in
theorem okX12_init : q_Ok mX12_init 0 := ⟨(q_w 1378 (by decide +kernel) (by decide +kernel)), (q_w 105 (by decide +kernel) (by decide +kernel)), by decide +kernel, by decide⟩
set_option maxRecDepth 20000 in
theorem okX12_deedOf : q_Ok mX12_deedOf 1 := ⟨(q_w 1486 (by decide +kernel) (by decide +kernel)), (q_w 105 (by decide +kernel) (by decide +kernel)), by decide +kernel, by decide⟩
set_option maxRecDepth 20000 in
theorem okX12_undo : q_Ok mX12_undo 0 := ⟨(q_w 1467 (by decide +kernel) (by decide +kernel)), (q_w 105 (by decide +kernel) (by decide +kernel)), by decide +kernel, by decide⟩
set_option maxRecDepth 20000 in
theorem okX12_keep : q_Ok mX12_keep 1 := ⟨(q_w 1475 (by decide +kernel) (by decide +kernel)), (q_w 105 (by decide +kernel) (by decide +kernel)), by decide +kernel, by decide⟩
set_option maxRecDepth 20000 in
theorem okX12_restore : q_Ok mX12_restore 1 := ⟨(q_w 1482 (by decide +kernel) (by decide +kernel)), (q_w 105 (by decide +kernel) (by decide +kernel)), by decide +kernel, by decide⟩
set_option maxRecDepth 20000 in
theorem okX12_four : q_Ok mX12_four 1 := ⟨(q_w 1494 (by decide +kernel) (by decide +kernel)), (q_w 105 (by decide +kernel) (by decide +kernel)), by decide +kernel, by decide⟩
set_option maxRecDepth 20000 in
theorem okX12_feed : q_Ok mX12_feed 5 := ⟨(q_w 1490 (by decide +kernel) (by decide +kernel)), (q_w 105 (by decide +kernel) (by decide +kernel)), by decide +kernel, by decide⟩
set_option maxRecDepth 20000 in
theorem okX12_end : q_Ok mX12_end 1 := ⟨(q_w 1498 (by decide +kernel) (by decide +kernel)), (q_w 105 (by decide +kernel) (by decide +kernel)), by decide +kernel, by decide⟩
set_option maxRecDepth 20000 in
theorem okX12_fault : q_Ok mX12_fault 0 := ⟨(q_w 1502 (by decide +kernel) (by decide +kernel)), (q_w 105 (by decide +kernel) (by decide +kernel)), by decide +kernel, by decide⟩
set_option maxRecDepth 20000 in
theorem okX12_here : q_Ok mX12_here 0 := ⟨(q_w 1530 (by decide +kernel) (by decide +kernel)), (q_w 105 (by decide +kernel) (by decide +kernel)), by decide +kernel, by decide⟩
set_option maxRecDepth 20000 in
theorem okX12_isFigure : q_Ok mX12_isFigure 1 := ⟨(q_w 1533 (by decide +kernel) (by decide +kernel)), (q_w 105 (by decide +kernel) (by decide +kernel)), by decide +kernel, by decide⟩
set_option maxRecDepth 20000 in
theorem okX12_fails : q_Ok mX12_fails 1 := ⟨(q_w 1518 (by decide +kernel) (by decide +kernel)), (q_w 105 (by decide +kernel) (by decide +kernel)), by decide +kernel, by decide⟩
set_option maxRecDepth 20000 in
theorem okX12_takes : q_Ok mX12_takes 1 := ⟨(q_w 1537 (by decide +kernel) (by decide +kernel)), (q_w 105 (by decide +kernel) (by decide +kernel)), by decide +kernel, by decide⟩
set_option maxRecDepth 20000 in
theorem okX12_readNumber : q_Ok mX12_readNumber 2 := ⟨(q_w 1526 (by decide +kernel) (by decide +kernel)), (q_w 105 (by decide +kernel) (by decide +kernel)), by decide +kernel, by decide⟩
set_option maxRecDepth 20000 in
theorem okX12_reads : q_Ok mX12_reads 3 := ⟨(q_w 1522 (by decide +kernel) (by decide +kernel)), (q_w 105 (by decide +kernel) (by decide +kernel)), by decide +kernel, by decide⟩
set_option maxRecDepth 20000 in
theorem okX12_readLimit : q_Ok mX12_readLimit 0 := ⟨(q_w 1554 (by decide +kernel) (by decide +kernel)), (q_w 105 (by decide +kernel) (by decide +kernel)), by decide +kernel, by decide⟩
set_option maxRecDepth 20000 in
theorem okX12_placeOf : q_Ok mX12_placeOf 2 := ⟨(q_w 1566 (by decide +kernel) (by decide +kernel)), (q_w 105 (by decide +kernel) (by decide +kernel)), by decide +kernel, by decide⟩
set_option maxRecDepth 20000 in
theorem okX12_of : q_Ok mX12_of 2 := ⟨(q_w 1570 (by decide +kernel) (by decide +kernel)), (q_w 105 (by decide +kernel) (by decide +kernel)), by decide +kernel, by decide⟩
set_option maxRecDepth 20000 in
theorem okX12_lesser : q_Ok mX12_lesser 2 := ⟨(q_w 1573 (by decide +kernel) (by decide +kernel)), (q_w 105 (by decide +kernel) (by decide +kernel)), by decide +kernel, by decide⟩
set_option maxRecDepth 20000 in
theorem okX12_greater : q_Ok mX12_greater 2 := ⟨(q_w 1652 (by decide +kernel) (by decide +kernel)), (q_w 105 (by decide +kernel) (by decide +kernel)), by decide +kernel, by decide⟩
set_option maxRecDepth 20000 in
theorem okX12_lastOf : q_Ok mX12_lastOf 1 := ⟨(q_w 1589 (by decide +kernel) (by decide +kernel)), (q_w 105 (by decide +kernel) (by decide +kernel)), by decide +kernel, by decide⟩
set_option maxRecDepth 20000 in
theorem okX12_partsFrom : q_Ok mX12_partsFrom 2 := ⟨(q_w 1585 (by decide +kernel) (by decide +kernel)), (q_w 105 (by decide +kernel) (by decide +kernel)), by decide +kernel, by decide⟩
set_option maxRecDepth 20000 in
theorem okX12_pieceOf : q_Ok mX12_pieceOf 3 := ⟨(q_w 1592 (by decide +kernel) (by decide +kernel)), (q_w 105 (by decide +kernel) (by decide +kernel)), by decide +kernel, by decide⟩
set_option maxRecDepth 20000 in
theorem okX12_spreads : q_Ok mX12_spreads 3 := ⟨(q_w 1581 (by decide +kernel) (by decide +kernel)), (q_w 105 (by decide +kernel) (by decide +kernel)), by decide +kernel, by decide⟩
set_option maxRecDepth 20000 in
theorem okX12_readContract : q_Ok mX12_readContract 0 := ⟨(q_w 1563 (by decide +kernel) (by decide +kernel)), (q_w 105 (by decide +kernel) (by decide +kernel)), by decide +kernel, by decide⟩
set_option maxRecDepth 20000 in
theorem okX12_readDays : q_Ok mX12_readDays 0 := ⟨(q_w 1559 (by decide +kernel) (by decide +kernel)), (q_w 105 (by decide +kernel) (by decide +kernel)), by decide +kernel, by decide⟩
set_option maxRecDepth 20000 in
theorem okX12_readItem : q_Ok mX12_readItem 0 := ⟨(q_w 1550 (by decide +kernel) (by decide +kernel)), (q_w 105 (by decide +kernel) (by decide +kernel)), by decide +kernel, by decide⟩
set_option maxRecDepth 20000 in
theorem okX12_beginText : q_Ok mX12_beginText 0 := ⟨(q_w 1510 (by decide +kernel) (by decide +kernel)), (q_w 105 (by decide +kernel) (by decide +kernel)), by decide +kernel, by decide⟩
set_option maxRecDepth 20000 in
theorem okX12_readOffer : q_Ok mX12_readOffer 0 := ⟨(q_w 1514 (by decide +kernel) (by decide +kernel)), (q_w 105 (by decide +kernel) (by decide +kernel)), by decide +kernel, by decide⟩
set_option maxRecDepth 20000 in
theorem okX12_market : q_Ok mX12_market 0 := ⟨(q_w 1506 (by decide +kernel) (by decide +kernel)), (q_w 105 (by decide +kernel) (by decide +kernel)), by decide +kernel, by decide⟩
set_option maxRecDepth 20000 in
theorem okX12_ends : q_Ok mX12_ends 0 := ⟨(q_w 1542 (by decide +kernel) (by decide +kernel)), (q_w 105 (by decide +kernel) (by decide +kernel)), by decide +kernel, by decide⟩
set_option maxRecDepth 20000 in
theorem okX12_text : q_Ok mX12_text 0 := ⟨(q_w 1546 (by decide +kernel) (by decide +kernel)), (q_w 105 (by decide +kernel) (by decide +kernel)), by decide +kernel, by decide⟩
set_option maxRecDepth 20000 in
theorem okX12_does : q_Ok mX12_does 1 := ⟨(q_w 1615 (by decide +kernel) (by decide +kernel)), (q_w 105 (by decide +kernel) (by decide +kernel)), by decide +kernel, by decide⟩
set_option maxRecDepth 20000 in
theorem okX12_nameOf : q_Ok mX12_nameOf 1 := ⟨(q_w 1611 (by decide +kernel) (by decide +kernel)), (q_w 105 (by decide +kernel) (by decide +kernel)), by decide +kernel, by decide⟩
set_option maxRecDepth 20000 in
theorem okX12_rankOf : q_Ok mX12_rankOf 1 := ⟨(q_w 1627 (by decide +kernel) (by decide +kernel)), (q_w 105 (by decide +kernel) (by decide +kernel)), by decide +kernel, by decide⟩
set_option maxRecDepth 20000 in
theorem okX12_doesWaiting : q_Ok mX12_doesWaiting 1 := ⟨(q_w 1624 (by decide +kernel) (by decide +kernel)), (q_w 105 (by decide +kernel) (by decide +kernel)), by decide +kernel, by decide⟩
set_option maxRecDepth 20000 in
theorem okX12_waitsFor : q_Ok mX12_waitsFor 1 := ⟨(q_w 1608 (by decide +kernel) (by decide +kernel)), (q_w 105 (by decide +kernel) (by decide +kernel)), by decide +kernel, by decide⟩
set_option maxRecDepth 20000 in
theorem okX12_readThing : q_Ok mX12_readThing 0 := ⟨(q_w 1604 (by decide +kernel) (by decide +kernel)), (q_w 105 (by decide +kernel) (by decide +kernel)), by decide +kernel, by decide⟩
set_option maxRecDepth 20000 in
theorem okX12_closes : q_Ok mX12_closes 0 := ⟨(q_w 1620 (by decide +kernel) (by decide +kernel)), (q_w 105 (by decide +kernel) (by decide +kernel)), by decide +kernel, by decide⟩
set_option maxRecDepth 20000 in
theorem okX12_readSum : q_Ok mX12_readSum 0 := ⟨(q_w 1600 (by decide +kernel) (by decide +kernel)), (q_w 105 (by decide +kernel) (by decide +kernel)), by decide +kernel, by decide⟩
set_option maxRecDepth 20000 in
theorem okX12_policy : q_Ok mX12_policy 0 := ⟨(q_w 1596 (by decide +kernel) (by decide +kernel)), (q_w 105 (by decide +kernel) (by decide +kernel)), by decide +kernel, by decide⟩
set_option maxRecDepth 20000 in
theorem okX12_joined : q_Ok mX12_joined 3 := ⟨(q_w 1852 (by decide +kernel) (by decide +kernel)), (q_w 105 (by decide +kernel) (by decide +kernel)), by decide +kernel, by decide⟩
set_option maxRecDepth 20000 in
theorem okX12_worth : q_Ok mX12_worth 0 := ⟨(q_w 1849 (by decide +kernel) (by decide +kernel)), (q_w 105 (by decide +kernel) (by decide +kernel)), by decide +kernel, by decide⟩
set_option maxRecDepth 20000 in
theorem okX12_isContract : q_Ok mX12_isContract 1 := ⟨(q_w 1704 (by decide +kernel) (by decide +kernel)), (q_w 105 (by decide +kernel) (by decide +kernel)), by decide +kernel, by decide⟩
set_option maxRecDepth 20000 in
theorem okX12_isYear : q_Ok mX12_isYear 1 := ⟨(q_w 1691 (by decide +kernel) (by decide +kernel)), (q_w 105 (by decide +kernel) (by decide +kernel)), by decide +kernel, by decide⟩
set_option maxRecDepth 20000 in
theorem okX12_isOpen : q_Ok mX12_isOpen 1 := ⟨(q_w 1645 (by decide +kernel) (by decide +kernel)), (q_w 105 (by decide +kernel) (by decide +kernel)), by decide +kernel, by decide⟩
set_option maxRecDepth 20000 in
theorem okX12_canCut : q_Ok mX12_canCut 1 := ⟨(q_w 1721 (by decide +kernel) (by decide +kernel)), (q_w 105 (by decide +kernel) (by decide +kernel)), by decide +kernel, by decide⟩
set_option maxRecDepth 20000 in
theorem okX12_endOf : q_Ok mX12_endOf 1 := ⟨(q_w 1577 (by decide +kernel) (by decide +kernel)), (q_w 105 (by decide +kernel) (by decide +kernel)), by decide +kernel, by decide⟩
set_option maxRecDepth 20000 in
theorem okX12_hitOf : q_Ok mX12_hitOf 2 := ⟨(q_w 1656 (by decide +kernel) (by decide +kernel)), (q_w 105 (by decide +kernel) (by decide +kernel)), by decide +kernel, by decide⟩
set_option maxRecDepth 20000 in
theorem okX12_partsBehind : q_Ok mX12_partsBehind 2 := ⟨(q_w 1664 (by decide +kernel) (by decide +kernel)), (q_w 105 (by decide +kernel) (by decide +kernel)), by decide +kernel, by decide⟩
set_option maxRecDepth 20000 in
theorem okX12_sureOf : q_Ok mX12_sureOf 2 := ⟨(q_w 1668 (by decide +kernel) (by decide +kernel)), (q_w 105 (by decide +kernel) (by decide +kernel)), by decide +kernel, by decide⟩
set_option maxRecDepth 20000 in
theorem okX12_deadNow : q_Ok mX12_deadNow 2 := ⟨(q_w 1660 (by decide +kernel) (by decide +kernel)), (q_w 105 (by decide +kernel) (by decide +kernel)), by decide +kernel, by decide⟩
set_option maxRecDepth 20000 in
theorem okX12_deadLater : q_Ok mX12_deadLater 2 := ⟨(q_w 1726 (by decide +kernel) (by decide +kernel)), (q_w 105 (by decide +kernel) (by decide +kernel)), by decide +kernel, by decide⟩
set_option maxRecDepth 20000 in
theorem okX12_deadInAll : q_Ok mX12_deadInAll 1 := ⟨(q_w 1730 (by decide +kernel) (by decide +kernel)), (q_w 105 (by decide +kernel) (by decide +kernel)), by decide +kernel, by decide⟩
set_option maxRecDepth 20000 in
theorem okX12_mostOf : q_Ok mX12_mostOf 1 := ⟨(q_w 1649 (by decide +kernel) (by decide +kernel)), (q_w 105 (by decide +kernel) (by decide +kernel)), by decide +kernel, by decide⟩
set_option maxRecDepth 20000 in
theorem okX12_layHits : q_Ok mX12_layHits 3 := ⟨(q_w 1641 (by decide +kernel) (by decide +kernel)), (q_w 105 (by decide +kernel) (by decide +kernel)), by decide +kernel, by decide⟩
set_option maxRecDepth 20000 in
theorem okX12_promisesOf : q_Ok mX12_promisesOf 4 := ⟨(q_w 1672 (by decide +kernel) (by decide +kernel)), (q_w 105 (by decide +kernel) (by decide +kernel)), by decide +kernel, by decide⟩
set_option maxRecDepth 20000 in
theorem okX12_countOf : q_Ok mX12_countOf 3 := ⟨(q_w 1637 (by decide +kernel) (by decide +kernel)), (q_w 105 (by decide +kernel) (by decide +kernel)), by decide +kernel, by decide⟩
set_option maxRecDepth 20000 in
theorem okX12_roomOf : q_Ok mX12_roomOf 2 := ⟨(q_w 1676 (by decide +kernel) (by decide +kernel)), (q_w 105 (by decide +kernel) (by decide +kernel)), by decide +kernel, by decide⟩
set_option maxRecDepth 20000 in
theorem okX12_savedOn : q_Ok mX12_savedOn 2 := ⟨(q_w 1734 (by decide +kernel) (by decide +kernel)), (q_w 105 (by decide +kernel) (by decide +kernel)), by decide +kernel, by decide⟩
set_option maxRecDepth 20000 in
theorem okX12_now : q_Ok mX12_now 1 := ⟨(q_w 1632 (by decide +kernel) (by decide +kernel)), (q_w 105 (by decide +kernel) (by decide +kernel)), by decide +kernel, by decide⟩
set_option maxRecDepth 20000 in
theorem okX12_howMany : q_Ok mX12_howMany 1 := ⟨(q_w 1684 (by decide +kernel) (by decide +kernel)), (q_w 105 (by decide +kernel) (by decide +kernel)), by decide +kernel, by decide⟩
set_option maxRecDepth 20000 in
theorem okX12_is : q_Ok mX12_is 1 := ⟨(q_w 1680 (by decide +kernel) (by decide +kernel)), (q_w 105 (by decide +kernel) (by decide +kernel)), by decide +kernel, by decide⟩
set_option maxRecDepth 20000 in
theorem okX12_limit : q_Ok mX12_limit 1 := ⟨(q_w 1688 (by decide +kernel) (by decide +kernel)), (q_w 105 (by decide +kernel) (by decide +kernel)), by decide +kernel, by decide⟩
set_option maxRecDepth 20000 in
theorem okX12_dead : q_Ok mX12_dead 1 := ⟨(q_w 1696 (by decide +kernel) (by decide +kernel)), (q_w 105 (by decide +kernel) (by decide +kernel)), by decide +kernel, by decide⟩
set_option maxRecDepth 20000 in
theorem okX12_yearsLeft : q_Ok mX12_yearsLeft 1 := ⟨(q_w 1709 (by decide +kernel) (by decide +kernel)), (q_w 105 (by decide +kernel) (by decide +kernel)), by decide +kernel, by decide⟩
set_option maxRecDepth 20000 in
theorem okX12_contract : q_Ok mX12_contract 2 := ⟨(q_w 1700 (by decide +kernel) (by decide +kernel)), (q_w 105 (by decide +kernel) (by decide +kernel)), by decide +kernel, by decide⟩
set_option maxRecDepth 20000 in
theorem okX12_pay : q_Ok mX12_pay 3 := ⟨(q_w 1713 (by decide +kernel) (by decide +kernel)), (q_w 105 (by decide +kernel) (by decide +kernel)), by decide +kernel, by decide⟩
set_option maxRecDepth 20000 in
theorem okX12_would : q_Ok mX12_would 2 := ⟨(q_w 1717 (by decide +kernel) (by decide +kernel)), (q_w 105 (by decide +kernel) (by decide +kernel)), by decide +kernel, by decide⟩
set_option maxRecDepth 20000 in
theorem okX12_refuses : q_Ok mX12_refuses 1 := ⟨(q_w 1750 (by decide +kernel) (by decide +kernel)), (q_w 105 (by decide +kernel) (by decide +kernel)), by decide +kernel, by decide⟩
set_option maxRecDepth 20000 in
theorem okX12_why : q_Ok mX12_why 0 := ⟨(q_w 1738 (by decide +kernel) (by decide +kernel)), (q_w 105 (by decide +kernel) (by decide +kernel)), by decide +kernel, by decide⟩
set_option maxRecDepth 20000 in
theorem okX12_whyNot : q_Ok mX12_whyNot 1 := ⟨(q_w 1746 (by decide +kernel) (by decide +kernel)), (q_w 105 (by decide +kernel) (by decide +kernel)), by decide +kernel, by decide⟩
set_option maxRecDepth 20000 in
theorem okX12_cuts : q_Ok mX12_cuts 1 := ⟨(q_w 1754 (by decide +kernel) (by decide +kernel)), (q_w 105 (by decide +kernel) (by decide +kernel)), by decide +kernel, by decide⟩
set_option maxRecDepth 20000 in
theorem okX12_closesFor : q_Ok mX12_closesFor 2 := ⟨(q_w 1758 (by decide +kernel) (by decide +kernel)), (q_w 105 (by decide +kernel) (by decide +kernel)), by decide +kernel, by decide⟩
set_option maxRecDepth 20000 in
theorem okX12_cut : q_Ok mX12_cut 1 := ⟨(q_w 1742 (by decide +kernel) (by decide +kernel)), (q_w 105 (by decide +kernel) (by decide +kernel)), by decide +kernel, by decide⟩
set_option maxRecDepth 20000 in
theorem okX12_trade : q_Ok mX12_trade 1 := ⟨(q_w 1762 (by decide +kernel) (by decide +kernel)), (q_w 105 (by decide +kernel) (by decide +kernel)), by decide +kernel, by decide⟩
set_option maxRecDepth 20000 in
theorem okX12_promise : q_Ok mX12_promise 4 := ⟨(q_w 1766 (by decide +kernel) (by decide +kernel)), (q_w 105 (by decide +kernel) (by decide +kernel)), by decide +kernel, by decide⟩
set_option maxRecDepth 20000 in
theorem okX12_isPromise : q_Ok mX12_isPromise 1 := ⟨(q_w 1775 (by decide +kernel) (by decide +kernel)), (q_w 105 (by decide +kernel) (by decide +kernel)), by decide +kernel, by decide⟩
set_option maxRecDepth 20000 in
theorem okX12_earn : q_Ok mX12_earn 1 := ⟨(q_w 1771 (by decide +kernel) (by decide +kernel)), (q_w 105 (by decide +kernel) (by decide +kernel)), by decide +kernel, by decide⟩
set_option maxRecDepth 20000 in
theorem okX12_promised : q_Ok mX12_promised 2 := ⟨(q_w 1779 (by decide +kernel) (by decide +kernel)), (q_w 105 (by decide +kernel) (by decide +kernel)), by decide +kernel, by decide⟩
set_option maxRecDepth 20000 in
theorem okX12_isOffer : q_Ok mX12_isOffer 1 := ⟨(q_w 1788 (by decide +kernel) (by decide +kernel)), (q_w 105 (by decide +kernel) (by decide +kernel)), by decide +kernel, by decide⟩
set_option maxRecDepth 20000 in
theorem okX12_hitOfOffer : q_Ok mX12_hitOfOffer 1 := ⟨(q_w 1792 (by decide +kernel) (by decide +kernel)), (q_w 105 (by decide +kernel) (by decide +kernel)), by decide +kernel, by decide⟩
set_option maxRecDepth 20000 in
theorem okX12_offer : q_Ok mX12_offer 2 := ⟨(q_w 1784 (by decide +kernel) (by decide +kernel)), (q_w 105 (by decide +kernel) (by decide +kernel)), by decide +kernel, by decide⟩
set_option maxRecDepth 20000 in
theorem okX12_buys : q_Ok mX12_buys 1 := ⟨(q_w 1796 (by decide +kernel) (by decide +kernel)), (q_w 105 (by decide +kernel) (by decide +kernel)), by decide +kernel, by decide⟩
set_option maxRecDepth 20000 in
theorem okX12_whyNotSign : q_Ok mX12_whyNotSign 1 := ⟨(q_w 1808 (by decide +kernel) (by decide +kernel)), (q_w 105 (by decide +kernel) (by decide +kernel)), by decide +kernel, by decide⟩
set_option maxRecDepth 20000 in
theorem okX12_sign : q_Ok mX12_sign 1 := ⟨(q_w 1804 (by decide +kernel) (by decide +kernel)), (q_w 105 (by decide +kernel) (by decide +kernel)), by decide +kernel, by decide⟩
set_option maxRecDepth 20000 in
theorem okX12_whyNotLess : q_Ok mX12_whyNotLess 2 := ⟨(q_w 1816 (by decide +kernel) (by decide +kernel)), (q_w 105 (by decide +kernel) (by decide +kernel)), by decide +kernel, by decide⟩
set_option maxRecDepth 20000 in
theorem okX12_turn : q_Ok mX12_turn 2 := ⟨(q_w 1812 (by decide +kernel) (by decide +kernel)), (q_w 105 (by decide +kernel) (by decide +kernel)), by decide +kernel, by decide⟩
set_option maxRecDepth 20000 in
theorem okX12_lower : q_Ok mX12_lower 2 := ⟨(q_w 1820 (by decide +kernel) (by decide +kernel)), (q_w 105 (by decide +kernel) (by decide +kernel)), by decide +kernel, by decide⟩
set_option maxRecDepth 20000 in
theorem okX12_whyNotLonger : q_Ok mX12_whyNotLonger 4 := ⟨(q_w 1828 (by decide +kernel) (by decide +kernel)), (q_w 105 (by decide +kernel) (by decide +kernel)), by decide +kernel, by decide⟩
set_option maxRecDepth 20000 in
theorem okX12_longer : q_Ok mX12_longer 4 := ⟨(q_w 1824 (by decide +kernel) (by decide +kernel)), (q_w 105 (by decide +kernel) (by decide +kernel)), by decide +kernel, by decide⟩
set_option maxRecDepth 20000 in
theorem okX12_days : q_Ok mX12_days 1 := ⟨(q_w 1833 (by decide +kernel) (by decide +kernel)), (q_w 105 (by decide +kernel) (by decide +kernel)), by decide +kernel, by decide⟩
set_option maxRecDepth 20000 in
theorem okX12_year : q_Ok mX12_year 0 := ⟨(q_w 1837 (by decide +kernel) (by decide +kernel)), (q_w 105 (by decide +kernel) (by decide +kernel)), by decide +kernel, by decide⟩
set_option maxRecDepth 20000 in
theorem okX12_saysOf : q_Ok mX12_saysOf 1 := ⟨(q_w 1845 (by decide +kernel) (by decide +kernel)), (q_w 105 (by decide +kernel) (by decide +kernel)), by decide +kernel, by decide⟩
set_option maxRecDepth 20000 in
theorem okX12_says : q_Ok mX12_says 1 := ⟨(q_w 1841 (by decide +kernel) (by decide +kernel)), (q_w 105 (by decide +kernel) (by decide +kernel)), by decide +kernel, by decide⟩
set_option maxRecDepth 20000 in
theorem okX12_isGoal : q_Ok mX12_isGoal 1 := ⟨(q_w 1860 (by decide +kernel) (by decide +kernel)), (q_w 105 (by decide +kernel) (by decide +kernel)), by decide +kernel, by decide⟩
set_option maxRecDepth 20000 in
theorem okX12_byPolicy : q_Ok mX12_byPolicy 1 := ⟨(q_w 1857 (by decide +kernel) (by decide +kernel)), (q_w 105 (by decide +kernel) (by decide +kernel)), by decide +kernel, by decide⟩
set_option maxRecDepth 20000 in
theorem okX12_laySome : q_Ok mX12_laySome 1 := ⟨(q_w 1870 (by decide +kernel) (by decide +kernel)), (q_w 105 (by decide +kernel) (by decide +kernel)), by decide +kernel, by decide⟩
set_option maxRecDepth 20000 in
theorem okX12_bits : q_Ok mX12_bits 1 := ⟨(q_w 1800 (by decide +kernel) (by decide +kernel)), (q_w 105 (by decide +kernel) (by decide +kernel)), by decide +kernel, by decide⟩
set_option maxRecDepth 20000 in
theorem okX12_deadOf : q_Ok mX12_deadOf 1 := ⟨(q_w 1874 (by decide +kernel) (by decide +kernel)), (q_w 105 (by decide +kernel) (by decide +kernel)), by decide +kernel, by decide⟩
set_option maxRecDepth 20000 in
theorem okX12_contractsOf : q_Ok mX12_contractsOf 1 := ⟨(q_w 1878 (by decide +kernel) (by decide +kernel)), (q_w 105 (by decide +kernel) (by decide +kernel)), by decide +kernel, by decide⟩
set_option maxRecDepth 20000 in
theorem okX12_set : q_Ok mX12_set 2 := ⟨(q_w 1866 (by decide +kernel) (by decide +kernel)), (q_w 105 (by decide +kernel) (by decide +kernel)), by decide +kernel, by decide⟩
set_option maxRecDepth 20000 in
theorem okX12_fit : q_Ok mX12_fit 2 := ⟨(q_w 1882 (by decide +kernel) (by decide +kernel)), (q_w 105 (by decide +kernel) (by decide +kernel)), by decide +kernel, by decide⟩
set_option maxRecDepth 20000 in
theorem okX12_turned : q_Ok mX12_turned 2 := ⟨(q_w 1886 (by decide +kernel) (by decide +kernel)), (q_w 105 (by decide +kernel) (by decide +kernel)), by decide +kernel, by decide⟩
set_option maxRecDepth 20000 in
theorem okX12_allTurned : q_Ok mX12_allTurned 0 := ⟨(q_w 1890 (by decide +kernel) (by decide +kernel)), (q_w 105 (by decide +kernel) (by decide +kernel)), by decide +kernel, by decide⟩
set_option maxRecDepth 20000 in
theorem okX12_piece : q_Ok mX12_piece 3 := ⟨(q_w 1894 (by decide +kernel) (by decide +kernel)), (q_w 105 (by decide +kernel) (by decide +kernel)), by decide +kernel, by decide⟩
set_option maxRecDepth 20000 in
theorem okX12_ahead : q_Ok mX12_ahead 1 := ⟨(q_w 1898 (by decide +kernel) (by decide +kernel)), (q_w 105 (by decide +kernel) (by decide +kernel)), by decide +kernel, by decide⟩
set_option maxRecDepth 20000 in
theorem okX12_over : q_Ok mX12_over 1 := ⟨(q_w 1902 (by decide +kernel) (by decide +kernel)), (q_w 105 (by decide +kernel) (by decide +kernel)), by decide +kernel, by decide⟩
set_option maxRecDepth 20000 in
theorem okX12_bestDay : q_Ok mX12_bestDay 1 := ⟨(q_w 1908 (by decide +kernel) (by decide +kernel)), (q_w 105 (by decide +kernel) (by decide +kernel)), by decide +kernel, by decide⟩
set_option maxRecDepth 20000 in
theorem okX12_lastDay : q_Ok mX12_lastDay 2 := ⟨(q_w 1912 (by decide +kernel) (by decide +kernel)), (q_w 105 (by decide +kernel) (by decide +kernel)), by decide +kernel, by decide⟩
set_option maxRecDepth 20000 in
theorem okX12_freeYear : q_Ok mX12_freeYear 1 := ⟨(q_w 1916 (by decide +kernel) (by decide +kernel)), (q_w 105 (by decide +kernel) (by decide +kernel)), by decide +kernel, by decide⟩
set_option maxRecDepth 20000 in
theorem okX12_coins : q_Ok mX12_coins 2 := ⟨(q_w 1920 (by decide +kernel) (by decide +kernel)), (q_w 105 (by decide +kernel) (by decide +kernel)), by decide +kernel, by decide⟩
set_option maxRecDepth 20000 in
theorem okX12_cashOf : q_Ok mX12_cashOf 2 := ⟨(q_w 1928 (by decide +kernel) (by decide +kernel)), (q_w 105 (by decide +kernel) (by decide +kernel)), by decide +kernel, by decide⟩
set_option maxRecDepth 20000 in
theorem okX12_cash : q_Ok mX12_cash 2 := ⟨(q_w 1924 (by decide +kernel) (by decide +kernel)), (q_w 105 (by decide +kernel) (by decide +kernel)), by decide +kernel, by decide⟩
set_option maxRecDepth 20000 in
theorem okX12_allCash : q_Ok mX12_allCash 1 := ⟨(q_w 1932 (by decide +kernel) (by decide +kernel)), (q_w 105 (by decide +kernel) (by decide +kernel)), by decide +kernel, by decide⟩
set_option maxRecDepth 20000 in
theorem okX12_floor : q_Ok mX12_floor 2 := ⟨(q_w 1936 (by decide +kernel) (by decide +kernel)), (q_w 105 (by decide +kernel) (by decide +kernel)), by decide +kernel, by decide⟩
set_option maxRecDepth 20000 in
theorem okX12_placed : q_Ok mX12_placed 2 := ⟨(q_w 1945 (by decide +kernel) (by decide +kernel)), (q_w 105 (by decide +kernel) (by decide +kernel)), by decide +kernel, by decide⟩
set_option maxRecDepth 20000 in
theorem okX12_ranked : q_Ok mX12_ranked 1 := ⟨(q_w 1941 (by decide +kernel) (by decide +kernel)), (q_w 105 (by decide +kernel) (by decide +kernel)), by decide +kernel, by decide⟩
set_option maxRecDepth 20000 in
theorem okX12_dearest : q_Ok mX12_dearest 1 := ⟨(q_w 1949 (by decide +kernel) (by decide +kernel)), (q_w 105 (by decide +kernel) (by decide +kernel)), by decide +kernel, by decide⟩
set_option maxRecDepth 20000 in
theorem okX12_tag : q_Ok mX12_tag 1 := ⟨(q_w 1953 (by decide +kernel) (by decide +kernel)), (q_w 105 (by decide +kernel) (by decide +kernel)), by decide +kernel, by decide⟩
set_option maxRecDepth 20000 in
theorem okX12_counted : q_Ok mX12_counted 1 := ⟨(q_w 1958 (by decide +kernel) (by decide +kernel)), (q_w 105 (by decide +kernel) (by decide +kernel)), by decide +kernel, by decide⟩
set_option maxRecDepth 20000 in
theorem okX12_share : q_Ok mX12_share 1 := ⟨(q_w 1962 (by decide +kernel) (by decide +kernel)), (q_w 105 (by decide +kernel) (by decide +kernel)), by decide +kernel, by decide⟩
set_option maxRecDepth 20000 in
theorem okX12_readAct : q_Ok mX12_readAct 0 := ⟨(q_w 1973 (by decide +kernel) (by decide +kernel)), (q_w 105 (by decide +kernel) (by decide +kernel)), by decide +kernel, by decide⟩
set_option maxRecDepth 20000 in
theorem okX12_doAct : q_Ok mX12_doAct 1 := ⟨(q_w 1977 (by decide +kernel) (by decide +kernel)), (q_w 105 (by decide +kernel) (by decide +kernel)), by decide +kernel, by decide⟩
set_option maxRecDepth 20000 in
theorem okX12_acts : q_Ok mX12_acts 0 := ⟨(q_w 1969 (by decide +kernel) (by decide +kernel)), (q_w 105 (by decide +kernel) (by decide +kernel)), by decide +kernel, by decide⟩
set_option maxRecDepth 20000 in
theorem okX12_ended : q_Ok mX12_ended 0 := ⟨(q_w 1985 (by decide +kernel) (by decide +kernel)), (q_w 105 (by decide +kernel) (by decide +kernel)), by decide +kernel, by decide⟩
set_option maxRecDepth 20000 in
theorem okX12_writes : q_Ok mX12_writes 1 := ⟨(q_w 1993 (by decide +kernel) (by decide +kernel)), (q_w 105 (by decide +kernel) (by decide +kernel)), by decide +kernel, by decide⟩
set_option maxRecDepth 20000 in
theorem okX12_writeNumber : q_Ok mX12_writeNumber 2 := ⟨(q_w 1997 (by decide +kernel) (by decide +kernel)), (q_w 105 (by decide +kernel) (by decide +kernel)), by decide +kernel, by decide⟩
set_option maxRecDepth 20000 in
theorem okX12_write : q_Ok mX12_write 0 := ⟨(q_w 1989 (by decide +kernel) (by decide +kernel)), (q_w 105 (by decide +kernel) (by decide +kernel)), by decide +kernel, by decide⟩
set_option maxRecDepth 20000 in
theorem okX12_octet : q_Ok mX12_octet 1 := ⟨(q_w 2001 (by decide +kernel) (by decide +kernel)), (q_w 105 (by decide +kernel) (by decide +kernel)), by decide +kernel, by decide⟩
set_option maxRecDepth 20000 in
theorem okJ6_bitCount_0f7a4 : q_Ok mJ6_bitCount_0f7a4 1 := ⟨(q_w 1186 (by decide +kernel) (by decide +kernel)), (q_w 111 (by decide +kernel) (by decide +kernel)), by decide +kernel, by decide⟩
set_option maxRecDepth 20000 in
theorem okJ9_max_7cf53 : q_Ok mJ9_max_7cf53 2 := ⟨(q_w 382 (by decide +kernel) (by decide +kernel)), (q_w 101 (by decide +kernel) (by decide +kernel)), by decide +kernel, by decide⟩
set_option maxRecDepth 20000 in
theorem okJ9_min_7cf53 : q_Ok mJ9_min_7cf53 2 := ⟨(q_w 658 (by decide +kernel) (by decide +kernel)), (q_w 101 (by decide +kernel) (by decide +kernel)), by decide +kernel, by decide⟩
set_option maxRecDepth 20000 in
theorem okJ9_min_f86c9 : q_Ok mJ9_min_f86c9 2 := ⟨(q_w 1306 (by decide +kernel) (by decide +kernel)), (q_w 101 (by decide +kernel) (by decide +kernel)), by decide +kernel, by decide⟩
set_option maxRecDepth 20000 in
theorem okJ0_charAt_5068e : q_Ok mJ0_charAt_5068e 1 := ⟨(q_w 730 (by decide +kernel) (by decide +kernel)), (q_w 107 (by decide +kernel) (by decide +kernel)), by decide +kernel, by decide⟩
set_option maxRecDepth 20000 in
theorem okJ0_isLatin1_aae02 : q_Ok mJ0_isLatin1_aae02 0 := ⟨(q_w 734 (by decide +kernel) (by decide +kernel)), (q_w 107 (by decide +kernel) (by decide +kernel)), by decide +kernel, by decide⟩
set_option maxRecDepth 20000 in
theorem okJ0_checkIndex_df160 : q_Ok mJ0_checkIndex_df160 2 := ⟨(q_w 742 (by decide +kernel) (by decide +kernel)), (q_w 107 (by decide +kernel) (by decide +kernel)), by decide +kernel, by decide⟩
set_option maxRecDepth 20000 in
theorem okJ1_charAt_3b067 : q_Ok mJ1_charAt_3b067 2 := ⟨(q_w 739 (by decide +kernel) (by decide +kernel)), (q_w 108 (by decide +kernel) (by decide +kernel)), by decide +kernel, by decide⟩
set_option maxRecDepth 20000 in
theorem okJ2_getChar_3b067 : q_Ok mJ2_getChar_3b067 2 := ⟨(q_w 760 (by decide +kernel) (by decide +kernel)), (q_w 110 (by decide +kernel) (by decide +kernel)), by decide +kernel, by decide⟩
set_option maxRecDepth 20000 in
theorem okJ2_length_9d52b : q_Ok mJ2_length_9d52b 1 := ⟨(q_w 756 (by decide +kernel) (by decide +kernel)), (q_w 110 (by decide +kernel) (by decide +kernel)), by decide +kernel, by decide⟩
set_option maxRecDepth 20000 in
theorem okJ2_charAt_3b067 : q_Ok mJ2_charAt_3b067 2 := ⟨(q_w 750 (by decide +kernel) (by decide +kernel)), (q_w 110 (by decide +kernel) (by decide +kernel)), by decide +kernel, by decide⟩
set_option maxRecDepth 20000 in
theorem okJ2_checkIndex_2214a : q_Ok mJ2_checkIndex_2214a 2 := ⟨(q_w 753 (by decide +kernel) (by decide +kernel)), (q_w 110 (by decide +kernel) (by decide +kernel)), by decide +kernel, by decide⟩
set_option maxRecDepth 20000 in
theorem okJ3_checkIndex_8e157 : q_Ok mJ3_checkIndex_8e157 3 := ⟨(q_w 747 (by decide +kernel) (by decide +kernel)), (q_w 109 (by decide +kernel) (by decide +kernel)), by decide +kernel, by decide⟩
