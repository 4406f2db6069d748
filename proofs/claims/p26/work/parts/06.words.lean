set_option maxRecDepth 100000 in
theorem lwm {w : Cond} (i : Nat) (h : lw_tbl[i]? = some w) : w ∈ lw_tbl := List.mem_of_getElem? h
set_option maxRecDepth 100000 in
theorem fl_X0_11 : Cond.fieldLink RX0 11 "ColdChain$History" "temperatures" "[[I" ∈ lw_tbl := lwm 184 (by decide +kernel)
set_option maxRecDepth 100000 in
theorem fl_X0_16 : Cond.fieldLink RX0 16 "ColdChain$History" "toldOnes" "[[I" ∈ lw_tbl := lwm 185 (by decide +kernel)
set_option maxRecDepth 100000 in
theorem fl_X0_23 : Cond.fieldLink RX0 23 "ColdChain$Van" "zones" "[LColdChain$Zone;" ∈ lw_tbl := lwm 86 (by decide +kernel)
set_option maxRecDepth 100000 in
theorem fl_X0_29 : Cond.fieldLink RX0 29 "ColdChain$Zone" "temperature" "I" ∈ lw_tbl := lwm 47 (by decide +kernel)
set_option maxRecDepth 100000 in
theorem fl_X1_9 : Cond.fieldLink RX1 9 "ColdChain$Pallet" "van" "I" ∈ lw_tbl := lwm 106 (by decide +kernel)
set_option maxRecDepth 100000 in
theorem fl_X1_15 : Cond.fieldLink RX1 15 "ColdChain$Pallet" "zone" "I" ∈ lw_tbl := lwm 108 (by decide +kernel)
set_option maxRecDepth 100000 in
theorem fl_X1_18 : Cond.fieldLink RX1 18 "ColdChain$Pallet" "limit" "I" ∈ lw_tbl := lwm 110 (by decide +kernel)
set_option maxRecDepth 100000 in
theorem fl_X1_21 : Cond.fieldLink RX1 21 "ColdChain$Pallet" "allowance" "I" ∈ lw_tbl := lwm 111 (by decide +kernel)
set_option maxRecDepth 100000 in
theorem fl_X1_24 : Cond.fieldLink RX1 24 "ColdChain$Pallet" "value" "I" ∈ lw_tbl := lwm 112 (by decide +kernel)
set_option maxRecDepth 100000 in
theorem fl_X1_27 : Cond.fieldLink RX1 27 "ColdChain$Pallet" "state" "I" ∈ lw_tbl := lwm 114 (by decide +kernel)
set_option maxRecDepth 100000 in
theorem fl_X1_30 : Cond.fieldLink RX1 30 "ColdChain$Pallet" "openMinutes" "I" ∈ lw_tbl := lwm 116 (by decide +kernel)
set_option maxRecDepth 100000 in
theorem fl_X1_33 : Cond.fieldLink RX1 33 "ColdChain$Pallet" "closedMinutes" "I" ∈ lw_tbl := lwm 117 (by decide +kernel)
set_option maxRecDepth 100000 in
theorem fl_X1_36 : Cond.fieldLink RX1 36 "ColdChain$Pallet" "toldMinutes" "I" ∈ lw_tbl := lwm 118 (by decide +kernel)
set_option maxRecDepth 100000 in
theorem fl_X1_39 : Cond.fieldLink RX1 39 "ColdChain$Pallet" "part" "I" ∈ lw_tbl := lwm 119 (by decide +kernel)
set_option maxRecDepth 100000 in
theorem fl_X1_42 : Cond.fieldLink RX1 42 "ColdChain$Van" "zones" "[LColdChain$Zone;" ∈ lw_tbl := lwm 87 (by decide +kernel)
set_option maxRecDepth 100000 in
theorem fl_X1_48 : Cond.fieldLink RX1 48 "ColdChain$Zone" "temperature" "I" ∈ lw_tbl := lwm 49 (by decide +kernel)
set_option maxRecDepth 100000 in
theorem fl_X1_53 : Cond.fieldLink RX1 53 "ColdChain$Van" "open" "Z" ∈ lw_tbl := lwm 81 (by decide +kernel)
set_option maxRecDepth 100000 in
theorem fl_X2_9 : Cond.fieldLink RX2 9 "ColdChain$Script" "text" "[C" ∈ lw_tbl := lwm 198 (by decide +kernel)
set_option maxRecDepth 100000 in
theorem fl_X2_15 : Cond.fieldLink RX2 15 "ColdChain$Script" "letters" "[I" ∈ lw_tbl := lwm 200 (by decide +kernel)
set_option maxRecDepth 100000 in
theorem fl_X2_19 : Cond.fieldLink RX2 19 "ColdChain$Script" "firsts" "[I" ∈ lw_tbl := lwm 201 (by decide +kernel)
set_option maxRecDepth 100000 in
theorem fl_X2_22 : Cond.fieldLink RX2 22 "ColdChain$Script" "seconds" "[I" ∈ lw_tbl := lwm 202 (by decide +kernel)
set_option maxRecDepth 100000 in
theorem fl_X3_9 : Cond.fieldLink RX3 9 "ColdChain$State" "outside" "I" ∈ lw_tbl := lwm 144 (by decide +kernel)
set_option maxRecDepth 100000 in
theorem fl_X3_15 : Cond.fieldLink RX3 15 "ColdChain$State" "difference" "I" ∈ lw_tbl := lwm 146 (by decide +kernel)
set_option maxRecDepth 100000 in
theorem fl_X3_18 : Cond.fieldLink RX3 18 "ColdChain$State" "patience" "I" ∈ lw_tbl := lwm 148 (by decide +kernel)
set_option maxRecDepth 100000 in
theorem fl_X3_23 : Cond.fieldLink RX3 23 "ColdChain$State" "vans" "[LColdChain$Van;" ∈ lw_tbl := lwm 154 (by decide +kernel)
set_option maxRecDepth 100000 in
theorem fl_X3_29 : Cond.fieldLink RX3 29 "ColdChain$State" "pallets" "[LColdChain$Pallet;" ∈ lw_tbl := lwm 156 (by decide +kernel)
set_option maxRecDepth 100000 in
theorem fl_X3_35 : Cond.fieldLink RX3 35 "ColdChain$State" "time" "I" ∈ lw_tbl := lwm 142 (by decide +kernel)
set_option maxRecDepth 100000 in
theorem fl_X3_38 : Cond.fieldLink RX3 38 "ColdChain$State" "vanCount" "I" ∈ lw_tbl := lwm 150 (by decide +kernel)
set_option maxRecDepth 100000 in
theorem fl_X3_41 : Cond.fieldLink RX3 41 "ColdChain$State" "palletCount" "I" ∈ lw_tbl := lwm 152 (by decide +kernel)
set_option maxRecDepth 100000 in
theorem fl_X3_59 : Cond.fieldLink RX3 59 "ColdChain$Van" "zones" "[LColdChain$Zone;" ∈ lw_tbl := lwm 88 (by decide +kernel)
set_option maxRecDepth 100000 in
theorem fl_X3_63 : Cond.fieldLink RX3 63 "ColdChain$Zone" "found" "Z" ∈ lw_tbl := lwm 57 (by decide +kernel)
set_option maxRecDepth 100000 in
theorem fl_X3_72 : Cond.fieldLink RX3 72 "ColdChain$Pallet" "zone" "I" ∈ lw_tbl := lwm 109 (by decide +kernel)
set_option maxRecDepth 100000 in
theorem fl_X3_89 : Cond.fieldLink RX3 89 "ColdChain$Van" "setPoint" "I" ∈ lw_tbl := lwm 75 (by decide +kernel)
set_option maxRecDepth 100000 in
theorem fl_X3_92 : Cond.fieldLink RX3 92 "ColdChain$Van" "cooling" "I" ∈ lw_tbl := lwm 78 (by decide +kernel)
set_option maxRecDepth 100000 in
theorem fl_X3_101 : Cond.fieldLink RX3 101 "ColdChain$Zone" "mode" "I" ∈ lw_tbl := lwm 52 (by decide +kernel)
set_option maxRecDepth 100000 in
theorem fl_X3_104 : Cond.fieldLink RX3 104 "ColdChain$Zone" "value" "I" ∈ lw_tbl := lwm 55 (by decide +kernel)
set_option maxRecDepth 100000 in
theorem fl_X3_116 : Cond.fieldLink RX3 116 "ColdChain$Van" "open" "Z" ∈ lw_tbl := lwm 82 (by decide +kernel)
set_option maxRecDepth 100000 in
theorem fl_X3_161 : Cond.fieldLink RX3 161 "ColdChain$Pallet" "state" "I" ∈ lw_tbl := lwm 115 (by decide +kernel)
set_option maxRecDepth 100000 in
theorem fl_X3_164 : Cond.fieldLink RX3 164 "ColdChain$Pallet" "van" "I" ∈ lw_tbl := lwm 107 (by decide +kernel)
set_option maxRecDepth 100000 in
theorem fl_X3_176 : Cond.fieldLink RX3 176 "ColdChain$Pallet" "value" "I" ∈ lw_tbl := lwm 113 (by decide +kernel)
set_option maxRecDepth 100000 in
theorem fl_X3_177 : Cond.fieldLink RX3 177 "ColdChain$Pallet" "part" "I" ∈ lw_tbl := lwm 120 (by decide +kernel)
set_option maxRecDepth 100000 in
theorem fl_X4_11 : Cond.fieldLink RX4 11 "ColdChain$Van" "zones" "[LColdChain$Zone;" ∈ lw_tbl := lwm 85 (by decide +kernel)
set_option maxRecDepth 100000 in
theorem fl_X4_18 : Cond.fieldLink RX4 18 "ColdChain$Van" "setPoint" "I" ∈ lw_tbl := lwm 74 (by decide +kernel)
set_option maxRecDepth 100000 in
theorem fl_X4_22 : Cond.fieldLink RX4 22 "ColdChain$Van" "cooling" "I" ∈ lw_tbl := lwm 77 (by decide +kernel)
set_option maxRecDepth 100000 in
theorem fl_X4_25 : Cond.fieldLink RX4 25 "ColdChain$Van" "open" "Z" ∈ lw_tbl := lwm 80 (by decide +kernel)
set_option maxRecDepth 100000 in
theorem fl_X4_29 : Cond.fieldLink RX4 29 "ColdChain$Van" "addedAt" "I" ∈ lw_tbl := lwm 84 (by decide +kernel)
set_option maxRecDepth 100000 in
theorem fl_X4_39 : Cond.fieldLink RX4 39 "ColdChain$Zone" "temperature" "I" ∈ lw_tbl := lwm 48 (by decide +kernel)
set_option maxRecDepth 100000 in
theorem fl_X4_54 : Cond.fieldLink RX4 54 "ColdChain$Zone" "oddMinutes" "I" ∈ lw_tbl := lwm 61 (by decide +kernel)
set_option maxRecDepth 100000 in
theorem fl_X4_57 : Cond.fieldLink RX4 57 "ColdChain$Zone" "found" "Z" ∈ lw_tbl := lwm 58 (by decide +kernel)
set_option maxRecDepth 100000 in
theorem fl_X5_9 : Cond.fieldLink RX5 9 "ColdChain$Zone" "temperature" "I" ∈ lw_tbl := lwm 46 (by decide +kernel)
set_option maxRecDepth 100000 in
theorem fl_X5_15 : Cond.fieldLink RX5 15 "ColdChain$Zone" "mode" "I" ∈ lw_tbl := lwm 51 (by decide +kernel)
set_option maxRecDepth 100000 in
theorem fl_X5_18 : Cond.fieldLink RX5 18 "ColdChain$Zone" "value" "I" ∈ lw_tbl := lwm 54 (by decide +kernel)
set_option maxRecDepth 100000 in
theorem fl_X5_21 : Cond.fieldLink RX5 21 "ColdChain$Zone" "found" "Z" ∈ lw_tbl := lwm 56 (by decide +kernel)
set_option maxRecDepth 100000 in
theorem fl_X5_25 : Cond.fieldLink RX5 25 "ColdChain$Zone" "oddMinutes" "I" ∈ lw_tbl := lwm 60 (by decide +kernel)
set_option maxRecDepth 100000 in
theorem fl_X6_10 : Cond.fieldLink RX6 10 "ColdChain" "now" "LColdChain$State;" ∈ lw_tbl := lwm 219 (by decide +kernel)
set_option maxRecDepth 100000 in
theorem fl_X6_16 : Cond.fieldLink RX6 16 "ColdChain" "trial" "LColdChain$State;" ∈ lw_tbl := lwm 220 (by decide +kernel)
set_option maxRecDepth 100000 in
theorem fl_X6_19 : Cond.fieldLink RX6 19 "ColdChain" "saved" "[LColdChain$State;" ∈ lw_tbl := lwm 221 (by decide +kernel)
set_option maxRecDepth 100000 in
theorem fl_X6_26 : Cond.fieldLink RX6 26 "ColdChain" "history" "LColdChain$History;" ∈ lw_tbl := lwm 224 (by decide +kernel)
set_option maxRecDepth 100000 in
theorem fl_X6_33 : Cond.fieldLink RX6 33 "ColdChain" "script" "LColdChain$Script;" ∈ lw_tbl := lwm 225 (by decide +kernel)
set_option maxRecDepth 100000 in
theorem fl_X6_82 : Cond.fieldLink RX6 82 "ColdChain$Script" "length" "I" ∈ lw_tbl := lwm 199 (by decide +kernel)
set_option maxRecDepth 100000 in
theorem fl_X6_101 : Cond.fieldLink RX6 101 "ColdChain" "free" "I" ∈ lw_tbl := lwm 222 (by decide +kernel)
set_option maxRecDepth 100000 in
theorem fl_X6_109 : Cond.fieldLink RX6 109 "ColdChain$State" "vanCount" "I" ∈ lw_tbl := lwm 151 (by decide +kernel)
set_option maxRecDepth 100000 in
theorem fl_X6_112 : Cond.fieldLink RX6 112 "ColdChain$State" "palletCount" "I" ∈ lw_tbl := lwm 153 (by decide +kernel)
set_option maxRecDepth 100000 in
theorem fl_X6_115 : Cond.fieldLink RX6 115 "ColdChain$State" "time" "I" ∈ lw_tbl := lwm 143 (by decide +kernel)
set_option maxRecDepth 100000 in
theorem fl_X6_118 : Cond.fieldLink RX6 118 "ColdChain$State" "outside" "I" ∈ lw_tbl := lwm 145 (by decide +kernel)
set_option maxRecDepth 100000 in
theorem fl_X6_121 : Cond.fieldLink RX6 121 "ColdChain$State" "difference" "I" ∈ lw_tbl := lwm 147 (by decide +kernel)
set_option maxRecDepth 100000 in
theorem fl_X6_124 : Cond.fieldLink RX6 124 "ColdChain$State" "patience" "I" ∈ lw_tbl := lwm 149 (by decide +kernel)
set_option maxRecDepth 100000 in
theorem fl_X6_127 : Cond.fieldLink RX6 127 "ColdChain" "savedCount" "I" ∈ lw_tbl := lwm 223 (by decide +kernel)
set_option maxRecDepth 100000 in
theorem fl_X6_137 : Cond.fieldLink RX6 137 "ColdChain$State" "vans" "[LColdChain$Van;" ∈ lw_tbl := lwm 155 (by decide +kernel)
set_option maxRecDepth 100000 in
theorem fl_X6_141 : Cond.fieldLink RX6 141 "ColdChain$Van" "setPoint" "I" ∈ lw_tbl := lwm 76 (by decide +kernel)
set_option maxRecDepth 100000 in
theorem fl_X6_146 : Cond.fieldLink RX6 146 "ColdChain$Van" "cooling" "I" ∈ lw_tbl := lwm 79 (by decide +kernel)
set_option maxRecDepth 100000 in
theorem fl_X6_149 : Cond.fieldLink RX6 149 "ColdChain$Van" "open" "Z" ∈ lw_tbl := lwm 83 (by decide +kernel)
set_option maxRecDepth 100000 in
theorem fl_X6_160 : Cond.fieldLink RX6 160 "ColdChain$Van" "zones" "[LColdChain$Zone;" ∈ lw_tbl := lwm 89 (by decide +kernel)
set_option maxRecDepth 100000 in
theorem fl_X6_164 : Cond.fieldLink RX6 164 "ColdChain$Zone" "temperature" "I" ∈ lw_tbl := lwm 50 (by decide +kernel)
set_option maxRecDepth 100000 in
theorem fl_X6_175 : Cond.fieldLink RX6 175 "ColdChain$Zone" "mode" "I" ∈ lw_tbl := lwm 53 (by decide +kernel)
set_option maxRecDepth 100000 in
theorem fl_X6_178 : Cond.fieldLink RX6 178 "ColdChain$Zone" "found" "Z" ∈ lw_tbl := lwm 59 (by decide +kernel)
set_option maxRecDepth 100000 in
theorem fl_X6_181 : Cond.fieldLink RX6 181 "ColdChain$Zone" "oddMinutes" "I" ∈ lw_tbl := lwm 62 (by decide +kernel)
set_option maxRecDepth 100000 in
theorem fl_X6_187 : Cond.fieldLink RX6 187 "ColdChain$State" "pallets" "[LColdChain$Pallet;" ∈ lw_tbl := lwm 157 (by decide +kernel)
set_option maxRecDepth 100000 in
theorem cn_J6_265 : Cond.constant RJ6 265 (1431655765 : Int32) ∈ lw_tbl := lwm 461 (by decide +kernel)
set_option maxRecDepth 100000 in
theorem cn_J6_266 : Cond.constant RJ6 266 (858993459 : Int32) ∈ lw_tbl := lwm 462 (by decide +kernel)
set_option maxRecDepth 100000 in
theorem cn_J6_267 : Cond.constant RJ6 267 (252645135 : Int32) ∈ lw_tbl := lwm 463 (by decide +kernel)
set_option maxRecDepth 100000 in
theorem cn_L_7 : Cond.constant RL 7 (40503 : Int32) ∈ lw_tbl := lwm 320 (by decide +kernel)
set_option maxRecDepth 100000 in
theorem cn_L_8 : Cond.constant RL 8 (2147483647 : Int32) ∈ lw_tbl := lwm 324 (by decide +kernel)
set_option maxRecDepth 100000 in
theorem cn_L_42 : Cond.constant RL 42 (60000 : Int32) ∈ lw_tbl := lwm 328 (by decide +kernel)
set_option maxRecDepth 100000 in
theorem cn_L_50 : Cond.constant RL 50 (-100003 : Int32) ∈ lw_tbl := lwm 386 (by decide +kernel)
set_option maxRecDepth 100000 in
theorem cn_L_69 : Cond.constant RL 69 (-100001 : Int32) ∈ lw_tbl := lwm 447 (by decide +kernel)
set_option maxRecDepth 100000 in
theorem cn_L_70 : Cond.constant RL 70 (-100002 : Int32) ∈ lw_tbl := lwm 448 (by decide +kernel)
set_option maxRecDepth 100000 in
theorem cn_X1_72 : Cond.constant RX1 72 (-100001 : Int32) ∈ lw_tbl := lwm 302 (by decide +kernel)
set_option maxRecDepth 100000 in
theorem cn_X3_83 : Cond.constant RX3 83 (-100001 : Int32) ∈ lw_tbl := lwm 363 (by decide +kernel)
set_option maxRecDepth 100000 in
theorem cn_X3_84 : Cond.constant RX3 84 (-100003 : Int32) ∈ lw_tbl := lwm 364 (by decide +kernel)
set_option maxRecDepth 100000 in
theorem cn_X3_119 : Cond.constant RX3 119 (-100002 : Int32) ∈ lw_tbl := lwm 438 (by decide +kernel)
set_option maxRecDepth 100000 in
theorem cn_X6_133 : Cond.constant RX6 133 (-100001 : Int32) ∈ lw_tbl := lwm 249 (by decide +kernel)
set_option maxRecDepth 100000 in
theorem ms_X6_isWithin : Cond.static yX6_isWithin ∈ lw_tbl := lwm 268 (by decide +kernel)
set_option maxRecDepth 100000 in
theorem ms_J9_floorDiv_7cf53 : Cond.static yJ9_floorDiv_7cf53 ∈ lw_tbl := lwm 280 (by decide +kernel)
set_option maxRecDepth 100000 in
theorem ms_L_cell : Cond.static yL_cell ∈ lw_tbl := lwm 318 (by decide +kernel)
set_option maxRecDepth 100000 in
theorem ms_L_low : Cond.static yL_low ∈ lw_tbl := lwm 322 (by decide +kernel)
set_option maxRecDepth 100000 in
theorem ms_L_acts : Cond.static yL_acts ∈ lw_tbl := lwm 326 (by decide +kernel)
set_option maxRecDepth 100000 in
theorem ms_L_adds : Cond.static yL_adds ∈ lw_tbl := lwm 330 (by decide +kernel)
set_option maxRecDepth 100000 in
theorem ms_X6_isVanSetting : Cond.static yX6_isVanSetting ∈ lw_tbl := lwm 361 (by decide +kernel)
set_option maxRecDepth 100000 in
theorem ms_X6_isError : Cond.static yX6_isError ∈ lw_tbl := lwm 378 (by decide +kernel)
set_option maxRecDepth 100000 in
theorem ms_J9_min_7cf53 : Cond.static yJ9_min_7cf53 ∈ lw_tbl := lwm 381 (by decide +kernel)
set_option maxRecDepth 100000 in
theorem ms_L_spot : Cond.static yL_spot ∈ lw_tbl := lwm 384 (by decide +kernel)
set_option maxRecDepth 100000 in
theorem ms_X6_isProbeSetting : Cond.static yX6_isProbeSetting ∈ lw_tbl := lwm 413 (by decide +kernel)
set_option maxRecDepth 100000 in
theorem ms_X6_isLimit : Cond.static yX6_isLimit ∈ lw_tbl := lwm 433 (by decide +kernel)
set_option maxRecDepth 100000 in
theorem ms_X6_isPrice : Cond.static yX6_isPrice ∈ lw_tbl := lwm 436 (by decide +kernel)
set_option maxRecDepth 100000 in
theorem ms_J6_bitCount_0f7a4 : Cond.static yJ6_bitCount_0f7a4 ∈ lw_tbl := lwm 459 (by decide +kernel)
set_option maxRecDepth 100000 in
theorem ms_L_inside : Cond.static yL_inside ∈ lw_tbl := lwm 465 (by decide +kernel)
set_option maxRecDepth 100000 in
theorem ms_L_many : Cond.static yL_many ∈ lw_tbl := lwm 468 (by decide +kernel)
set_option maxRecDepth 100000 in
theorem ms_X3_isIn : Cond.static yX3_isIn ∈ lw_tbl := lwm 492 (by decide +kernel)
set_option maxRecDepth 100000 in
theorem ms_J9_max_7cf53 : Cond.static yJ9_max_7cf53 ∈ lw_tbl := lwm 503 (by decide +kernel)
set_option maxRecDepth 100000 in
theorem ms_L_shares : Cond.static yL_shares ∈ lw_tbl := lwm 506 (by decide +kernel)
set_option maxRecDepth 100000 in
theorem ms_J9_abs_0f7a4 : Cond.static yJ9_abs_0f7a4 ∈ lw_tbl := lwm 544 (by decide +kernel)
set_option maxRecDepth 100000 in
theorem ms_L_passes : Cond.static yL_passes ∈ lw_tbl := lwm 561 (by decide +kernel)
set_option maxRecDepth 100000 in
theorem ms_L_vanMinute : Cond.static yL_vanMinute ∈ lw_tbl := lwm 564 (by decide +kernel)
set_option maxRecDepth 100000 in
theorem ms_L_isOdd : Cond.static yL_isOdd ∈ lw_tbl := lwm 567 (by decide +kernel)
set_option maxRecDepth 100000 in
theorem ms_L_read : Cond.static yL_read ∈ lw_tbl := lwm 570 (by decide +kernel)
set_option maxRecDepth 100000 in
theorem ms_L_apart : Cond.static yL_apart ∈ lw_tbl := lwm 573 (by decide +kernel)
set_option maxRecDepth 100000 in
theorem ms_L_told : Cond.static yL_told ∈ lw_tbl := lwm 576 (by decide +kernel)
set_option maxRecDepth 100000 in
theorem ms_L_isSo : Cond.static yL_isSo ∈ lw_tbl := lwm 579 (by decide +kernel)
set_option maxRecDepth 100000 in
theorem ms_L_cause : Cond.static yL_cause ∈ lw_tbl := lwm 590 (by decide +kernel)
set_option maxRecDepth 100000 in
theorem mi_X6_init : Cond.instanceMethod yX6_init ∈ lw_tbl := lwm 19 (by decide +kernel)
set_option maxRecDepth 100000 in
theorem mi_X3_init : Cond.instanceMethod yX3_init ∈ lw_tbl := lwm 27 (by decide +kernel)
set_option maxRecDepth 100000 in
theorem mi_X4_init : Cond.instanceMethod yX4_init ∈ lw_tbl := lwm 36 (by decide +kernel)
set_option maxRecDepth 100000 in
theorem mi_X5_init : Cond.instanceMethod yX5_init ∈ lw_tbl := lwm 43 (by decide +kernel)
set_option maxRecDepth 100000 in
theorem mi_X1_init : Cond.instanceMethod yX1_init ∈ lw_tbl := lwm 103 (by decide +kernel)
set_option maxRecDepth 100000 in
theorem mi_X0_init : Cond.instanceMethod yX0_init ∈ lw_tbl := lwm 179 (by decide +kernel)
set_option maxRecDepth 100000 in
theorem mi_X2_init : Cond.instanceMethod yX2_init ∈ lw_tbl := lwm 195 (by decide +kernel)
set_option maxRecDepth 100000 in
theorem mi_X6_van : Cond.instanceMethod yX6_van ∈ lw_tbl := lwm 242 (by decide +kernel)
set_option maxRecDepth 100000 in
theorem mi_X3_hasVan : Cond.instanceMethod yX3_hasVan ∈ lw_tbl := lwm 246 (by decide +kernel)
set_option maxRecDepth 100000 in
theorem mi_X3_palletsIn : Cond.instanceMethod yX3_palletsIn ∈ lw_tbl := lwm 251 (by decide +kernel)
set_option maxRecDepth 100000 in
theorem mi_X1_isIn : Cond.instanceMethod yX1_isIn ∈ lw_tbl := lwm 255 (by decide +kernel)
set_option maxRecDepth 100000 in
theorem mi_X6_zone : Cond.instanceMethod yX6_zone ∈ lw_tbl := lwm 259 (by decide +kernel)
set_option maxRecDepth 100000 in
theorem mi_X3_hasZone : Cond.instanceMethod yX3_hasZone ∈ lw_tbl := lwm 263 (by decide +kernel)
set_option maxRecDepth 100000 in
theorem mi_X5_reading : Cond.instanceMethod yX5_reading ∈ lw_tbl := lwm 271 (by decide +kernel)
set_option maxRecDepth 100000 in
theorem mi_X4_toldIn : Cond.instanceMethod yX4_toldIn ∈ lw_tbl := lwm 275 (by decide +kernel)
set_option maxRecDepth 100000 in
theorem mi_X6_pallet : Cond.instanceMethod yX6_pallet ∈ lw_tbl := lwm 283 (by decide +kernel)
set_option maxRecDepth 100000 in
theorem mi_X3_hasPallet : Cond.instanceMethod yX3_hasPallet ∈ lw_tbl := lwm 287 (by decide +kernel)
set_option maxRecDepth 100000 in
theorem mi_X1_property : Cond.instanceMethod yX1_property ∈ lw_tbl := lwm 291 (by decide +kernel)
set_option maxRecDepth 100000 in
theorem mi_X1_cause : Cond.instanceMethod yX1_cause ∈ lw_tbl := lwm 295 (by decide +kernel)
set_option maxRecDepth 100000 in
theorem mi_X1_wasRejected : Cond.instanceMethod yX1_wasRejected ∈ lw_tbl := lwm 299 (by decide +kernel)
set_option maxRecDepth 100000 in
theorem mi_X6_claims : Cond.instanceMethod yX6_claims ∈ lw_tbl := lwm 304 (by decide +kernel)
set_option maxRecDepth 100000 in
theorem mi_X1_claim : Cond.instanceMethod yX1_claim ∈ lw_tbl := lwm 309 (by decide +kernel)
set_option maxRecDepth 100000 in
theorem mi_X1_claimBy : Cond.instanceMethod yX1_claimBy ∈ lw_tbl := lwm 313 (by decide +kernel)
set_option maxRecDepth 100000 in
theorem mi_X6_addVan : Cond.instanceMethod yX6_addVan ∈ lw_tbl := lwm 333 (by decide +kernel)
set_option maxRecDepth 100000 in
theorem mi_X6_noteState : Cond.instanceMethod yX6_noteState ∈ lw_tbl := lwm 338 (by decide +kernel)
set_option maxRecDepth 100000 in
theorem mi_X3_copyFrom : Cond.instanceMethod yX3_copyFrom ∈ lw_tbl := lwm 341 (by decide +kernel)
set_option maxRecDepth 100000 in
theorem mi_X4_copyFrom : Cond.instanceMethod yX4_copyFrom ∈ lw_tbl := lwm 345 (by decide +kernel)
set_option maxRecDepth 100000 in
theorem mi_X5_copyFrom : Cond.instanceMethod yX5_copyFrom ∈ lw_tbl := lwm 349 (by decide +kernel)
set_option maxRecDepth 100000 in
theorem mi_X1_copyFrom : Cond.instanceMethod yX1_copyFrom ∈ lw_tbl := lwm 353 (by decide +kernel)
set_option maxRecDepth 100000 in
theorem mi_X3_putVan : Cond.instanceMethod yX3_putVan ∈ lw_tbl := lwm 357 (by decide +kernel)
set_option maxRecDepth 100000 in
theorem mi_X4_start : Cond.instanceMethod yX4_start ∈ lw_tbl := lwm 366 (by decide +kernel)
set_option maxRecDepth 100000 in
theorem mi_X5_mend : Cond.instanceMethod yX5_mend ∈ lw_tbl := lwm 370 (by decide +kernel)
set_option maxRecDepth 100000 in
theorem mi_X6_kept : Cond.instanceMethod yX6_kept ∈ lw_tbl := lwm 375 (by decide +kernel)
set_option maxRecDepth 100000 in
theorem mi_X6_setNumber : Cond.instanceMethod yX6_setNumber ∈ lw_tbl := lwm 388 (by decide +kernel)
set_option maxRecDepth 100000 in
theorem mi_X3_changeNumber : Cond.instanceMethod yX3_changeNumber ∈ lw_tbl := lwm 392 (by decide +kernel)
set_option maxRecDepth 100000 in
theorem mi_X6_setVan : Cond.instanceMethod yX6_setVan ∈ lw_tbl := lwm 396 (by decide +kernel)
set_option maxRecDepth 100000 in
theorem mi_X3_changeVan : Cond.instanceMethod yX3_changeVan ∈ lw_tbl := lwm 400 (by decide +kernel)
set_option maxRecDepth 100000 in
theorem mi_X6_setProbe : Cond.instanceMethod yX6_setProbe ∈ lw_tbl := lwm 404 (by decide +kernel)
set_option maxRecDepth 100000 in
theorem mi_X3_changeProbe : Cond.instanceMethod yX3_changeProbe ∈ lw_tbl := lwm 408 (by decide +kernel)
set_option maxRecDepth 100000 in
theorem mi_X6_repair : Cond.instanceMethod yX6_repair ∈ lw_tbl := lwm 416 (by decide +kernel)
set_option maxRecDepth 100000 in
theorem mi_X3_mendProbe : Cond.instanceMethod yX3_mendProbe ∈ lw_tbl := lwm 420 (by decide +kernel)
set_option maxRecDepth 100000 in
theorem mi_X6_loadPallet : Cond.instanceMethod yX6_loadPallet ∈ lw_tbl := lwm 425 (by decide +kernel)
set_option maxRecDepth 100000 in
theorem mi_X3_putPallet : Cond.instanceMethod yX3_putPallet ∈ lw_tbl := lwm 429 (by decide +kernel)
set_option maxRecDepth 100000 in
theorem mi_X3_palletsInZone : Cond.instanceMethod yX3_palletsInZone ∈ lw_tbl := lwm 441 (by decide +kernel)
set_option maxRecDepth 100000 in
theorem mi_X1_start : Cond.instanceMethod yX1_start ∈ lw_tbl := lwm 444 (by decide +kernel)
set_option maxRecDepth 100000 in
theorem mi_X6_door : Cond.instanceMethod yX6_door ∈ lw_tbl := lwm 450 (by decide +kernel)
set_option maxRecDepth 100000 in
theorem mi_X3_turnDoor : Cond.instanceMethod yX3_turnDoor ∈ lw_tbl := lwm 454 (by decide +kernel)
set_option maxRecDepth 100000 in
theorem mi_X6_deliver : Cond.instanceMethod yX6_deliver ∈ lw_tbl := lwm 471 (by decide +kernel)
set_option maxRecDepth 100000 in
theorem mi_X3_handOver : Cond.instanceMethod yX3_handOver ∈ lw_tbl := lwm 475 (by decide +kernel)
set_option maxRecDepth 100000 in
theorem mi_X1_isOverdue : Cond.instanceMethod yX1_isOverdue ∈ lw_tbl := lwm 480 (by decide +kernel)
set_option maxRecDepth 100000 in
theorem mi_X6_detour : Cond.instanceMethod yX6_detour ∈ lw_tbl := lwm 484 (by decide +kernel)
set_option maxRecDepth 100000 in
theorem mi_X3_bringBack : Cond.instanceMethod yX3_bringBack ∈ lw_tbl := lwm 488 (by decide +kernel)
set_option maxRecDepth 100000 in
theorem mi_X3_shareByValues : Cond.instanceMethod yX3_shareByValues ∈ lw_tbl := lwm 496 (by decide +kernel)
set_option maxRecDepth 100000 in
theorem mi_X3_shareRest : Cond.instanceMethod yX3_shareRest ∈ lw_tbl := lwm 500 (by decide +kernel)
set_option maxRecDepth 100000 in
theorem mi_X6_pass : Cond.instanceMethod yX6_pass ∈ lw_tbl := lwm 509 (by decide +kernel)
set_option maxRecDepth 100000 in
theorem mi_X3_letPass : Cond.instanceMethod yX3_letPass ∈ lw_tbl := lwm 513 (by decide +kernel)
set_option maxRecDepth 100000 in
theorem mi_X3_minuteInVan : Cond.instanceMethod yX3_minuteInVan ∈ lw_tbl := lwm 517 (by decide +kernel)
set_option maxRecDepth 100000 in
theorem mi_X4_changeTemperatures : Cond.instanceMethod yX4_changeTemperatures ∈ lw_tbl := lwm 521 (by decide +kernel)
set_option maxRecDepth 100000 in
theorem mi_X5_coolTo : Cond.instanceMethod yX5_coolTo ∈ lw_tbl := lwm 527 (by decide +kernel)
set_option maxRecDepth 100000 in
theorem mi_X4_mixAir : Cond.instanceMethod yX4_mixAir ∈ lw_tbl := lwm 532 (by decide +kernel)
set_option maxRecDepth 100000 in
theorem mi_X4_findProbes : Cond.instanceMethod yX4_findProbes ∈ lw_tbl := lwm 536 (by decide +kernel)
set_option maxRecDepth 100000 in
theorem mi_X4_isOdd : Cond.instanceMethod yX4_isOdd ∈ lw_tbl := lwm 541 (by decide +kernel)
set_option maxRecDepth 100000 in
theorem mi_X1_addMinute : Cond.instanceMethod yX1_addMinute ∈ lw_tbl := lwm 547 (by decide +kernel)
set_option maxRecDepth 100000 in
theorem mi_X0_write : Cond.instanceMethod yX0_write ∈ lw_tbl := lwm 552 (by decide +kernel)
set_option maxRecDepth 100000 in
theorem mi_X0_row : Cond.instanceMethod yX0_row ∈ lw_tbl := lwm 556 (by decide +kernel)
set_option maxRecDepth 100000 in
theorem mi_X6_count : Cond.instanceMethod yX6_count ∈ lw_tbl := lwm 582 (by decide +kernel)
set_option maxRecDepth 100000 in
theorem mi_X3_foundProbes : Cond.instanceMethod yX3_foundProbes ∈ lw_tbl := lwm 586 (by decide +kernel)
set_option maxRecDepth 100000 in
theorem se_X6_van : Cond.selects (yX6_van).cls yX6_van yX6_van ∈ lw_tbl := lwm 243 (by decide +kernel)
set_option maxRecDepth 100000 in
theorem se_X3_hasVan : Cond.selects (yX3_hasVan).cls yX3_hasVan yX3_hasVan ∈ lw_tbl := lwm 247 (by decide +kernel)
set_option maxRecDepth 100000 in
theorem se_X3_palletsIn : Cond.selects (yX3_palletsIn).cls yX3_palletsIn yX3_palletsIn ∈ lw_tbl := lwm 252 (by decide +kernel)
set_option maxRecDepth 100000 in
theorem se_X1_isIn : Cond.selects (yX1_isIn).cls yX1_isIn yX1_isIn ∈ lw_tbl := lwm 256 (by decide +kernel)
set_option maxRecDepth 100000 in
theorem se_X6_zone : Cond.selects (yX6_zone).cls yX6_zone yX6_zone ∈ lw_tbl := lwm 260 (by decide +kernel)
set_option maxRecDepth 100000 in
theorem se_X3_hasZone : Cond.selects (yX3_hasZone).cls yX3_hasZone yX3_hasZone ∈ lw_tbl := lwm 264 (by decide +kernel)
set_option maxRecDepth 100000 in
theorem se_X5_reading : Cond.selects (yX5_reading).cls yX5_reading yX5_reading ∈ lw_tbl := lwm 272 (by decide +kernel)
set_option maxRecDepth 100000 in
theorem se_X4_toldIn : Cond.selects (yX4_toldIn).cls yX4_toldIn yX4_toldIn ∈ lw_tbl := lwm 276 (by decide +kernel)
set_option maxRecDepth 100000 in
theorem se_X6_pallet : Cond.selects (yX6_pallet).cls yX6_pallet yX6_pallet ∈ lw_tbl := lwm 284 (by decide +kernel)
set_option maxRecDepth 100000 in
theorem se_X3_hasPallet : Cond.selects (yX3_hasPallet).cls yX3_hasPallet yX3_hasPallet ∈ lw_tbl := lwm 288 (by decide +kernel)
set_option maxRecDepth 100000 in
theorem se_X1_property : Cond.selects (yX1_property).cls yX1_property yX1_property ∈ lw_tbl := lwm 292 (by decide +kernel)
set_option maxRecDepth 100000 in
theorem se_X1_cause : Cond.selects (yX1_cause).cls yX1_cause yX1_cause ∈ lw_tbl := lwm 296 (by decide +kernel)
set_option maxRecDepth 100000 in
theorem se_X1_wasRejected : Cond.selects (yX1_wasRejected).cls yX1_wasRejected yX1_wasRejected ∈ lw_tbl := lwm 300 (by decide +kernel)
set_option maxRecDepth 100000 in
theorem se_X6_claims : Cond.selects (yX6_claims).cls yX6_claims yX6_claims ∈ lw_tbl := lwm 305 (by decide +kernel)
set_option maxRecDepth 100000 in
theorem se_X1_claim : Cond.selects (yX1_claim).cls yX1_claim yX1_claim ∈ lw_tbl := lwm 310 (by decide +kernel)
set_option maxRecDepth 100000 in
theorem se_X1_claimBy : Cond.selects (yX1_claimBy).cls yX1_claimBy yX1_claimBy ∈ lw_tbl := lwm 314 (by decide +kernel)
set_option maxRecDepth 100000 in
theorem se_X6_addVan : Cond.selects (yX6_addVan).cls yX6_addVan yX6_addVan ∈ lw_tbl := lwm 334 (by decide +kernel)
set_option maxRecDepth 100000 in
theorem se_X3_copyFrom : Cond.selects (yX3_copyFrom).cls yX3_copyFrom yX3_copyFrom ∈ lw_tbl := lwm 342 (by decide +kernel)
set_option maxRecDepth 100000 in
theorem se_X4_copyFrom : Cond.selects (yX4_copyFrom).cls yX4_copyFrom yX4_copyFrom ∈ lw_tbl := lwm 346 (by decide +kernel)
set_option maxRecDepth 100000 in
theorem se_X5_copyFrom : Cond.selects (yX5_copyFrom).cls yX5_copyFrom yX5_copyFrom ∈ lw_tbl := lwm 350 (by decide +kernel)
set_option maxRecDepth 100000 in
theorem se_X1_copyFrom : Cond.selects (yX1_copyFrom).cls yX1_copyFrom yX1_copyFrom ∈ lw_tbl := lwm 354 (by decide +kernel)
set_option maxRecDepth 100000 in
theorem se_X3_putVan : Cond.selects (yX3_putVan).cls yX3_putVan yX3_putVan ∈ lw_tbl := lwm 358 (by decide +kernel)
set_option maxRecDepth 100000 in
theorem se_X4_start : Cond.selects (yX4_start).cls yX4_start yX4_start ∈ lw_tbl := lwm 367 (by decide +kernel)
set_option maxRecDepth 100000 in
theorem se_X5_mend : Cond.selects (yX5_mend).cls yX5_mend yX5_mend ∈ lw_tbl := lwm 371 (by decide +kernel)
set_option maxRecDepth 100000 in
theorem se_X6_setNumber : Cond.selects (yX6_setNumber).cls yX6_setNumber yX6_setNumber ∈ lw_tbl := lwm 389 (by decide +kernel)
set_option maxRecDepth 100000 in
theorem se_X3_changeNumber : Cond.selects (yX3_changeNumber).cls yX3_changeNumber yX3_changeNumber ∈ lw_tbl := lwm 393 (by decide +kernel)
set_option maxRecDepth 100000 in
theorem se_X6_setVan : Cond.selects (yX6_setVan).cls yX6_setVan yX6_setVan ∈ lw_tbl := lwm 397 (by decide +kernel)
set_option maxRecDepth 100000 in
theorem se_X3_changeVan : Cond.selects (yX3_changeVan).cls yX3_changeVan yX3_changeVan ∈ lw_tbl := lwm 401 (by decide +kernel)
set_option maxRecDepth 100000 in
theorem se_X6_setProbe : Cond.selects (yX6_setProbe).cls yX6_setProbe yX6_setProbe ∈ lw_tbl := lwm 405 (by decide +kernel)
set_option maxRecDepth 100000 in
theorem se_X3_changeProbe : Cond.selects (yX3_changeProbe).cls yX3_changeProbe yX3_changeProbe ∈ lw_tbl := lwm 409 (by decide +kernel)
set_option maxRecDepth 100000 in
theorem se_X6_repair : Cond.selects (yX6_repair).cls yX6_repair yX6_repair ∈ lw_tbl := lwm 417 (by decide +kernel)
set_option maxRecDepth 100000 in
theorem se_X3_mendProbe : Cond.selects (yX3_mendProbe).cls yX3_mendProbe yX3_mendProbe ∈ lw_tbl := lwm 421 (by decide +kernel)
set_option maxRecDepth 100000 in
theorem se_X6_loadPallet : Cond.selects (yX6_loadPallet).cls yX6_loadPallet yX6_loadPallet ∈ lw_tbl := lwm 426 (by decide +kernel)
set_option maxRecDepth 100000 in
theorem se_X3_putPallet : Cond.selects (yX3_putPallet).cls yX3_putPallet yX3_putPallet ∈ lw_tbl := lwm 430 (by decide +kernel)
set_option maxRecDepth 100000 in
theorem se_X1_start : Cond.selects (yX1_start).cls yX1_start yX1_start ∈ lw_tbl := lwm 445 (by decide +kernel)
set_option maxRecDepth 100000 in
theorem se_X6_door : Cond.selects (yX6_door).cls yX6_door yX6_door ∈ lw_tbl := lwm 451 (by decide +kernel)
set_option maxRecDepth 100000 in
theorem se_X3_turnDoor : Cond.selects (yX3_turnDoor).cls yX3_turnDoor yX3_turnDoor ∈ lw_tbl := lwm 455 (by decide +kernel)
set_option maxRecDepth 100000 in
theorem se_X6_deliver : Cond.selects (yX6_deliver).cls yX6_deliver yX6_deliver ∈ lw_tbl := lwm 472 (by decide +kernel)
set_option maxRecDepth 100000 in
theorem se_X3_handOver : Cond.selects (yX3_handOver).cls yX3_handOver yX3_handOver ∈ lw_tbl := lwm 476 (by decide +kernel)
set_option maxRecDepth 100000 in
theorem se_X1_isOverdue : Cond.selects (yX1_isOverdue).cls yX1_isOverdue yX1_isOverdue ∈ lw_tbl := lwm 481 (by decide +kernel)
set_option maxRecDepth 100000 in
theorem se_X6_detour : Cond.selects (yX6_detour).cls yX6_detour yX6_detour ∈ lw_tbl := lwm 485 (by decide +kernel)
set_option maxRecDepth 100000 in
theorem se_X3_bringBack : Cond.selects (yX3_bringBack).cls yX3_bringBack yX3_bringBack ∈ lw_tbl := lwm 489 (by decide +kernel)
set_option maxRecDepth 100000 in
theorem se_X6_pass : Cond.selects (yX6_pass).cls yX6_pass yX6_pass ∈ lw_tbl := lwm 510 (by decide +kernel)
set_option maxRecDepth 100000 in
theorem se_X3_letPass : Cond.selects (yX3_letPass).cls yX3_letPass yX3_letPass ∈ lw_tbl := lwm 514 (by decide +kernel)
set_option maxRecDepth 100000 in
theorem se_X3_minuteInVan : Cond.selects (yX3_minuteInVan).cls yX3_minuteInVan yX3_minuteInVan ∈ lw_tbl := lwm 518 (by decide +kernel)
set_option maxRecDepth 100000 in
theorem se_X4_changeTemperatures : Cond.selects (yX4_changeTemperatures).cls yX4_changeTemperatures yX4_changeTemperatures ∈ lw_tbl := lwm 522 (by decide +kernel)
set_option maxRecDepth 100000 in
theorem se_X5_coolTo : Cond.selects (yX5_coolTo).cls yX5_coolTo yX5_coolTo ∈ lw_tbl := lwm 528 (by decide +kernel)
set_option maxRecDepth 100000 in
theorem se_X4_mixAir : Cond.selects (yX4_mixAir).cls yX4_mixAir yX4_mixAir ∈ lw_tbl := lwm 533 (by decide +kernel)
set_option maxRecDepth 100000 in
theorem se_X4_findProbes : Cond.selects (yX4_findProbes).cls yX4_findProbes yX4_findProbes ∈ lw_tbl := lwm 537 (by decide +kernel)
set_option maxRecDepth 100000 in
theorem se_X1_addMinute : Cond.selects (yX1_addMinute).cls yX1_addMinute yX1_addMinute ∈ lw_tbl := lwm 548 (by decide +kernel)
set_option maxRecDepth 100000 in
theorem se_X0_write : Cond.selects (yX0_write).cls yX0_write yX0_write ∈ lw_tbl := lwm 553 (by decide +kernel)
set_option maxRecDepth 100000 in
theorem se_X0_row : Cond.selects (yX0_row).cls yX0_row yX0_row ∈ lw_tbl := lwm 557 (by decide +kernel)
set_option maxRecDepth 100000 in
theorem se_X6_count : Cond.selects (yX6_count).cls yX6_count yX6_count ∈ lw_tbl := lwm 583 (by decide +kernel)
set_option maxRecDepth 100000 in
theorem se_X3_foundProbes : Cond.selects (yX3_foundProbes).cls yX3_foundProbes yX3_foundProbes ∈ lw_tbl := lwm 587 (by decide +kernel)
set_option maxRecDepth 100000 in
theorem se_X6_noteState : Cond.selects (yX6_noteState).cls yX6_noteState yX6_noteState ∈ lw_tbl := lwm 0 (by decide +kernel)
set_option maxRecDepth 100000 in
theorem se_X6_kept : Cond.selects (yX6_kept).cls yX6_kept yX6_kept ∈ lw_tbl := lwm 1 (by decide +kernel)
set_option maxRecDepth 100000 in
theorem se_X3_palletsInZone : Cond.selects (yX3_palletsInZone).cls yX3_palletsInZone yX3_palletsInZone ∈ lw_tbl := lwm 2 (by decide +kernel)
set_option maxRecDepth 100000 in
theorem se_X3_shareByValues : Cond.selects (yX3_shareByValues).cls yX3_shareByValues yX3_shareByValues ∈ lw_tbl := lwm 3 (by decide +kernel)
set_option maxRecDepth 100000 in
theorem se_X3_shareRest : Cond.selects (yX3_shareRest).cls yX3_shareRest yX3_shareRest ∈ lw_tbl := lwm 4 (by decide +kernel)
set_option maxRecDepth 100000 in
theorem se_X4_isOdd : Cond.selects (yX4_isOdd).cls yX4_isOdd yX4_isOdd ∈ lw_tbl := lwm 5 (by decide +kernel)
set_option maxRecDepth 100000 in
theorem cd_X6_init : Cond.code yX6_init cX6_init 2 none ∈ lw_tbl := lwm 20 rfl
set_option maxRecDepth 100000 in
theorem cd_X3_init : Cond.code yX3_init cX3_init 2 none ∈ lw_tbl := lwm 28 rfl
set_option maxRecDepth 100000 in
theorem cd_X4_init : Cond.code yX4_init cX4_init 2 none ∈ lw_tbl := lwm 37 rfl
set_option maxRecDepth 100000 in
theorem cd_X5_init : Cond.code yX5_init cX5_init 1 none ∈ lw_tbl := lwm 44 rfl
set_option maxRecDepth 100000 in
theorem cd_X1_init : Cond.code yX1_init cX1_init 1 none ∈ lw_tbl := lwm 104 rfl
set_option maxRecDepth 100000 in
theorem cd_X0_init : Cond.code yX0_init cX0_init 1 none ∈ lw_tbl := lwm 180 rfl
set_option maxRecDepth 100000 in
theorem cd_X2_init : Cond.code yX2_init cX2_init 1 none ∈ lw_tbl := lwm 196 rfl
set_option maxRecDepth 100000 in
theorem cd_X6_van : Cond.code yX6_van cX6_van 4 (some .int) ∈ lw_tbl := lwm 244 rfl
set_option maxRecDepth 100000 in
theorem cd_X3_hasVan : Cond.code yX3_hasVan cX3_hasVan 2 (some .boolean) ∈ lw_tbl := lwm 248 rfl
set_option maxRecDepth 100000 in
theorem cd_X3_palletsIn : Cond.code yX3_palletsIn cX3_palletsIn 4 (some .int) ∈ lw_tbl := lwm 253 rfl
set_option maxRecDepth 100000 in
theorem cd_X1_isIn : Cond.code yX1_isIn cX1_isIn 2 (some .boolean) ∈ lw_tbl := lwm 257 rfl
set_option maxRecDepth 100000 in
theorem cd_X6_zone : Cond.code yX6_zone cX6_zone 5 (some .int) ∈ lw_tbl := lwm 261 rfl
set_option maxRecDepth 100000 in
theorem cd_X3_hasZone : Cond.code yX3_hasZone cX3_hasZone 3 (some .boolean) ∈ lw_tbl := lwm 265 rfl
set_option maxRecDepth 100000 in
theorem cd_X6_isWithin : Cond.code yX6_isWithin cX6_isWithin 3 (some .boolean) ∈ lw_tbl := lwm 269 rfl
set_option maxRecDepth 100000 in
theorem cd_X5_reading : Cond.code yX5_reading cX5_reading 1 (some .int) ∈ lw_tbl := lwm 273 rfl
set_option maxRecDepth 100000 in
theorem cd_X4_toldIn : Cond.code yX4_toldIn cX4_toldIn 4 (some .int) ∈ lw_tbl := lwm 277 rfl
set_option maxRecDepth 100000 in
theorem cd_J9_floorDiv_7cf53 : Cond.code yJ9_floorDiv_7cf53 cJ9_floorDiv_7cf53 3 (some .int) ∈ lw_tbl := lwm 281 rfl
set_option maxRecDepth 100000 in
theorem cd_X6_pallet : Cond.code yX6_pallet cX6_pallet 3 (some .int) ∈ lw_tbl := lwm 285 rfl
set_option maxRecDepth 100000 in
theorem cd_X3_hasPallet : Cond.code yX3_hasPallet cX3_hasPallet 2 (some .boolean) ∈ lw_tbl := lwm 289 rfl
set_option maxRecDepth 100000 in
theorem cd_X1_property : Cond.code yX1_property cX1_property 2 (some .int) ∈ lw_tbl := lwm 293 rfl
set_option maxRecDepth 100000 in
theorem cd_X1_cause : Cond.code yX1_cause cX1_cause 1 (some .int) ∈ lw_tbl := lwm 297 rfl
set_option maxRecDepth 100000 in
theorem cd_X1_wasRejected : Cond.code yX1_wasRejected cX1_wasRejected 1 (some .boolean) ∈ lw_tbl := lwm 301 rfl
set_option maxRecDepth 100000 in
theorem cd_X6_claims : Cond.code yX6_claims cX6_claims 5 (some .int) ∈ lw_tbl := lwm 306 rfl
set_option maxRecDepth 100000 in
theorem cd_X1_claim : Cond.code yX1_claim cX1_claim 1 (some .int) ∈ lw_tbl := lwm 311 rfl
set_option maxRecDepth 100000 in
theorem cd_X1_claimBy : Cond.code yX1_claimBy cX1_claimBy 5 (some .int) ∈ lw_tbl := lwm 315 rfl
set_option maxRecDepth 100000 in
theorem cd_L_cell : Cond.code yL_cell cL_cell 2 (some .int) ∈ lw_tbl := lwm 319 rfl
set_option maxRecDepth 100000 in
theorem cd_L_low : Cond.code yL_low cL_low 2 (some .int) ∈ lw_tbl := lwm 323 rfl
set_option maxRecDepth 100000 in
theorem cd_L_acts : Cond.code yL_acts cL_acts 26 (some .boolean) ∈ lw_tbl := lwm 327 rfl
set_option maxRecDepth 100000 in
theorem cd_L_adds : Cond.code yL_adds cL_adds 7 (some .boolean) ∈ lw_tbl := lwm 331 rfl
set_option maxRecDepth 100000 in
theorem cd_X6_addVan : Cond.code yX6_addVan cX6_addVan 3 (some .int) ∈ lw_tbl := lwm 335 rfl
set_option maxRecDepth 100000 in
theorem cd_X6_noteState : Cond.code yX6_noteState cX6_noteState 1 none ∈ lw_tbl := lwm 339 rfl
set_option maxRecDepth 100000 in
theorem cd_X3_copyFrom : Cond.code yX3_copyFrom cX3_copyFrom 3 none ∈ lw_tbl := lwm 343 rfl
set_option maxRecDepth 100000 in
theorem cd_X4_copyFrom : Cond.code yX4_copyFrom cX4_copyFrom 3 none ∈ lw_tbl := lwm 347 rfl
set_option maxRecDepth 100000 in
theorem cd_X5_copyFrom : Cond.code yX5_copyFrom cX5_copyFrom 2 none ∈ lw_tbl := lwm 351 rfl
set_option maxRecDepth 100000 in
theorem cd_X1_copyFrom : Cond.code yX1_copyFrom cX1_copyFrom 2 none ∈ lw_tbl := lwm 355 rfl
set_option maxRecDepth 100000 in
theorem cd_X3_putVan : Cond.code yX3_putVan cX3_putVan 4 (some .int) ∈ lw_tbl := lwm 359 rfl
set_option maxRecDepth 100000 in
theorem cd_X6_isVanSetting : Cond.code yX6_isVanSetting cX6_isVanSetting 2 (some .boolean) ∈ lw_tbl := lwm 362 rfl
set_option maxRecDepth 100000 in
theorem cd_X4_start : Cond.code yX4_start cX4_start 5 none ∈ lw_tbl := lwm 368 rfl
set_option maxRecDepth 100000 in
theorem cd_X5_mend : Cond.code yX5_mend cX5_mend 1 none ∈ lw_tbl := lwm 372 rfl
set_option maxRecDepth 100000 in
theorem cd_X6_kept : Cond.code yX6_kept cX6_kept 2 (some .int) ∈ lw_tbl := lwm 376 rfl
set_option maxRecDepth 100000 in
theorem cd_X6_isError : Cond.code yX6_isError cX6_isError 1 (some .boolean) ∈ lw_tbl := lwm 379 rfl
set_option maxRecDepth 100000 in
theorem cd_J9_min_7cf53 : Cond.code yJ9_min_7cf53 cJ9_min_7cf53 2 (some .int) ∈ lw_tbl := lwm 382 rfl
set_option maxRecDepth 100000 in
theorem cd_L_spot : Cond.code yL_spot cL_spot 1 (some .int) ∈ lw_tbl := lwm 385 rfl
set_option maxRecDepth 100000 in
theorem cd_X6_setNumber : Cond.code yX6_setNumber cX6_setNumber 3 (some .int) ∈ lw_tbl := lwm 390 rfl
set_option maxRecDepth 100000 in
theorem cd_X3_changeNumber : Cond.code yX3_changeNumber cX3_changeNumber 4 (some .int) ∈ lw_tbl := lwm 394 rfl
set_option maxRecDepth 100000 in
theorem cd_X6_setVan : Cond.code yX6_setVan cX6_setVan 4 (some .int) ∈ lw_tbl := lwm 398 rfl
set_option maxRecDepth 100000 in
theorem cd_X3_changeVan : Cond.code yX3_changeVan cX3_changeVan 5 (some .int) ∈ lw_tbl := lwm 402 rfl
set_option maxRecDepth 100000 in
theorem cd_X6_setProbe : Cond.code yX6_setProbe cX6_setProbe 5 (some .int) ∈ lw_tbl := lwm 406 rfl
set_option maxRecDepth 100000 in
theorem cd_X3_changeProbe : Cond.code yX3_changeProbe cX3_changeProbe 7 (some .int) ∈ lw_tbl := lwm 410 rfl
set_option maxRecDepth 100000 in
theorem cd_X6_isProbeSetting : Cond.code yX6_isProbeSetting cX6_isProbeSetting 2 (some .boolean) ∈ lw_tbl := lwm 414 rfl
set_option maxRecDepth 100000 in
theorem cd_X6_repair : Cond.code yX6_repair cX6_repair 3 (some .int) ∈ lw_tbl := lwm 418 rfl
set_option maxRecDepth 100000 in
theorem cd_X3_mendProbe : Cond.code yX3_mendProbe cX3_mendProbe 5 (some .int) ∈ lw_tbl := lwm 422 rfl
set_option maxRecDepth 100000 in
theorem cd_X6_loadPallet : Cond.code yX6_loadPallet cX6_loadPallet 6 (some .int) ∈ lw_tbl := lwm 427 rfl
set_option maxRecDepth 100000 in
theorem cd_X3_putPallet : Cond.code yX3_putPallet cX3_putPallet 7 (some .int) ∈ lw_tbl := lwm 431 rfl
set_option maxRecDepth 100000 in
theorem cd_X6_isLimit : Cond.code yX6_isLimit cX6_isLimit 1 (some .boolean) ∈ lw_tbl := lwm 434 rfl
set_option maxRecDepth 100000 in
theorem cd_X6_isPrice : Cond.code yX6_isPrice cX6_isPrice 1 (some .boolean) ∈ lw_tbl := lwm 437 rfl
set_option maxRecDepth 100000 in
theorem cd_X3_palletsInZone : Cond.code yX3_palletsInZone cX3_palletsInZone 5 (some .int) ∈ lw_tbl := lwm 442 rfl
set_option maxRecDepth 100000 in
theorem cd_X1_start : Cond.code yX1_start cX1_start 6 none ∈ lw_tbl := lwm 446 rfl
set_option maxRecDepth 100000 in
theorem cd_X6_door : Cond.code yX6_door cX6_door 3 (some .int) ∈ lw_tbl := lwm 452 rfl
set_option maxRecDepth 100000 in
theorem cd_X3_turnDoor : Cond.code yX3_turnDoor cX3_turnDoor 4 (some .int) ∈ lw_tbl := lwm 456 rfl
set_option maxRecDepth 100000 in
theorem cd_J6_bitCount_0f7a4 : Cond.code yJ6_bitCount_0f7a4 cJ6_bitCount_0f7a4 1 (some .int) ∈ lw_tbl := lwm 460 rfl
set_option maxRecDepth 100000 in
theorem cd_L_inside : Cond.code yL_inside cL_inside 5 (some .int) ∈ lw_tbl := lwm 466 rfl
set_option maxRecDepth 100000 in
theorem cd_L_many : Cond.code yL_many cL_many 3 (some .int) ∈ lw_tbl := lwm 469 rfl
set_option maxRecDepth 100000 in
theorem cd_X6_deliver : Cond.code yX6_deliver cX6_deliver 2 (some .int) ∈ lw_tbl := lwm 473 rfl
set_option maxRecDepth 100000 in
theorem cd_X3_handOver : Cond.code yX3_handOver cX3_handOver 3 (some .int) ∈ lw_tbl := lwm 477 rfl
set_option maxRecDepth 100000 in
theorem cd_X1_isOverdue : Cond.code yX1_isOverdue cX1_isOverdue 1 (some .boolean) ∈ lw_tbl := lwm 482 rfl
set_option maxRecDepth 100000 in
theorem cd_X6_detour : Cond.code yX6_detour cX6_detour 3 (some .int) ∈ lw_tbl := lwm 486 rfl
set_option maxRecDepth 100000 in
theorem cd_X3_bringBack : Cond.code yX3_bringBack cX3_bringBack 4 (some .int) ∈ lw_tbl := lwm 490 rfl
set_option maxRecDepth 100000 in
theorem cd_X3_isIn : Cond.code yX3_isIn cX3_isIn 2 (some .boolean) ∈ lw_tbl := lwm 493 rfl
set_option maxRecDepth 100000 in
theorem cd_X3_shareByValues : Cond.code yX3_shareByValues cX3_shareByValues 6 none ∈ lw_tbl := lwm 497 rfl
set_option maxRecDepth 100000 in
theorem cd_X3_shareRest : Cond.code yX3_shareRest cX3_shareRest 6 (some .int) ∈ lw_tbl := lwm 501 rfl
set_option maxRecDepth 100000 in
theorem cd_J9_max_7cf53 : Cond.code yJ9_max_7cf53 cJ9_max_7cf53 2 (some .int) ∈ lw_tbl := lwm 504 rfl
set_option maxRecDepth 100000 in
theorem cd_L_shares : Cond.code yL_shares cL_shares 8 (some .int) ∈ lw_tbl := lwm 507 rfl
set_option maxRecDepth 100000 in
theorem cd_X6_pass : Cond.code yX6_pass cX6_pass 2 (some .int) ∈ lw_tbl := lwm 511 rfl
set_option maxRecDepth 100000 in
theorem cd_X3_letPass : Cond.code yX3_letPass cX3_letPass 6 (some .int) ∈ lw_tbl := lwm 515 rfl
set_option maxRecDepth 100000 in
theorem cd_X3_minuteInVan : Cond.code yX3_minuteInVan cX3_minuteInVan 5 (some .int) ∈ lw_tbl := lwm 519 rfl
set_option maxRecDepth 100000 in
theorem cd_X4_changeTemperatures : Cond.code yX4_changeTemperatures cX4_changeTemperatures 4 none ∈ lw_tbl := lwm 523 rfl
set_option maxRecDepth 100000 in
theorem cd_X5_coolTo : Cond.code yX5_coolTo cX5_coolTo 3 none ∈ lw_tbl := lwm 529 rfl
set_option maxRecDepth 100000 in
theorem cd_X4_mixAir : Cond.code yX4_mixAir cX4_mixAir 3 none ∈ lw_tbl := lwm 534 rfl
set_option maxRecDepth 100000 in
theorem cd_X4_findProbes : Cond.code yX4_findProbes cX4_findProbes 6 (some .int) ∈ lw_tbl := lwm 538 rfl
set_option maxRecDepth 100000 in
theorem cd_X4_isOdd : Cond.code yX4_isOdd cX4_isOdd 6 (some .boolean) ∈ lw_tbl := lwm 542 rfl
set_option maxRecDepth 100000 in
theorem cd_J9_abs_0f7a4 : Cond.code yJ9_abs_0f7a4 cJ9_abs_0f7a4 1 (some .int) ∈ lw_tbl := lwm 545 rfl
set_option maxRecDepth 100000 in
theorem cd_X1_addMinute : Cond.code yX1_addMinute cX1_addMinute 2 none ∈ lw_tbl := lwm 549 rfl
set_option maxRecDepth 100000 in
theorem cd_X0_write : Cond.code yX0_write cX0_write 5 none ∈ lw_tbl := lwm 554 rfl
set_option maxRecDepth 100000 in
theorem cd_X0_row : Cond.code yX0_row cX0_row 5 (some (.array .int)) ∈ lw_tbl := lwm 558 rfl
set_option maxRecDepth 100000 in
theorem cd_L_passes : Cond.code yL_passes cL_passes 10 (some .int) ∈ lw_tbl := lwm 562 rfl
set_option maxRecDepth 100000 in
theorem cd_L_vanMinute : Cond.code yL_vanMinute cL_vanMinute 8 (some .int) ∈ lw_tbl := lwm 565 rfl
set_option maxRecDepth 100000 in
theorem cd_L_isOdd : Cond.code yL_isOdd cL_isOdd 7 (some .boolean) ∈ lw_tbl := lwm 568 rfl
set_option maxRecDepth 100000 in
theorem cd_L_read : Cond.code yL_read cL_read 3 (some .int) ∈ lw_tbl := lwm 571 rfl
set_option maxRecDepth 100000 in
theorem cd_L_apart : Cond.code yL_apart cL_apart 2 (some .int) ∈ lw_tbl := lwm 574 rfl
set_option maxRecDepth 100000 in
theorem cd_L_told : Cond.code yL_told cL_told 4 (some .int) ∈ lw_tbl := lwm 577 rfl
set_option maxRecDepth 100000 in
theorem cd_L_isSo : Cond.code yL_isSo cL_isSo 13 (some .boolean) ∈ lw_tbl := lwm 580 rfl
set_option maxRecDepth 100000 in
theorem cd_X6_count : Cond.code yX6_count cX6_count 2 (some .int) ∈ lw_tbl := lwm 584 rfl
set_option maxRecDepth 100000 in
theorem cd_X3_foundProbes : Cond.code yX3_foundProbes cX3_foundProbes 4 (some .int) ∈ lw_tbl := lwm 588 rfl
set_option maxRecDepth 100000 in
theorem cd_L_cause : Cond.code yL_cause cL_cause 4 (some .int) ∈ lw_tbl := lwm 591 rfl
set_option maxRecDepth 100000 in
theorem ini_L : Cond.initialized RL ∈ lw_tbl := lwm 6 (by decide +kernel)
set_option maxRecDepth 100000 in
theorem ini_X6 : Cond.initialized RX6 ∈ lw_tbl := lwm 7 (by decide +kernel)
set_option maxRecDepth 100000 in
theorem ini_X3 : Cond.initialized RX3 ∈ lw_tbl := lwm 8 (by decide +kernel)
set_option maxRecDepth 100000 in
theorem ini_X4 : Cond.initialized RX4 ∈ lw_tbl := lwm 9 (by decide +kernel)
set_option maxRecDepth 100000 in
theorem ini_X5 : Cond.initialized RX5 ∈ lw_tbl := lwm 10 (by decide +kernel)
set_option maxRecDepth 100000 in
theorem ini_X1 : Cond.initialized RX1 ∈ lw_tbl := lwm 11 (by decide +kernel)
set_option maxRecDepth 100000 in
theorem ini_X0 : Cond.initialized RX0 ∈ lw_tbl := lwm 12 (by decide +kernel)
set_option maxRecDepth 100000 in
theorem ini_X2 : Cond.initialized RX2 ∈ lw_tbl := lwm 13 (by decide +kernel)
set_option maxRecDepth 100000 in
theorem ini_J9 : Cond.initialized RJ9 ∈ lw_tbl := lwm 14 (by decide +kernel)
set_option maxRecDepth 100000 in
theorem ini_J6 : Cond.initialized RJ6 ∈ lw_tbl := lwm 15 (by decide +kernel)
set_option maxRecDepth 100000 in
theorem cw_L_100 : CWd RL 100 yX6_zone cX6_zone 5 (some .int) 3 := ⟨lwm 258 (by decide +kernel), cd_X6_zone, ini_X6, by decide +kernel, by decide +kernel⟩
set_option maxRecDepth 100000 in
theorem cw_L_103 : CWd RL 103 yL_cause cL_cause 4 (some .int) 2 := ⟨lwm 589 (by decide +kernel), cd_L_cause, ini_L, by decide +kernel, by decide +kernel⟩
set_option maxRecDepth 100000 in
theorem cw_L_106 : CWd RL 106 yX6_pallet cX6_pallet 3 (some .int) 2 := ⟨lwm 282 (by decide +kernel), cd_X6_pallet, ini_X6, by decide +kernel, by decide +kernel⟩
set_option maxRecDepth 100000 in
theorem cw_L_109 : CWd RL 109 yX6_claims cX6_claims 5 (some .int) 1 := ⟨lwm 303 (by decide +kernel), cd_X6_claims, ini_X6, by decide +kernel, by decide +kernel⟩
set_option maxRecDepth 100000 in
theorem cw_L_112 : CWd RL 112 yX6_init cX6_init 2 none 0 := ⟨lwm 18 (by decide +kernel), cd_X6_init, ini_X6, by decide +kernel, by decide +kernel⟩
set_option maxRecDepth 100000 in
theorem cw_L_113 : CWd RL 113 yL_isSo cL_isSo 13 (some .boolean) 4 := ⟨lwm 578 (by decide +kernel), cd_L_isSo, ini_L, by decide +kernel, by decide +kernel⟩
set_option maxRecDepth 100000 in
theorem cw_L_117 : CWd RL 117 yL_cell cL_cell 2 (some .int) 2 := ⟨lwm 317 (by decide +kernel), cd_L_cell, ini_L, by decide +kernel, by decide +kernel⟩
set_option maxRecDepth 100000 in
theorem cw_L_120 : CWd RL 120 yL_acts cL_acts 26 (some .boolean) 5 := ⟨lwm 325 (by decide +kernel), cd_L_acts, ini_L, by decide +kernel, by decide +kernel⟩
set_option maxRecDepth 100000 in
theorem cw_L_15 : CWd RL 15 yL_read cL_read 3 (some .int) 2 := ⟨lwm 569 (by decide +kernel), cd_L_read, ini_L, by decide +kernel, by decide +kernel⟩
set_option maxRecDepth 100000 in
theorem cw_L_19 : CWd RL 19 yL_apart cL_apart 2 (some .int) 2 := ⟨lwm 572 (by decide +kernel), cd_L_apart, ini_L, by decide +kernel, by decide +kernel⟩
set_option maxRecDepth 100000 in
theorem cw_L_23 : CWd RL 23 yL_isOdd cL_isOdd 7 (some .boolean) 3 := ⟨lwm 566 (by decide +kernel), cd_L_isOdd, ini_L, by decide +kernel, by decide +kernel⟩
set_option maxRecDepth 100000 in
theorem cw_L_27 : CWd RL 27 yL_vanMinute cL_vanMinute 8 (some .int) 3 := ⟨lwm 563 (by decide +kernel), cd_L_vanMinute, ini_L, by decide +kernel, by decide +kernel⟩
set_option maxRecDepth 100000 in
theorem cw_L_31 : CWd RL 31 yL_told cL_told 4 (some .int) 2 := ⟨lwm 575 (by decide +kernel), cd_L_told, ini_L, by decide +kernel, by decide +kernel⟩
set_option maxRecDepth 100000 in
theorem cw_L_34 : CWd RL 34 yX6_addVan cX6_addVan 3 (some .int) 2 := ⟨lwm 332 (by decide +kernel), cd_X6_addVan, ini_X6, by decide +kernel, by decide +kernel⟩
set_option maxRecDepth 100000 in
theorem cw_L_39 : CWd RL 39 yL_many cL_many 3 (some .int) 1 := ⟨lwm 467 (by decide +kernel), cd_L_many, ini_L, by decide +kernel, by decide +kernel⟩
set_option maxRecDepth 100000 in
theorem cw_L_43 : CWd RL 43 yL_low cL_low 2 (some .int) 2 := ⟨lwm 321 (by decide +kernel), cd_L_low, ini_L, by decide +kernel, by decide +kernel⟩
set_option maxRecDepth 100000 in
theorem cw_L_46 : CWd RL 46 yL_adds cL_adds 7 (some .boolean) 5 := ⟨lwm 329 (by decide +kernel), cd_L_adds, ini_L, by decide +kernel, by decide +kernel⟩
set_option maxRecDepth 100000 in
theorem cw_L_51 : CWd RL 51 yX6_setNumber cX6_setNumber 3 (some .int) 2 := ⟨lwm 387 (by decide +kernel), cd_X6_setNumber, ini_X6, by decide +kernel, by decide +kernel⟩
set_option maxRecDepth 100000 in
theorem cw_L_54 : CWd RL 54 yX6_setVan cX6_setVan 4 (some .int) 3 := ⟨lwm 395 (by decide +kernel), cd_X6_setVan, ini_X6, by decide +kernel, by decide +kernel⟩
set_option maxRecDepth 100000 in
theorem cw_L_58 : CWd RL 58 yX6_setProbe cX6_setProbe 5 (some .int) 4 := ⟨lwm 403 (by decide +kernel), cd_X6_setProbe, ini_X6, by decide +kernel, by decide +kernel⟩
set_option maxRecDepth 100000 in
theorem cw_L_62 : CWd RL 62 yX6_repair cX6_repair 3 (some .int) 2 := ⟨lwm 415 (by decide +kernel), cd_X6_repair, ini_X6, by decide +kernel, by decide +kernel⟩
set_option maxRecDepth 100000 in
theorem cw_L_65 : CWd RL 65 yX6_loadPallet cX6_loadPallet 6 (some .int) 5 := ⟨lwm 424 (by decide +kernel), cd_X6_loadPallet, ini_X6, by decide +kernel, by decide +kernel⟩
set_option maxRecDepth 100000 in
theorem cw_L_71 : CWd RL 71 yX6_door cX6_door 3 (some .int) 2 := ⟨lwm 449 (by decide +kernel), cd_X6_door, ini_X6, by decide +kernel, by decide +kernel⟩
set_option maxRecDepth 100000 in
theorem cw_L_74 : CWd RL 74 yL_inside cL_inside 5 (some .int) 3 := ⟨lwm 464 (by decide +kernel), cd_L_inside, ini_L, by decide +kernel, by decide +kernel⟩
set_option maxRecDepth 100000 in
theorem cw_L_77 : CWd RL 77 yX6_deliver cX6_deliver 2 (some .int) 1 := ⟨lwm 470 (by decide +kernel), cd_X6_deliver, ini_X6, by decide +kernel, by decide +kernel⟩
set_option maxRecDepth 100000 in
theorem cw_L_80 : CWd RL 80 yX6_detour cX6_detour 3 (some .int) 2 := ⟨lwm 483 (by decide +kernel), cd_X6_detour, ini_X6, by decide +kernel, by decide +kernel⟩
set_option maxRecDepth 100000 in
theorem cw_L_83 : CWd RL 83 yL_shares cL_shares 8 (some .int) 4 := ⟨lwm 505 (by decide +kernel), cd_L_shares, ini_L, by decide +kernel, by decide +kernel⟩
set_option maxRecDepth 100000 in
theorem cw_L_87 : CWd RL 87 yX6_pass cX6_pass 2 (some .int) 1 := ⟨lwm 508 (by decide +kernel), cd_X6_pass, ini_X6, by decide +kernel, by decide +kernel⟩
set_option maxRecDepth 100000 in
theorem cw_L_9 : CWd RL 9 yL_spot cL_spot 1 (some .int) 1 := ⟨lwm 383 (by decide +kernel), cd_L_spot, ini_L, by decide +kernel, by decide +kernel⟩
set_option maxRecDepth 100000 in
theorem cw_L_90 : CWd RL 90 yL_passes cL_passes 10 (some .int) 4 := ⟨lwm 560 (by decide +kernel), cd_L_passes, ini_L, by decide +kernel, by decide +kernel⟩
set_option maxRecDepth 100000 in
theorem cw_L_94 : CWd RL 94 yX6_count cX6_count 2 (some .int) 1 := ⟨lwm 581 (by decide +kernel), cd_X6_count, ini_X6, by decide +kernel, by decide +kernel⟩
set_option maxRecDepth 100000 in
theorem cw_L_97 : CWd RL 97 yX6_van cX6_van 4 (some .int) 2 := ⟨lwm 241 (by decide +kernel), cd_X6_van, ini_X6, by decide +kernel, by decide +kernel⟩
set_option maxRecDepth 100000 in
theorem cw_X0_19 : CWd RX0 19 yX0_row cX0_row 5 (some (.array .int)) 3 := ⟨lwm 555 (by decide +kernel), cd_X0_row, ini_X0, by decide +kernel, by decide +kernel⟩
set_option maxRecDepth 100000 in
theorem cw_X0_35 : CWd RX0 35 yX4_toldIn cX4_toldIn 4 (some .int) 1 := ⟨lwm 559 (by decide +kernel), cd_X4_toldIn, ini_X4, by decide +kernel, by decide +kernel⟩
set_option maxRecDepth 100000 in
theorem cw_X1_57 : CWd RX1 57 yX4_toldIn cX4_toldIn 4 (some .int) 1 := ⟨lwm 550 (by decide +kernel), cd_X4_toldIn, ini_X4, by decide +kernel, by decide +kernel⟩
set_option maxRecDepth 100000 in
theorem cw_X1_61 : CWd RX1 61 yX1_wasRejected cX1_wasRejected 1 (some .boolean) 0 := ⟨lwm 298 (by decide +kernel), cd_X1_wasRejected, ini_X1, by decide +kernel, by decide +kernel⟩
set_option maxRecDepth 100000 in
theorem cw_X1_65 : CWd RX1 65 yX1_cause cX1_cause 1 (some .int) 0 := ⟨lwm 294 (by decide +kernel), cd_X1_cause, ini_X1, by decide +kernel, by decide +kernel⟩
set_option maxRecDepth 100000 in
theorem cw_X1_69 : CWd RX1 69 yX1_claim cX1_claim 1 (some .int) 0 := ⟨lwm 316 (by decide +kernel), cd_X1_claim, ini_X1, by decide +kernel, by decide +kernel⟩
set_option maxRecDepth 100000 in
theorem cw_X3_107 : CWd RX3 107 yX5_mend cX5_mend 1 none 0 := ⟨lwm 423 (by decide +kernel), cd_X5_mend, ini_X5, by decide +kernel, by decide +kernel⟩
set_option maxRecDepth 100000 in
theorem cw_X3_110 : CWdN RX3 110 yX6_isLimit cX6_isLimit 1 (some .boolean) 1 := ⟨lwm 432 (by decide +kernel), cd_X6_isLimit, ini_X6, by decide +kernel, by decide +kernel⟩
set_option maxRecDepth 100000 in
theorem cw_X3_113 : CWdN RX3 113 yX6_isPrice cX6_isPrice 1 (some .boolean) 1 := ⟨lwm 435 (by decide +kernel), cd_X6_isPrice, ini_X6, by decide +kernel, by decide +kernel⟩
set_option maxRecDepth 100000 in
theorem cw_X3_120 : CWd RX3 120 yX3_palletsInZone cX3_palletsInZone 5 (some .int) 2 := ⟨lwm 439 (by decide +kernel), cd_X3_palletsInZone, ini_X3, by decide +kernel, by decide +kernel⟩
set_option maxRecDepth 100000 in
theorem cw_X3_124 : CWd RX3 124 yX1_start cX1_start 6 none 5 := ⟨lwm 443 (by decide +kernel), cd_X1_start, ini_X1, by decide +kernel, by decide +kernel⟩
set_option maxRecDepth 100000 in
theorem cw_X3_127 : CWd RX3 127 yX3_palletsIn cX3_palletsIn 4 (some .int) 1 := ⟨lwm 457 (by decide +kernel), cd_X3_palletsIn, ini_X3, by decide +kernel, by decide +kernel⟩
set_option maxRecDepth 100000 in
theorem cw_X3_131 : CWd RX3 131 yJ6_bitCount_0f7a4 cJ6_bitCount_0f7a4 1 (some .int) 1 := ⟨lwm 458 (by decide +kernel), cd_J6_bitCount_0f7a4, ini_J6, by decide +kernel, by decide +kernel⟩
set_option maxRecDepth 100000 in
theorem cw_X3_136 : CWd RX3 136 yX3_minuteInVan cX3_minuteInVan 5 (some .int) 1 := ⟨lwm 516 (by decide +kernel), cd_X3_minuteInVan, ini_X3, by decide +kernel, by decide +kernel⟩
set_option maxRecDepth 100000 in
theorem cw_X3_139 : CWd RX3 139 yX0_write cX0_write 5 none 3 := ⟨lwm 551 (by decide +kernel), cd_X0_write, ini_X0, by decide +kernel, by decide +kernel⟩
set_option maxRecDepth 100000 in
theorem cw_X3_145 : CWd RX3 145 yX4_changeTemperatures cX4_changeTemperatures 4 none 1 := ⟨lwm 520 (by decide +kernel), cd_X4_changeTemperatures, ini_X4, by decide +kernel, by decide +kernel⟩
set_option maxRecDepth 100000 in
theorem cw_X3_149 : CWd RX3 149 yX4_mixAir cX4_mixAir 3 none 0 := ⟨lwm 531 (by decide +kernel), cd_X4_mixAir, ini_X4, by decide +kernel, by decide +kernel⟩
set_option maxRecDepth 100000 in
theorem cw_X3_152 : CWd RX3 152 yX4_findProbes cX4_findProbes 6 (some .int) 2 := ⟨lwm 535 (by decide +kernel), cd_X4_findProbes, ini_X4, by decide +kernel, by decide +kernel⟩
set_option maxRecDepth 100000 in
theorem cw_X3_155 : CWd RX3 155 yX1_addMinute cX1_addMinute 2 none 1 := ⟨lwm 546 (by decide +kernel), cd_X1_addMinute, ini_X1, by decide +kernel, by decide +kernel⟩
set_option maxRecDepth 100000 in
theorem cw_X3_158 : CWd RX3 158 yX3_hasPallet cX3_hasPallet 2 (some .boolean) 1 := ⟨lwm 478 (by decide +kernel), cd_X3_hasPallet, ini_X3, by decide +kernel, by decide +kernel⟩
set_option maxRecDepth 100000 in
theorem cw_X3_167 : CWd RX3 167 yX3_isIn cX3_isIn 2 (some .boolean) 2 := ⟨lwm 491 (by decide +kernel), cd_X3_isIn, ini_X3, by decide +kernel, by decide +kernel⟩
set_option maxRecDepth 100000 in
theorem cw_X3_169 : CWd RX3 169 yX3_shareByValues cX3_shareByValues 6 none 2 := ⟨lwm 494 (by decide +kernel), cd_X3_shareByValues, ini_X3, by decide +kernel, by decide +kernel⟩
set_option maxRecDepth 100000 in
theorem cw_X3_173 : CWd RX3 173 yX3_shareRest cX3_shareRest 6 (some .int) 2 := ⟨lwm 498 (by decide +kernel), cd_X3_shareRest, ini_X3, by decide +kernel, by decide +kernel⟩
set_option maxRecDepth 100000 in
theorem cw_X3_180 : CWd RX3 180 yJ9_max_7cf53 cJ9_max_7cf53 2 (some .int) 2 := ⟨lwm 502 (by decide +kernel), cd_J9_max_7cf53, ini_J9, by decide +kernel, by decide +kernel⟩
set_option maxRecDepth 100000 in
theorem cw_X3_33 : CWd RX3 33 yX4_init cX4_init 2 none 0 := ⟨lwm 35 (by decide +kernel), cd_X4_init, ini_X4, by decide +kernel, by decide +kernel⟩
set_option maxRecDepth 100000 in
theorem cw_X3_34 : CWdN RX3 34 yX1_init cX1_init 1 none 0 := ⟨lwm 102 (by decide +kernel), cd_X1_init, ini_X1, by decide +kernel, by decide +kernel⟩
set_option maxRecDepth 100000 in
theorem cw_X3_44 : CWd RX3 44 yX4_copyFrom cX4_copyFrom 3 none 1 := ⟨lwm 344 (by decide +kernel), cd_X4_copyFrom, ini_X4, by decide +kernel, by decide +kernel⟩
set_option maxRecDepth 100000 in
theorem cw_X3_48 : CWd RX3 48 yX1_copyFrom cX1_copyFrom 2 none 1 := ⟨lwm 352 (by decide +kernel), cd_X1_copyFrom, ini_X1, by decide +kernel, by decide +kernel⟩
set_option maxRecDepth 100000 in
theorem cw_X3_51 : CWd RX3 51 yX3_hasVan cX3_hasVan 2 (some .boolean) 1 := ⟨lwm 266 (by decide +kernel), cd_X3_hasVan, ini_X3, by decide +kernel, by decide +kernel⟩
set_option maxRecDepth 100000 in
theorem cw_X3_55 : CWdN RX3 55 yX6_isWithin cX6_isWithin 3 (some .boolean) 3 := ⟨lwm 267 (by decide +kernel), cd_X6_isWithin, ini_X6, by decide +kernel, by decide +kernel⟩
set_option maxRecDepth 100000 in
theorem cw_X3_69 : CWd RX3 69 yX1_isIn cX1_isIn 2 (some .boolean) 1 := ⟨lwm 254 (by decide +kernel), cd_X1_isIn, ini_X1, by decide +kernel, by decide +kernel⟩
set_option maxRecDepth 100000 in
theorem cw_X3_75 : CWd RX3 75 yX1_isOverdue cX1_isOverdue 1 (some .boolean) 0 := ⟨lwm 479 (by decide +kernel), cd_X1_isOverdue, ini_X1, by decide +kernel, by decide +kernel⟩
set_option maxRecDepth 100000 in
theorem cw_X3_79 : CWdN RX3 79 yX6_isVanSetting cX6_isVanSetting 2 (some .boolean) 2 := ⟨lwm 360 (by decide +kernel), cd_X6_isVanSetting, ini_X6, by decide +kernel, by decide +kernel⟩
set_option maxRecDepth 100000 in
theorem cw_X3_85 : CWd RX3 85 yX4_start cX4_start 5 none 3 := ⟨lwm 365 (by decide +kernel), cd_X4_start, ini_X4, by decide +kernel, by decide +kernel⟩
set_option maxRecDepth 100000 in
theorem cw_X3_95 : CWd RX3 95 yX3_hasZone cX3_hasZone 3 (some .boolean) 2 := ⟨lwm 411 (by decide +kernel), cd_X3_hasZone, ini_X3, by decide +kernel, by decide +kernel⟩
set_option maxRecDepth 100000 in
theorem cw_X3_98 : CWdN RX3 98 yX6_isProbeSetting cX6_isProbeSetting 2 (some .boolean) 2 := ⟨lwm 412 (by decide +kernel), cd_X6_isProbeSetting, ini_X6, by decide +kernel, by decide +kernel⟩
set_option maxRecDepth 100000 in
theorem cw_X4_17 : CWdN RX4 17 yX5_init cX5_init 1 none 0 := ⟨lwm 42 (by decide +kernel), cd_X5_init, ini_X5, by decide +kernel, by decide +kernel⟩
set_option maxRecDepth 100000 in
theorem cw_X4_32 : CWd RX4 32 yX5_copyFrom cX5_copyFrom 2 none 1 := ⟨lwm 348 (by decide +kernel), cd_X5_copyFrom, ini_X5, by decide +kernel, by decide +kernel⟩
set_option maxRecDepth 100000 in
theorem cw_X4_36 : CWd RX4 36 yX5_mend cX5_mend 1 none 0 := ⟨lwm 369 (by decide +kernel), cd_X5_mend, ini_X5, by decide +kernel, by decide +kernel⟩
set_option maxRecDepth 100000 in
theorem cw_X4_46 : CWd RX4 46 yX5_coolTo cX5_coolTo 3 none 2 := ⟨lwm 526 (by decide +kernel), cd_X5_coolTo, ini_X5, by decide +kernel, by decide +kernel⟩
set_option maxRecDepth 100000 in
theorem cw_X4_50 : CWd RX4 50 yX4_isOdd cX4_isOdd 6 (some .boolean) 2 := ⟨lwm 539 (by decide +kernel), cd_X4_isOdd, ini_X4, by decide +kernel, by decide +kernel⟩
set_option maxRecDepth 100000 in
theorem cw_X4_60 : CWd RX4 60 yX5_reading cX5_reading 1 (some .int) 0 := ⟨lwm 278 (by decide +kernel), cd_X5_reading, ini_X5, by decide +kernel, by decide +kernel⟩
set_option maxRecDepth 100000 in
theorem cw_X4_64 : CWd RX4 64 yJ9_abs_0f7a4 cJ9_abs_0f7a4 1 (some .int) 1 := ⟨lwm 543 (by decide +kernel), cd_J9_abs_0f7a4, ini_J9, by decide +kernel, by decide +kernel⟩
set_option maxRecDepth 100000 in
theorem cw_X4_70 : CWd RX4 70 yJ9_floorDiv_7cf53 cJ9_floorDiv_7cf53 3 (some .int) 2 := ⟨lwm 279 (by decide +kernel), cd_J9_floorDiv_7cf53, ini_J9, by decide +kernel, by decide +kernel⟩
set_option maxRecDepth 100000 in
theorem cw_X5_28 : CWd RX5 28 yJ9_max_7cf53 cJ9_max_7cf53 2 (some .int) 2 := ⟨lwm 530 (by decide +kernel), cd_J9_max_7cf53, ini_J9, by decide +kernel, by decide +kernel⟩
set_option maxRecDepth 100000 in
theorem cw_X6_104 : CWd RX6 104 yX3_copyFrom cX3_copyFrom 3 none 1 := ⟨lwm 340 (by decide +kernel), cd_X3_copyFrom, ini_X3, by decide +kernel, by decide +kernel⟩
set_option maxRecDepth 100000 in
theorem cw_X6_130 : CWd RX6 130 yX3_foundProbes cX3_foundProbes 4 (some .int) 0 := ⟨lwm 585 (by decide +kernel), cd_X3_foundProbes, ini_X3, by decide +kernel, by decide +kernel⟩
set_option maxRecDepth 100000 in
theorem cw_X6_134 : CWd RX6 134 yX3_hasVan cX3_hasVan 2 (some .boolean) 1 := ⟨lwm 245 (by decide +kernel), cd_X3_hasVan, ini_X3, by decide +kernel, by decide +kernel⟩
set_option maxRecDepth 100000 in
theorem cw_X6_153 : CWd RX6 153 yX3_palletsIn cX3_palletsIn 4 (some .int) 1 := ⟨lwm 250 (by decide +kernel), cd_X3_palletsIn, ini_X3, by decide +kernel, by decide +kernel⟩
set_option maxRecDepth 100000 in
theorem cw_X6_156 : CWd RX6 156 yX3_hasZone cX3_hasZone 3 (some .boolean) 2 := ⟨lwm 262 (by decide +kernel), cd_X3_hasZone, ini_X3, by decide +kernel, by decide +kernel⟩
set_option maxRecDepth 100000 in
theorem cw_X6_169 : CWd RX6 169 yX5_reading cX5_reading 1 (some .int) 0 := ⟨lwm 270 (by decide +kernel), cd_X5_reading, ini_X5, by decide +kernel, by decide +kernel⟩
set_option maxRecDepth 100000 in
theorem cw_X6_172 : CWd RX6 172 yX4_toldIn cX4_toldIn 4 (some .int) 1 := ⟨lwm 274 (by decide +kernel), cd_X4_toldIn, ini_X4, by decide +kernel, by decide +kernel⟩
set_option maxRecDepth 100000 in
theorem cw_X6_184 : CWd RX6 184 yX3_hasPallet cX3_hasPallet 2 (some .boolean) 1 := ⟨lwm 286 (by decide +kernel), cd_X3_hasPallet, ini_X3, by decide +kernel, by decide +kernel⟩
set_option maxRecDepth 100000 in
theorem cw_X6_191 : CWd RX6 191 yX1_property cX1_property 2 (some .int) 1 := ⟨lwm 290 (by decide +kernel), cd_X1_property, ini_X1, by decide +kernel, by decide +kernel⟩
set_option maxRecDepth 100000 in
theorem cw_X6_196 : CWd RX6 196 yX6_isWithin cX6_isWithin 3 (some .boolean) 3 := ⟨lwm 307 (by decide +kernel), cd_X6_isWithin, ini_X6, by decide +kernel, by decide +kernel⟩
set_option maxRecDepth 100000 in
theorem cw_X6_200 : CWd RX6 200 yX1_claim cX1_claim 1 (some .int) 0 := ⟨lwm 308 (by decide +kernel), cd_X1_claim, ini_X1, by decide +kernel, by decide +kernel⟩
set_option maxRecDepth 100000 in
theorem cw_X6_203 : CWd RX6 203 yX1_claimBy cX1_claimBy 5 (some .int) 1 := ⟨lwm 312 (by decide +kernel), cd_X1_claimBy, ini_X1, by decide +kernel, by decide +kernel⟩
set_option maxRecDepth 100000 in
theorem cw_X6_217 : CWd RX6 217 yJ9_min_7cf53 cJ9_min_7cf53 2 (some .int) 2 := ⟨lwm 380 (by decide +kernel), cd_J9_min_7cf53, ini_J9, by decide +kernel, by decide +kernel⟩
set_option maxRecDepth 100000 in
theorem cw_X6_25 : CWdN RX6 25 yX0_init cX0_init 1 none 0 := ⟨lwm 178 (by decide +kernel), cd_X0_init, ini_X0, by decide +kernel, by decide +kernel⟩
set_option maxRecDepth 100000 in
theorem cw_X6_32 : CWdN RX6 32 yX2_init cX2_init 1 none 0 := ⟨lwm 194 (by decide +kernel), cd_X2_init, ini_X2, by decide +kernel, by decide +kernel⟩
set_option maxRecDepth 100000 in
theorem cw_X6_37 : CWd RX6 37 yX6_noteState cX6_noteState 1 none 0 := ⟨lwm 336 (by decide +kernel), cd_X6_noteState, ini_X6, by decide +kernel, by decide +kernel⟩
set_option maxRecDepth 100000 in
theorem cw_X6_40 : CWd RX6 40 yX3_putVan cX3_putVan 4 (some .int) 2 := ⟨lwm 356 (by decide +kernel), cd_X3_putVan, ini_X3, by decide +kernel, by decide +kernel⟩
set_option maxRecDepth 100000 in
theorem cw_X6_44 : CWd RX6 44 yX6_kept cX6_kept 2 (some .int) 1 := ⟨lwm 373 (by decide +kernel), cd_X6_kept, ini_X6, by decide +kernel, by decide +kernel⟩
set_option maxRecDepth 100000 in
theorem cw_X6_48 : CWd RX6 48 yX3_changeNumber cX3_changeNumber 4 (some .int) 2 := ⟨lwm 391 (by decide +kernel), cd_X3_changeNumber, ini_X3, by decide +kernel, by decide +kernel⟩
set_option maxRecDepth 100000 in
theorem cw_X6_51 : CWd RX6 51 yX3_changeVan cX3_changeVan 5 (some .int) 3 := ⟨lwm 399 (by decide +kernel), cd_X3_changeVan, ini_X3, by decide +kernel, by decide +kernel⟩
set_option maxRecDepth 100000 in
theorem cw_X6_55 : CWd RX6 55 yX3_changeProbe cX3_changeProbe 7 (some .int) 4 := ⟨lwm 407 (by decide +kernel), cd_X3_changeProbe, ini_X3, by decide +kernel, by decide +kernel⟩
set_option maxRecDepth 100000 in
theorem cw_X6_59 : CWd RX6 59 yX3_mendProbe cX3_mendProbe 5 (some .int) 2 := ⟨lwm 419 (by decide +kernel), cd_X3_mendProbe, ini_X3, by decide +kernel, by decide +kernel⟩
set_option maxRecDepth 100000 in
theorem cw_X6_62 : CWd RX6 62 yX3_putPallet cX3_putPallet 7 (some .int) 5 := ⟨lwm 428 (by decide +kernel), cd_X3_putPallet, ini_X3, by decide +kernel, by decide +kernel⟩
set_option maxRecDepth 100000 in
theorem cw_X6_66 : CWd RX6 66 yX3_turnDoor cX3_turnDoor 4 (some .int) 2 := ⟨lwm 453 (by decide +kernel), cd_X3_turnDoor, ini_X3, by decide +kernel, by decide +kernel⟩
set_option maxRecDepth 100000 in
theorem cw_X6_69 : CWd RX6 69 yX3_letPass cX3_letPass 6 (some .int) 2 := ⟨lwm 512 (by decide +kernel), cd_X3_letPass, ini_X3, by decide +kernel, by decide +kernel⟩
set_option maxRecDepth 100000 in
theorem cw_X6_73 : CWd RX6 73 yX3_handOver cX3_handOver 3 (some .int) 1 := ⟨lwm 474 (by decide +kernel), cd_X3_handOver, ini_X3, by decide +kernel, by decide +kernel⟩
set_option maxRecDepth 100000 in
theorem cw_X6_76 : CWd RX6 76 yX3_bringBack cX3_bringBack 4 (some .int) 2 := ⟨lwm 487 (by decide +kernel), cd_X3_bringBack, ini_X3, by decide +kernel, by decide +kernel⟩
set_option maxRecDepth 100000 in
theorem cw_X6_9 : CWd RX6 9 yX3_init cX3_init 2 none 0 := ⟨lwm 26 (by decide +kernel), cd_X3_init, ini_X3, by decide +kernel, by decide +kernel⟩
set_option maxRecDepth 100000 in
theorem cw_X6_97 : CWd RX6 97 yX6_isError cX6_isError 1 (some .boolean) 1 := ⟨lwm 377 (by decide +kernel), cd_X6_isError, ini_X6, by decide +kernel, by decide +kernel⟩
set_option maxRecDepth 100000 in
theorem fn_X4_42 : Cond.fieldLinkNest RX4 42 "ColdChain" "WARMING" "[I" "ColdChain" ∈ lw_tbl := lwm 524 (by decide +kernel)
