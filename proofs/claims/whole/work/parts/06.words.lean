set_option maxRecDepth 100000 in
theorem lwm {w : Cond} (i : Nat) (h : lw_tbl[i]? = some w) : w ∈ lw_tbl := List.mem_of_getElem? h
set_option maxRecDepth 100000 in
theorem fl_X0_11 : Cond.fieldLink RX0 11 "ColdChain$History" "temperatures" "[[I" ∈ lw_tbl := lwm 226 (by decide +kernel)
set_option maxRecDepth 100000 in
theorem fl_X0_16 : Cond.fieldLink RX0 16 "ColdChain$History" "toldOnes" "[[I" ∈ lw_tbl := lwm 227 (by decide +kernel)
set_option maxRecDepth 100000 in
theorem fl_X0_23 : Cond.fieldLink RX0 23 "ColdChain$Van" "zones" "[LColdChain$Zone;" ∈ lw_tbl := lwm 126 (by decide +kernel)
set_option maxRecDepth 100000 in
theorem fl_X0_29 : Cond.fieldLink RX0 29 "ColdChain$Zone" "temperature" "I" ∈ lw_tbl := lwm 86 (by decide +kernel)
set_option maxRecDepth 100000 in
theorem fl_X1_9 : Cond.fieldLink RX1 9 "ColdChain$Pallet" "van" "I" ∈ lw_tbl := lwm 146 (by decide +kernel)
set_option maxRecDepth 100000 in
theorem fl_X1_15 : Cond.fieldLink RX1 15 "ColdChain$Pallet" "zone" "I" ∈ lw_tbl := lwm 149 (by decide +kernel)
set_option maxRecDepth 100000 in
theorem fl_X1_18 : Cond.fieldLink RX1 18 "ColdChain$Pallet" "limit" "I" ∈ lw_tbl := lwm 151 (by decide +kernel)
set_option maxRecDepth 100000 in
theorem fl_X1_21 : Cond.fieldLink RX1 21 "ColdChain$Pallet" "allowance" "I" ∈ lw_tbl := lwm 152 (by decide +kernel)
set_option maxRecDepth 100000 in
theorem fl_X1_24 : Cond.fieldLink RX1 24 "ColdChain$Pallet" "value" "I" ∈ lw_tbl := lwm 153 (by decide +kernel)
set_option maxRecDepth 100000 in
theorem fl_X1_27 : Cond.fieldLink RX1 27 "ColdChain$Pallet" "state" "I" ∈ lw_tbl := lwm 155 (by decide +kernel)
set_option maxRecDepth 100000 in
theorem fl_X1_30 : Cond.fieldLink RX1 30 "ColdChain$Pallet" "openMinutes" "I" ∈ lw_tbl := lwm 158 (by decide +kernel)
set_option maxRecDepth 100000 in
theorem fl_X1_33 : Cond.fieldLink RX1 33 "ColdChain$Pallet" "closedMinutes" "I" ∈ lw_tbl := lwm 159 (by decide +kernel)
set_option maxRecDepth 100000 in
theorem fl_X1_36 : Cond.fieldLink RX1 36 "ColdChain$Pallet" "toldMinutes" "I" ∈ lw_tbl := lwm 160 (by decide +kernel)
set_option maxRecDepth 100000 in
theorem fl_X1_39 : Cond.fieldLink RX1 39 "ColdChain$Pallet" "part" "I" ∈ lw_tbl := lwm 161 (by decide +kernel)
set_option maxRecDepth 100000 in
theorem fl_X1_42 : Cond.fieldLink RX1 42 "ColdChain$Van" "zones" "[LColdChain$Zone;" ∈ lw_tbl := lwm 127 (by decide +kernel)
set_option maxRecDepth 100000 in
theorem fl_X1_48 : Cond.fieldLink RX1 48 "ColdChain$Zone" "temperature" "I" ∈ lw_tbl := lwm 88 (by decide +kernel)
set_option maxRecDepth 100000 in
theorem fl_X1_53 : Cond.fieldLink RX1 53 "ColdChain$Van" "open" "Z" ∈ lw_tbl := lwm 120 (by decide +kernel)
set_option maxRecDepth 100000 in
theorem fl_X2_9 : Cond.fieldLink RX2 9 "ColdChain$Script" "text" "[C" ∈ lw_tbl := lwm 240 (by decide +kernel)
set_option maxRecDepth 100000 in
theorem fl_X2_15 : Cond.fieldLink RX2 15 "ColdChain$Script" "letters" "[I" ∈ lw_tbl := lwm 244 (by decide +kernel)
set_option maxRecDepth 100000 in
theorem fl_X2_19 : Cond.fieldLink RX2 19 "ColdChain$Script" "firsts" "[I" ∈ lw_tbl := lwm 246 (by decide +kernel)
set_option maxRecDepth 100000 in
theorem fl_X2_22 : Cond.fieldLink RX2 22 "ColdChain$Script" "seconds" "[I" ∈ lw_tbl := lwm 248 (by decide +kernel)
set_option maxRecDepth 100000 in
theorem fl_X2_30 : Cond.fieldLink RX2 30 "ColdChain$Script" "length" "I" ∈ lw_tbl := lwm 241 (by decide +kernel)
set_option maxRecDepth 100000 in
theorem fl_X2_35 : Cond.fieldLink RX2 35 "ColdChain$Script" "at" "I" ∈ lw_tbl := lwm 243 (by decide +kernel)
set_option maxRecDepth 100000 in
theorem fl_X2_38 : Cond.fieldLink RX2 38 "ColdChain$Script" "commandCount" "I" ∈ lw_tbl := lwm 250 (by decide +kernel)
set_option maxRecDepth 100000 in
theorem fl_X3_9 : Cond.fieldLink RX3 9 "ColdChain$State" "outside" "I" ∈ lw_tbl := lwm 186 (by decide +kernel)
set_option maxRecDepth 100000 in
theorem fl_X3_15 : Cond.fieldLink RX3 15 "ColdChain$State" "difference" "I" ∈ lw_tbl := lwm 188 (by decide +kernel)
set_option maxRecDepth 100000 in
theorem fl_X3_18 : Cond.fieldLink RX3 18 "ColdChain$State" "patience" "I" ∈ lw_tbl := lwm 190 (by decide +kernel)
set_option maxRecDepth 100000 in
theorem fl_X3_23 : Cond.fieldLink RX3 23 "ColdChain$State" "vans" "[LColdChain$Van;" ∈ lw_tbl := lwm 196 (by decide +kernel)
set_option maxRecDepth 100000 in
theorem fl_X3_29 : Cond.fieldLink RX3 29 "ColdChain$State" "pallets" "[LColdChain$Pallet;" ∈ lw_tbl := lwm 198 (by decide +kernel)
set_option maxRecDepth 100000 in
theorem fl_X3_35 : Cond.fieldLink RX3 35 "ColdChain$State" "time" "I" ∈ lw_tbl := lwm 184 (by decide +kernel)
set_option maxRecDepth 100000 in
theorem fl_X3_38 : Cond.fieldLink RX3 38 "ColdChain$State" "vanCount" "I" ∈ lw_tbl := lwm 192 (by decide +kernel)
set_option maxRecDepth 100000 in
theorem fl_X3_41 : Cond.fieldLink RX3 41 "ColdChain$State" "palletCount" "I" ∈ lw_tbl := lwm 194 (by decide +kernel)
set_option maxRecDepth 100000 in
theorem fl_X3_59 : Cond.fieldLink RX3 59 "ColdChain$Van" "zones" "[LColdChain$Zone;" ∈ lw_tbl := lwm 128 (by decide +kernel)
set_option maxRecDepth 100000 in
theorem fl_X3_63 : Cond.fieldLink RX3 63 "ColdChain$Zone" "found" "Z" ∈ lw_tbl := lwm 96 (by decide +kernel)
set_option maxRecDepth 100000 in
theorem fl_X3_72 : Cond.fieldLink RX3 72 "ColdChain$Pallet" "zone" "I" ∈ lw_tbl := lwm 150 (by decide +kernel)
set_option maxRecDepth 100000 in
theorem fl_X3_89 : Cond.fieldLink RX3 89 "ColdChain$Van" "setPoint" "I" ∈ lw_tbl := lwm 114 (by decide +kernel)
set_option maxRecDepth 100000 in
theorem fl_X3_92 : Cond.fieldLink RX3 92 "ColdChain$Van" "cooling" "I" ∈ lw_tbl := lwm 117 (by decide +kernel)
set_option maxRecDepth 100000 in
theorem fl_X3_101 : Cond.fieldLink RX3 101 "ColdChain$Zone" "mode" "I" ∈ lw_tbl := lwm 91 (by decide +kernel)
set_option maxRecDepth 100000 in
theorem fl_X3_104 : Cond.fieldLink RX3 104 "ColdChain$Zone" "value" "I" ∈ lw_tbl := lwm 94 (by decide +kernel)
set_option maxRecDepth 100000 in
theorem fl_X3_116 : Cond.fieldLink RX3 116 "ColdChain$Van" "open" "Z" ∈ lw_tbl := lwm 121 (by decide +kernel)
set_option maxRecDepth 100000 in
theorem fl_X3_161 : Cond.fieldLink RX3 161 "ColdChain$Pallet" "state" "I" ∈ lw_tbl := lwm 156 (by decide +kernel)
set_option maxRecDepth 100000 in
theorem fl_X3_164 : Cond.fieldLink RX3 164 "ColdChain$Pallet" "van" "I" ∈ lw_tbl := lwm 147 (by decide +kernel)
set_option maxRecDepth 100000 in
theorem fl_X3_176 : Cond.fieldLink RX3 176 "ColdChain$Pallet" "value" "I" ∈ lw_tbl := lwm 154 (by decide +kernel)
set_option maxRecDepth 100000 in
theorem fl_X3_177 : Cond.fieldLink RX3 177 "ColdChain$Pallet" "part" "I" ∈ lw_tbl := lwm 162 (by decide +kernel)
set_option maxRecDepth 100000 in
theorem fl_X4_11 : Cond.fieldLink RX4 11 "ColdChain$Van" "zones" "[LColdChain$Zone;" ∈ lw_tbl := lwm 125 (by decide +kernel)
set_option maxRecDepth 100000 in
theorem fl_X4_18 : Cond.fieldLink RX4 18 "ColdChain$Van" "setPoint" "I" ∈ lw_tbl := lwm 113 (by decide +kernel)
set_option maxRecDepth 100000 in
theorem fl_X4_22 : Cond.fieldLink RX4 22 "ColdChain$Van" "cooling" "I" ∈ lw_tbl := lwm 116 (by decide +kernel)
set_option maxRecDepth 100000 in
theorem fl_X4_25 : Cond.fieldLink RX4 25 "ColdChain$Van" "open" "Z" ∈ lw_tbl := lwm 119 (by decide +kernel)
set_option maxRecDepth 100000 in
theorem fl_X4_29 : Cond.fieldLink RX4 29 "ColdChain$Van" "addedAt" "I" ∈ lw_tbl := lwm 123 (by decide +kernel)
set_option maxRecDepth 100000 in
theorem fl_X4_39 : Cond.fieldLink RX4 39 "ColdChain$Zone" "temperature" "I" ∈ lw_tbl := lwm 87 (by decide +kernel)
set_option maxRecDepth 100000 in
theorem fl_X4_54 : Cond.fieldLink RX4 54 "ColdChain$Zone" "oddMinutes" "I" ∈ lw_tbl := lwm 100 (by decide +kernel)
set_option maxRecDepth 100000 in
theorem fl_X4_57 : Cond.fieldLink RX4 57 "ColdChain$Zone" "found" "Z" ∈ lw_tbl := lwm 97 (by decide +kernel)
set_option maxRecDepth 100000 in
theorem fl_X5_9 : Cond.fieldLink RX5 9 "ColdChain$Zone" "temperature" "I" ∈ lw_tbl := lwm 85 (by decide +kernel)
set_option maxRecDepth 100000 in
theorem fl_X5_15 : Cond.fieldLink RX5 15 "ColdChain$Zone" "mode" "I" ∈ lw_tbl := lwm 90 (by decide +kernel)
set_option maxRecDepth 100000 in
theorem fl_X5_18 : Cond.fieldLink RX5 18 "ColdChain$Zone" "value" "I" ∈ lw_tbl := lwm 93 (by decide +kernel)
set_option maxRecDepth 100000 in
theorem fl_X5_21 : Cond.fieldLink RX5 21 "ColdChain$Zone" "found" "Z" ∈ lw_tbl := lwm 95 (by decide +kernel)
set_option maxRecDepth 100000 in
theorem fl_X5_25 : Cond.fieldLink RX5 25 "ColdChain$Zone" "oddMinutes" "I" ∈ lw_tbl := lwm 99 (by decide +kernel)
set_option maxRecDepth 100000 in
theorem fl_X6_10 : Cond.fieldLink RX6 10 "ColdChain" "now" "LColdChain$State;" ∈ lw_tbl := lwm 268 (by decide +kernel)
set_option maxRecDepth 100000 in
theorem fl_X6_16 : Cond.fieldLink RX6 16 "ColdChain" "trial" "LColdChain$State;" ∈ lw_tbl := lwm 269 (by decide +kernel)
set_option maxRecDepth 100000 in
theorem fl_X6_19 : Cond.fieldLink RX6 19 "ColdChain" "saved" "[LColdChain$State;" ∈ lw_tbl := lwm 270 (by decide +kernel)
set_option maxRecDepth 100000 in
theorem fl_X6_26 : Cond.fieldLink RX6 26 "ColdChain" "history" "LColdChain$History;" ∈ lw_tbl := lwm 273 (by decide +kernel)
set_option maxRecDepth 100000 in
theorem fl_X6_33 : Cond.fieldLink RX6 33 "ColdChain" "script" "LColdChain$Script;" ∈ lw_tbl := lwm 274 (by decide +kernel)
set_option maxRecDepth 100000 in
theorem fl_X6_82 : Cond.fieldLink RX6 82 "ColdChain$Script" "length" "I" ∈ lw_tbl := lwm 242 (by decide +kernel)
set_option maxRecDepth 100000 in
theorem fl_X6_91 : Cond.fieldLink RX6 91 "ColdChain$Script" "commandCount" "I" ∈ lw_tbl := lwm 251 (by decide +kernel)
set_option maxRecDepth 100000 in
theorem fl_X6_101 : Cond.fieldLink RX6 101 "ColdChain" "free" "I" ∈ lw_tbl := lwm 271 (by decide +kernel)
set_option maxRecDepth 100000 in
theorem fl_X6_109 : Cond.fieldLink RX6 109 "ColdChain$State" "vanCount" "I" ∈ lw_tbl := lwm 193 (by decide +kernel)
set_option maxRecDepth 100000 in
theorem fl_X6_112 : Cond.fieldLink RX6 112 "ColdChain$State" "palletCount" "I" ∈ lw_tbl := lwm 195 (by decide +kernel)
set_option maxRecDepth 100000 in
theorem fl_X6_115 : Cond.fieldLink RX6 115 "ColdChain$State" "time" "I" ∈ lw_tbl := lwm 185 (by decide +kernel)
set_option maxRecDepth 100000 in
theorem fl_X6_118 : Cond.fieldLink RX6 118 "ColdChain$State" "outside" "I" ∈ lw_tbl := lwm 187 (by decide +kernel)
set_option maxRecDepth 100000 in
theorem fl_X6_121 : Cond.fieldLink RX6 121 "ColdChain$State" "difference" "I" ∈ lw_tbl := lwm 189 (by decide +kernel)
set_option maxRecDepth 100000 in
theorem fl_X6_124 : Cond.fieldLink RX6 124 "ColdChain$State" "patience" "I" ∈ lw_tbl := lwm 191 (by decide +kernel)
set_option maxRecDepth 100000 in
theorem fl_X6_127 : Cond.fieldLink RX6 127 "ColdChain" "savedCount" "I" ∈ lw_tbl := lwm 272 (by decide +kernel)
set_option maxRecDepth 100000 in
theorem fl_X6_137 : Cond.fieldLink RX6 137 "ColdChain$State" "vans" "[LColdChain$Van;" ∈ lw_tbl := lwm 197 (by decide +kernel)
set_option maxRecDepth 100000 in
theorem fl_X6_141 : Cond.fieldLink RX6 141 "ColdChain$Van" "setPoint" "I" ∈ lw_tbl := lwm 115 (by decide +kernel)
set_option maxRecDepth 100000 in
theorem fl_X6_146 : Cond.fieldLink RX6 146 "ColdChain$Van" "cooling" "I" ∈ lw_tbl := lwm 118 (by decide +kernel)
set_option maxRecDepth 100000 in
theorem fl_X6_149 : Cond.fieldLink RX6 149 "ColdChain$Van" "open" "Z" ∈ lw_tbl := lwm 122 (by decide +kernel)
set_option maxRecDepth 100000 in
theorem fl_X6_160 : Cond.fieldLink RX6 160 "ColdChain$Van" "zones" "[LColdChain$Zone;" ∈ lw_tbl := lwm 129 (by decide +kernel)
set_option maxRecDepth 100000 in
theorem fl_X6_164 : Cond.fieldLink RX6 164 "ColdChain$Zone" "temperature" "I" ∈ lw_tbl := lwm 89 (by decide +kernel)
set_option maxRecDepth 100000 in
theorem fl_X6_175 : Cond.fieldLink RX6 175 "ColdChain$Zone" "mode" "I" ∈ lw_tbl := lwm 92 (by decide +kernel)
set_option maxRecDepth 100000 in
theorem fl_X6_178 : Cond.fieldLink RX6 178 "ColdChain$Zone" "found" "Z" ∈ lw_tbl := lwm 98 (by decide +kernel)
set_option maxRecDepth 100000 in
theorem fl_X6_181 : Cond.fieldLink RX6 181 "ColdChain$Zone" "oddMinutes" "I" ∈ lw_tbl := lwm 101 (by decide +kernel)
set_option maxRecDepth 100000 in
theorem fl_X6_187 : Cond.fieldLink RX6 187 "ColdChain$State" "pallets" "[LColdChain$Pallet;" ∈ lw_tbl := lwm 199 (by decide +kernel)
set_option maxRecDepth 100000 in
theorem fl_X6_206 : Cond.fieldLink RX6 206 "ColdChain$Van" "addedAt" "I" ∈ lw_tbl := lwm 124 (by decide +kernel)
set_option maxRecDepth 100000 in
theorem fl_X6_222 : Cond.fieldLink RX6 222 "ColdChain$Pallet" "state" "I" ∈ lw_tbl := lwm 157 (by decide +kernel)
set_option maxRecDepth 100000 in
theorem fl_X6_230 : Cond.fieldLink RX6 230 "ColdChain$Pallet" "van" "I" ∈ lw_tbl := lwm 148 (by decide +kernel)
set_option maxRecDepth 100000 in
theorem fl_X6_239 : Cond.fieldLink RX6 239 "ColdChain$Script" "firsts" "[I" ∈ lw_tbl := lwm 247 (by decide +kernel)
set_option maxRecDepth 100000 in
theorem fl_X6_243 : Cond.fieldLink RX6 243 "ColdChain$Script" "letters" "[I" ∈ lw_tbl := lwm 245 (by decide +kernel)
set_option maxRecDepth 100000 in
theorem fl_X6_246 : Cond.fieldLink RX6 246 "ColdChain$Script" "seconds" "[I" ∈ lw_tbl := lwm 249 (by decide +kernel)
set_option maxRecDepth 100000 in
theorem fl_X7_7 : Cond.fieldLink RX7 7 "ColdChainModel" "s" "[I" ∈ lw_tbl := lwm 678 (by decide +kernel)
set_option maxRecDepth 100000 in
theorem fl_X7_13 : Cond.fieldLink RX7 13 "ColdChainModel" "past" "[I" ∈ lw_tbl := lwm 679 (by decide +kernel)
set_option maxRecDepth 100000 in
theorem fl_X7_16 : Cond.fieldLink RX7 16 "ColdChainModel" "aside" "[I" ∈ lw_tbl := lwm 680 (by decide +kernel)
set_option maxRecDepth 100000 in
theorem fl_X7_19 : Cond.fieldLink RX7 19 "ColdChainModel" "kept" "[I" ∈ lw_tbl := lwm 681 (by decide +kernel)
set_option maxRecDepth 100000 in
theorem fl_X7_22 : Cond.fieldLink RX7 22 "ColdChainModel" "log" "[I" ∈ lw_tbl := lwm 683 (by decide +kernel)
set_option maxRecDepth 100000 in
theorem fl_X7_25 : Cond.fieldLink RX7 25 "ColdChainModel" "isReal" "Z" ∈ lw_tbl := lwm 684 (by decide +kernel)
set_option maxRecDepth 100000 in
theorem fl_X7_29 : Cond.fieldLink RX7 29 "ColdChainModel" "text" "[I" ∈ lw_tbl := lwm 685 (by decide +kernel)
set_option maxRecDepth 100000 in
theorem fl_X7_32 : Cond.fieldLink RX7 32 "ColdChainModel" "numbers" "[I" ∈ lw_tbl := lwm 689 (by decide +kernel)
set_option maxRecDepth 100000 in
theorem fl_X7_39 : Cond.fieldLink RX7 39 "ColdChainModel" "pasts" "I" ∈ lw_tbl := lwm 682 (by decide +kernel)
set_option maxRecDepth 100000 in
theorem fl_X7_144 : Cond.fieldLink RX7 144 "ColdChainModel" "typed" "I" ∈ lw_tbl := lwm 686 (by decide +kernel)
set_option maxRecDepth 100000 in
theorem fl_X7_147 : Cond.fieldLink RX7 147 "ColdChainModel" "spot" "I" ∈ lw_tbl := lwm 687 (by decide +kernel)
set_option maxRecDepth 100000 in
theorem fl_X7_156 : Cond.fieldLink RX7 156 "ColdChainModel" "letter" "I" ∈ lw_tbl := lwm 688 (by decide +kernel)
set_option maxRecDepth 100000 in
theorem cn_J6_265 : Cond.constant RJ6 265 (1431655765 : Int32) ∈ lw_tbl := lwm 432 (by decide +kernel)
set_option maxRecDepth 100000 in
theorem cn_J6_266 : Cond.constant RJ6 266 (858993459 : Int32) ∈ lw_tbl := lwm 433 (by decide +kernel)
set_option maxRecDepth 100000 in
theorem cn_J6_267 : Cond.constant RJ6 267 (252645135 : Int32) ∈ lw_tbl := lwm 434 (by decide +kernel)
set_option maxRecDepth 100000 in
theorem cn_X1_72 : Cond.constant RX1 72 (-100001 : Int32) ∈ lw_tbl := lwm 624 (by decide +kernel)
set_option maxRecDepth 100000 in
theorem cn_X2_29 : Cond.constant RX2 29 (-100001 : Int32) ∈ lw_tbl := lwm 544 (by decide +kernel)
set_option maxRecDepth 100000 in
theorem cn_X2_34 : Cond.constant RX2 34 (-100003 : Int32) ∈ lw_tbl := lwm 545 (by decide +kernel)
set_option maxRecDepth 100000 in
theorem cn_X3_83 : Cond.constant RX3 83 (-100001 : Int32) ∈ lw_tbl := lwm 324 (by decide +kernel)
set_option maxRecDepth 100000 in
theorem cn_X3_84 : Cond.constant RX3 84 (-100003 : Int32) ∈ lw_tbl := lwm 325 (by decide +kernel)
set_option maxRecDepth 100000 in
theorem cn_X3_119 : Cond.constant RX3 119 (-100002 : Int32) ∈ lw_tbl := lwm 404 (by decide +kernel)
set_option maxRecDepth 100000 in
theorem cn_X6_90 : Cond.constant RX6 90 (-200000 : Int32) ∈ lw_tbl := lwm 580 (by decide +kernel)
set_option maxRecDepth 100000 in
theorem cn_X6_108 : Cond.constant RX6 108 (-300000 : Int32) ∈ lw_tbl := lwm 585 (by decide +kernel)
set_option maxRecDepth 100000 in
theorem cn_X6_133 : Cond.constant RX6 133 (-100001 : Int32) ∈ lw_tbl := lwm 341 (by decide +kernel)
set_option maxRecDepth 100000 in
theorem cn_X6_209 : Cond.constant RX6 209 (-100009 : Int32) ∈ lw_tbl := lwm 642 (by decide +kernel)
set_option maxRecDepth 100000 in
theorem cn_X6_225 : Cond.constant RX6 225 (-100002 : Int32) ∈ lw_tbl := lwm 653 (by decide +kernel)
set_option maxRecDepth 100000 in
theorem cn_X7_92 : Cond.constant RX7 92 (-100001 : Int32) ∈ lw_tbl := lwm 725 (by decide +kernel)
set_option maxRecDepth 100000 in
theorem cn_X7_93 : Cond.constant RX7 93 (-100002 : Int32) ∈ lw_tbl := lwm 790 (by decide +kernel)
set_option maxRecDepth 100000 in
theorem cn_X7_100 : Cond.constant RX7 100 (-100003 : Int32) ∈ lw_tbl := lwm 726 (by decide +kernel)
set_option maxRecDepth 100000 in
theorem cn_X7_172 : Cond.constant RX7 172 (-200000 : Int32) ∈ lw_tbl := lwm 908 (by decide +kernel)
set_option maxRecDepth 100000 in
theorem cn_X7_176 : Cond.constant RX7 176 (-300000 : Int32) ∈ lw_tbl := lwm 913 (by decide +kernel)
set_option maxRecDepth 100000 in
theorem cn_X7_183 : Cond.constant RX7 183 (-100009 : Int32) ∈ lw_tbl := lwm 950 (by decide +kernel)
set_option maxRecDepth 100000 in
theorem ms_X6_isVanSetting : Cond.static yX6_isVanSetting ∈ lw_tbl := lwm 319 (by decide +kernel)
set_option maxRecDepth 100000 in
theorem ms_X6_isWithin : Cond.static yX6_isWithin ∈ lw_tbl := lwm 322 (by decide +kernel)
set_option maxRecDepth 100000 in
theorem ms_X6_isError : Cond.static yX6_isError ∈ lw_tbl := lwm 339 (by decide +kernel)
set_option maxRecDepth 100000 in
theorem ms_J9_min_7cf53 : Cond.static yJ9_min_7cf53 ∈ lw_tbl := lwm 343 (by decide +kernel)
set_option maxRecDepth 100000 in
theorem ms_X6_isProbeSetting : Cond.static yX6_isProbeSetting ∈ lw_tbl := lwm 379 (by decide +kernel)
set_option maxRecDepth 100000 in
theorem ms_X6_isLimit : Cond.static yX6_isLimit ∈ lw_tbl := lwm 399 (by decide +kernel)
set_option maxRecDepth 100000 in
theorem ms_X6_isPrice : Cond.static yX6_isPrice ∈ lw_tbl := lwm 402 (by decide +kernel)
set_option maxRecDepth 100000 in
theorem ms_J6_bitCount_0f7a4 : Cond.static yJ6_bitCount_0f7a4 ∈ lw_tbl := lwm 430 (by decide +kernel)
set_option maxRecDepth 100000 in
theorem ms_J9_max_7cf53 : Cond.static yJ9_max_7cf53 ∈ lw_tbl := lwm 458 (by decide +kernel)
set_option maxRecDepth 100000 in
theorem ms_J9_abs_0f7a4 : Cond.static yJ9_abs_0f7a4 ∈ lw_tbl := lwm 477 (by decide +kernel)
set_option maxRecDepth 100000 in
theorem ms_J9_floorDiv_7cf53 : Cond.static yJ9_floorDiv_7cf53 ∈ lw_tbl := lwm 488 (by decide +kernel)
set_option maxRecDepth 100000 in
theorem ms_X3_isIn : Cond.static yX3_isIn ∈ lw_tbl := lwm 524 (by decide +kernel)
set_option maxRecDepth 100000 in
theorem ms_X2_isLetter : Cond.static yX2_isLetter ∈ lw_tbl := lwm 567 (by decide +kernel)
set_option maxRecDepth 100000 in
theorem ms_X2_isDigit : Cond.static yX2_isDigit ∈ lw_tbl := lwm 574 (by decide +kernel)
set_option maxRecDepth 100000 in
theorem ms_X7_isCold : Cond.static yX7_isCold ∈ lw_tbl := lwm 720 (by decide +kernel)
set_option maxRecDepth 100000 in
theorem ms_X7_in : Cond.static yX7_in ∈ lw_tbl := lwm 723 (by decide +kernel)
set_option maxRecDepth 100000 in
theorem ms_X7_copies : Cond.static yX7_copies ∈ lw_tbl := lwm 732 (by decide +kernel)
set_option maxRecDepth 100000 in
theorem ms_X7_zoneSpot : Cond.static yX7_zoneSpot ∈ lw_tbl := lwm 735 (by decide +kernel)
set_option maxRecDepth 100000 in
theorem ms_X7_isNumber : Cond.static yX7_isNumber ∈ lw_tbl := lwm 746 (by decide +kernel)
set_option maxRecDepth 100000 in
theorem ms_X7_isZone : Cond.static yX7_isZone ∈ lw_tbl := lwm 765 (by decide +kernel)
set_option maxRecDepth 100000 in
theorem ms_X7_isMode : Cond.static yX7_isMode ∈ lw_tbl := lwm 768 (by decide +kernel)
set_option maxRecDepth 100000 in
theorem ms_X7_palletSpot : Cond.static yX7_palletSpot ∈ lw_tbl := lwm 800 (by decide +kernel)
set_option maxRecDepth 100000 in
theorem ms_X7_bits : Cond.static yX7_bits ∈ lw_tbl := lwm 815 (by decide +kernel)
set_option maxRecDepth 100000 in
theorem ms_X7_apart : Cond.static yX7_apart ∈ lw_tbl := lwm 846 (by decide +kernel)
set_option maxRecDepth 100000 in
theorem mi_X6_init : Cond.instanceMethod yX6_init ∈ lw_tbl := lwm 58 (by decide +kernel)
set_option maxRecDepth 100000 in
theorem mi_X3_init : Cond.instanceMethod yX3_init ∈ lw_tbl := lwm 66 (by decide +kernel)
set_option maxRecDepth 100000 in
theorem mi_X4_init : Cond.instanceMethod yX4_init ∈ lw_tbl := lwm 75 (by decide +kernel)
set_option maxRecDepth 100000 in
theorem mi_X5_init : Cond.instanceMethod yX5_init ∈ lw_tbl := lwm 82 (by decide +kernel)
set_option maxRecDepth 100000 in
theorem mi_X1_init : Cond.instanceMethod yX1_init ∈ lw_tbl := lwm 143 (by decide +kernel)
set_option maxRecDepth 100000 in
theorem mi_X0_init : Cond.instanceMethod yX0_init ∈ lw_tbl := lwm 221 (by decide +kernel)
set_option maxRecDepth 100000 in
theorem mi_X2_init : Cond.instanceMethod yX2_init ∈ lw_tbl := lwm 237 (by decide +kernel)
set_option maxRecDepth 100000 in
theorem mi_X6_addVan : Cond.instanceMethod yX6_addVan ∈ lw_tbl := lwm 291 (by decide +kernel)
set_option maxRecDepth 100000 in
theorem mi_X6_noteState : Cond.instanceMethod yX6_noteState ∈ lw_tbl := lwm 296 (by decide +kernel)
set_option maxRecDepth 100000 in
theorem mi_X3_copyFrom : Cond.instanceMethod yX3_copyFrom ∈ lw_tbl := lwm 299 (by decide +kernel)
set_option maxRecDepth 100000 in
theorem mi_X4_copyFrom : Cond.instanceMethod yX4_copyFrom ∈ lw_tbl := lwm 303 (by decide +kernel)
set_option maxRecDepth 100000 in
theorem mi_X5_copyFrom : Cond.instanceMethod yX5_copyFrom ∈ lw_tbl := lwm 307 (by decide +kernel)
set_option maxRecDepth 100000 in
theorem mi_X1_copyFrom : Cond.instanceMethod yX1_copyFrom ∈ lw_tbl := lwm 311 (by decide +kernel)
set_option maxRecDepth 100000 in
theorem mi_X3_putVan : Cond.instanceMethod yX3_putVan ∈ lw_tbl := lwm 315 (by decide +kernel)
set_option maxRecDepth 100000 in
theorem mi_X4_start : Cond.instanceMethod yX4_start ∈ lw_tbl := lwm 327 (by decide +kernel)
set_option maxRecDepth 100000 in
theorem mi_X5_mend : Cond.instanceMethod yX5_mend ∈ lw_tbl := lwm 331 (by decide +kernel)
set_option maxRecDepth 100000 in
theorem mi_X6_kept : Cond.instanceMethod yX6_kept ∈ lw_tbl := lwm 336 (by decide +kernel)
set_option maxRecDepth 100000 in
theorem mi_X6_setNumber : Cond.instanceMethod yX6_setNumber ∈ lw_tbl := lwm 346 (by decide +kernel)
set_option maxRecDepth 100000 in
theorem mi_X3_changeNumber : Cond.instanceMethod yX3_changeNumber ∈ lw_tbl := lwm 350 (by decide +kernel)
set_option maxRecDepth 100000 in
theorem mi_X6_setVan : Cond.instanceMethod yX6_setVan ∈ lw_tbl := lwm 355 (by decide +kernel)
set_option maxRecDepth 100000 in
theorem mi_X3_changeVan : Cond.instanceMethod yX3_changeVan ∈ lw_tbl := lwm 359 (by decide +kernel)
set_option maxRecDepth 100000 in
theorem mi_X3_hasVan : Cond.instanceMethod yX3_hasVan ∈ lw_tbl := lwm 363 (by decide +kernel)
set_option maxRecDepth 100000 in
theorem mi_X6_setProbe : Cond.instanceMethod yX6_setProbe ∈ lw_tbl := lwm 367 (by decide +kernel)
set_option maxRecDepth 100000 in
theorem mi_X3_changeProbe : Cond.instanceMethod yX3_changeProbe ∈ lw_tbl := lwm 371 (by decide +kernel)
set_option maxRecDepth 100000 in
theorem mi_X3_hasZone : Cond.instanceMethod yX3_hasZone ∈ lw_tbl := lwm 375 (by decide +kernel)
set_option maxRecDepth 100000 in
theorem mi_X6_repair : Cond.instanceMethod yX6_repair ∈ lw_tbl := lwm 382 (by decide +kernel)
set_option maxRecDepth 100000 in
theorem mi_X3_mendProbe : Cond.instanceMethod yX3_mendProbe ∈ lw_tbl := lwm 386 (by decide +kernel)
set_option maxRecDepth 100000 in
theorem mi_X6_loadPallet : Cond.instanceMethod yX6_loadPallet ∈ lw_tbl := lwm 391 (by decide +kernel)
set_option maxRecDepth 100000 in
theorem mi_X3_putPallet : Cond.instanceMethod yX3_putPallet ∈ lw_tbl := lwm 395 (by decide +kernel)
set_option maxRecDepth 100000 in
theorem mi_X3_palletsInZone : Cond.instanceMethod yX3_palletsInZone ∈ lw_tbl := lwm 407 (by decide +kernel)
set_option maxRecDepth 100000 in
theorem mi_X1_isIn : Cond.instanceMethod yX1_isIn ∈ lw_tbl := lwm 410 (by decide +kernel)
set_option maxRecDepth 100000 in
theorem mi_X1_start : Cond.instanceMethod yX1_start ∈ lw_tbl := lwm 414 (by decide +kernel)
set_option maxRecDepth 100000 in
theorem mi_X6_door : Cond.instanceMethod yX6_door ∈ lw_tbl := lwm 418 (by decide +kernel)
set_option maxRecDepth 100000 in
theorem mi_X3_turnDoor : Cond.instanceMethod yX3_turnDoor ∈ lw_tbl := lwm 422 (by decide +kernel)
set_option maxRecDepth 100000 in
theorem mi_X3_palletsIn : Cond.instanceMethod yX3_palletsIn ∈ lw_tbl := lwm 426 (by decide +kernel)
set_option maxRecDepth 100000 in
theorem mi_X6_pass : Cond.instanceMethod yX6_pass ∈ lw_tbl := lwm 436 (by decide +kernel)
set_option maxRecDepth 100000 in
theorem mi_X3_letPass : Cond.instanceMethod yX3_letPass ∈ lw_tbl := lwm 440 (by decide +kernel)
set_option maxRecDepth 100000 in
theorem mi_X3_minuteInVan : Cond.instanceMethod yX3_minuteInVan ∈ lw_tbl := lwm 444 (by decide +kernel)
set_option maxRecDepth 100000 in
theorem mi_X4_changeTemperatures : Cond.instanceMethod yX4_changeTemperatures ∈ lw_tbl := lwm 448 (by decide +kernel)
set_option maxRecDepth 100000 in
theorem mi_X5_coolTo : Cond.instanceMethod yX5_coolTo ∈ lw_tbl := lwm 454 (by decide +kernel)
set_option maxRecDepth 100000 in
theorem mi_X4_mixAir : Cond.instanceMethod yX4_mixAir ∈ lw_tbl := lwm 461 (by decide +kernel)
set_option maxRecDepth 100000 in
theorem mi_X4_findProbes : Cond.instanceMethod yX4_findProbes ∈ lw_tbl := lwm 465 (by decide +kernel)
set_option maxRecDepth 100000 in
theorem mi_X4_isOdd : Cond.instanceMethod yX4_isOdd ∈ lw_tbl := lwm 470 (by decide +kernel)
set_option maxRecDepth 100000 in
theorem mi_X5_reading : Cond.instanceMethod yX5_reading ∈ lw_tbl := lwm 473 (by decide +kernel)
set_option maxRecDepth 100000 in
theorem mi_X1_addMinute : Cond.instanceMethod yX1_addMinute ∈ lw_tbl := lwm 480 (by decide +kernel)
set_option maxRecDepth 100000 in
theorem mi_X4_toldIn : Cond.instanceMethod yX4_toldIn ∈ lw_tbl := lwm 484 (by decide +kernel)
set_option maxRecDepth 100000 in
theorem mi_X0_write : Cond.instanceMethod yX0_write ∈ lw_tbl := lwm 491 (by decide +kernel)
set_option maxRecDepth 100000 in
theorem mi_X0_row : Cond.instanceMethod yX0_row ∈ lw_tbl := lwm 495 (by decide +kernel)
set_option maxRecDepth 100000 in
theorem mi_X6_deliver : Cond.instanceMethod yX6_deliver ∈ lw_tbl := lwm 500 (by decide +kernel)
set_option maxRecDepth 100000 in
theorem mi_X3_handOver : Cond.instanceMethod yX3_handOver ∈ lw_tbl := lwm 504 (by decide +kernel)
set_option maxRecDepth 100000 in
theorem mi_X3_hasPallet : Cond.instanceMethod yX3_hasPallet ∈ lw_tbl := lwm 508 (by decide +kernel)
set_option maxRecDepth 100000 in
theorem mi_X1_isOverdue : Cond.instanceMethod yX1_isOverdue ∈ lw_tbl := lwm 512 (by decide +kernel)
set_option maxRecDepth 100000 in
theorem mi_X6_detour : Cond.instanceMethod yX6_detour ∈ lw_tbl := lwm 516 (by decide +kernel)
set_option maxRecDepth 100000 in
theorem mi_X3_bringBack : Cond.instanceMethod yX3_bringBack ∈ lw_tbl := lwm 520 (by decide +kernel)
set_option maxRecDepth 100000 in
theorem mi_X3_shareByValues : Cond.instanceMethod yX3_shareByValues ∈ lw_tbl := lwm 528 (by decide +kernel)
set_option maxRecDepth 100000 in
theorem mi_X3_shareRest : Cond.instanceMethod yX3_shareRest ∈ lw_tbl := lwm 532 (by decide +kernel)
set_option maxRecDepth 100000 in
theorem mi_X6_appendCharacter : Cond.instanceMethod yX6_appendCharacter ∈ lw_tbl := lwm 536 (by decide +kernel)
set_option maxRecDepth 100000 in
theorem mi_X2_append : Cond.instanceMethod yX2_append ∈ lw_tbl := lwm 540 (by decide +kernel)
set_option maxRecDepth 100000 in
theorem mi_X6_clearText : Cond.instanceMethod yX6_clearText ∈ lw_tbl := lwm 547 (by decide +kernel)
set_option maxRecDepth 100000 in
theorem mi_X6_runScript : Cond.instanceMethod yX6_runScript ∈ lw_tbl := lwm 551 (by decide +kernel)
set_option maxRecDepth 100000 in
theorem mi_X2_read : Cond.instanceMethod yX2_read ∈ lw_tbl := lwm 555 (by decide +kernel)
set_option maxRecDepth 100000 in
theorem mi_X2_skipSpaces : Cond.instanceMethod yX2_skipSpaces ∈ lw_tbl := lwm 560 (by decide +kernel)
set_option maxRecDepth 100000 in
theorem mi_X2_readCommand : Cond.instanceMethod yX2_readCommand ∈ lw_tbl := lwm 564 (by decide +kernel)
set_option maxRecDepth 100000 in
theorem mi_X2_readNumber : Cond.instanceMethod yX2_readNumber ∈ lw_tbl := lwm 571 (by decide +kernel)
set_option maxRecDepth 100000 in
theorem mi_X2_readSign : Cond.instanceMethod yX2_readSign ∈ lw_tbl := lwm 578 (by decide +kernel)
set_option maxRecDepth 100000 in
theorem mi_X6_runCommand : Cond.instanceMethod yX6_runCommand ∈ lw_tbl := lwm 583 (by decide +kernel)
set_option maxRecDepth 100000 in
theorem mi_X6_count : Cond.instanceMethod yX6_count ∈ lw_tbl := lwm 587 (by decide +kernel)
set_option maxRecDepth 100000 in
theorem mi_X3_foundProbes : Cond.instanceMethod yX3_foundProbes ∈ lw_tbl := lwm 591 (by decide +kernel)
set_option maxRecDepth 100000 in
theorem mi_X6_van : Cond.instanceMethod yX6_van ∈ lw_tbl := lwm 595 (by decide +kernel)
set_option maxRecDepth 100000 in
theorem mi_X6_zone : Cond.instanceMethod yX6_zone ∈ lw_tbl := lwm 601 (by decide +kernel)
set_option maxRecDepth 100000 in
theorem mi_X6_pallet : Cond.instanceMethod yX6_pallet ∈ lw_tbl := lwm 608 (by decide +kernel)
set_option maxRecDepth 100000 in
theorem mi_X1_property : Cond.instanceMethod yX1_property ∈ lw_tbl := lwm 613 (by decide +kernel)
set_option maxRecDepth 100000 in
theorem mi_X1_cause : Cond.instanceMethod yX1_cause ∈ lw_tbl := lwm 617 (by decide +kernel)
set_option maxRecDepth 100000 in
theorem mi_X1_wasRejected : Cond.instanceMethod yX1_wasRejected ∈ lw_tbl := lwm 621 (by decide +kernel)
set_option maxRecDepth 100000 in
theorem mi_X6_claims : Cond.instanceMethod yX6_claims ∈ lw_tbl := lwm 626 (by decide +kernel)
set_option maxRecDepth 100000 in
theorem mi_X1_claim : Cond.instanceMethod yX1_claim ∈ lw_tbl := lwm 630 (by decide +kernel)
set_option maxRecDepth 100000 in
theorem mi_X1_claimBy : Cond.instanceMethod yX1_claimBy ∈ lw_tbl := lwm 634 (by decide +kernel)
set_option maxRecDepth 100000 in
theorem mi_X6_log : Cond.instanceMethod yX6_log ∈ lw_tbl := lwm 639 (by decide +kernel)
set_option maxRecDepth 100000 in
theorem mi_X6_warm : Cond.instanceMethod yX6_warm ∈ lw_tbl := lwm 645 (by decide +kernel)
set_option maxRecDepth 100000 in
theorem mi_X6_minutesLeft : Cond.instanceMethod yX6_minutesLeft ∈ lw_tbl := lwm 650 (by decide +kernel)
set_option maxRecDepth 100000 in
theorem mi_X6_longestOpen : Cond.instanceMethod yX6_longestOpen ∈ lw_tbl := lwm 657 (by decide +kernel)
set_option maxRecDepth 100000 in
theorem mi_X6_mayBeOpen : Cond.instanceMethod yX6_mayBeOpen ∈ lw_tbl := lwm 662 (by decide +kernel)
set_option maxRecDepth 100000 in
theorem mi_X3_hasOverdue : Cond.instanceMethod yX3_hasOverdue ∈ lw_tbl := lwm 665 (by decide +kernel)
set_option maxRecDepth 100000 in
theorem mi_X6_undo : Cond.instanceMethod yX6_undo ∈ lw_tbl := lwm 669 (by decide +kernel)
set_option maxRecDepth 100000 in
theorem mi_X7_init : Cond.instanceMethod yX7_init ∈ lw_tbl := lwm 675 (by decide +kernel)
set_option maxRecDepth 100000 in
theorem mi_X7_addVan : Cond.instanceMethod yX7_addVan ∈ lw_tbl := lwm 716 (by decide +kernel)
set_option maxRecDepth 100000 in
theorem mi_X7_hold : Cond.instanceMethod yX7_hold ∈ lw_tbl := lwm 729 (by decide +kernel)
set_option maxRecDepth 100000 in
theorem mi_X7_ends : Cond.instanceMethod yX7_ends ∈ lw_tbl := lwm 739 (by decide +kernel)
set_option maxRecDepth 100000 in
theorem mi_X7_setNumber : Cond.instanceMethod yX7_setNumber ∈ lw_tbl := lwm 742 (by decide +kernel)
set_option maxRecDepth 100000 in
theorem mi_X7_setVan : Cond.instanceMethod yX7_setVan ∈ lw_tbl := lwm 749 (by decide +kernel)
set_option maxRecDepth 100000 in
theorem mi_X7_isVan : Cond.instanceMethod yX7_isVan ∈ lw_tbl := lwm 754 (by decide +kernel)
set_option maxRecDepth 100000 in
theorem mi_X7_of : Cond.instanceMethod yX7_of ∈ lw_tbl := lwm 758 (by decide +kernel)
set_option maxRecDepth 100000 in
theorem mi_X7_setProbe : Cond.instanceMethod yX7_setProbe ∈ lw_tbl := lwm 761 (by decide +kernel)
set_option maxRecDepth 100000 in
theorem mi_X7_at : Cond.instanceMethod yX7_at ∈ lw_tbl := lwm 772 (by decide +kernel)
set_option maxRecDepth 100000 in
theorem mi_X7_repair : Cond.instanceMethod yX7_repair ∈ lw_tbl := lwm 775 (by decide +kernel)
set_option maxRecDepth 100000 in
theorem mi_X7_repairs : Cond.instanceMethod yX7_repairs ∈ lw_tbl := lwm 780 (by decide +kernel)
set_option maxRecDepth 100000 in
theorem mi_X7_done : Cond.instanceMethod yX7_done ∈ lw_tbl := lwm 784 (by decide +kernel)
set_option maxRecDepth 100000 in
theorem mi_X7_loadPallet : Cond.instanceMethod yX7_loadPallet ∈ lw_tbl := lwm 787 (by decide +kernel)
set_option maxRecDepth 100000 in
theorem mi_X7_manyIn : Cond.instanceMethod yX7_manyIn ∈ lw_tbl := lwm 793 (by decide +kernel)
set_option maxRecDepth 100000 in
theorem mi_X7_its : Cond.instanceMethod yX7_its ∈ lw_tbl := lwm 797 (by decide +kernel)
set_option maxRecDepth 100000 in
theorem mi_X7_door : Cond.instanceMethod yX7_door ∈ lw_tbl := lwm 803 (by decide +kernel)
set_option maxRecDepth 100000 in
theorem mi_X7_doors : Cond.instanceMethod yX7_doors ∈ lw_tbl := lwm 808 (by decide +kernel)
set_option maxRecDepth 100000 in
theorem mi_X7_inVan : Cond.instanceMethod yX7_inVan ∈ lw_tbl := lwm 812 (by decide +kernel)
set_option maxRecDepth 100000 in
theorem mi_X7_pass : Cond.instanceMethod yX7_pass ∈ lw_tbl := lwm 818 (by decide +kernel)
set_option maxRecDepth 100000 in
theorem mi_X7_passes : Cond.instanceMethod yX7_passes ∈ lw_tbl := lwm 823 (by decide +kernel)
set_option maxRecDepth 100000 in
theorem mi_X7_minute : Cond.instanceMethod yX7_minute ∈ lw_tbl := lwm 827 (by decide +kernel)
set_option maxRecDepth 100000 in
theorem mi_X7_heats : Cond.instanceMethod yX7_heats ∈ lw_tbl := lwm 831 (by decide +kernel)
set_option maxRecDepth 100000 in
theorem mi_X7_reads : Cond.instanceMethod yX7_reads ∈ lw_tbl := lwm 835 (by decide +kernel)
set_option maxRecDepth 100000 in
theorem mi_X7_isOdd : Cond.instanceMethod yX7_isOdd ∈ lw_tbl := lwm 839 (by decide +kernel)
set_option maxRecDepth 100000 in
theorem mi_X7_reading : Cond.instanceMethod yX7_reading ∈ lw_tbl := lwm 843 (by decide +kernel)
set_option maxRecDepth 100000 in
theorem mi_X7_warms : Cond.instanceMethod yX7_warms ∈ lw_tbl := lwm 850 (by decide +kernel)
set_option maxRecDepth 100000 in
theorem mi_X7_told : Cond.instanceMethod yX7_told ∈ lw_tbl := lwm 854 (by decide +kernel)
set_option maxRecDepth 100000 in
theorem mi_X7_deliver : Cond.instanceMethod yX7_deliver ∈ lw_tbl := lwm 857 (by decide +kernel)
set_option maxRecDepth 100000 in
theorem mi_X7_delivers : Cond.instanceMethod yX7_delivers ∈ lw_tbl := lwm 862 (by decide +kernel)
set_option maxRecDepth 100000 in
theorem mi_X7_isPallet : Cond.instanceMethod yX7_isPallet ∈ lw_tbl := lwm 866 (by decide +kernel)
set_option maxRecDepth 100000 in
theorem mi_X7_detour : Cond.instanceMethod yX7_detour ∈ lw_tbl := lwm 869 (by decide +kernel)
set_option maxRecDepth 100000 in
theorem mi_X7_appendCharacter : Cond.instanceMethod yX7_appendCharacter ∈ lw_tbl := lwm 873 (by decide +kernel)
set_option maxRecDepth 100000 in
theorem mi_X7_clearText : Cond.instanceMethod yX7_clearText ∈ lw_tbl := lwm 877 (by decide +kernel)
set_option maxRecDepth 100000 in
theorem mi_X7_runScript : Cond.instanceMethod yX7_runScript ∈ lw_tbl := lwm 881 (by decide +kernel)
set_option maxRecDepth 100000 in
theorem mi_X7_isScript : Cond.instanceMethod yX7_isScript ∈ lw_tbl := lwm 886 (by decide +kernel)
set_option maxRecDepth 100000 in
theorem mi_X7_skips : Cond.instanceMethod yX7_skips ∈ lw_tbl := lwm 890 (by decide +kernel)
set_option maxRecDepth 100000 in
theorem mi_X7_isAt : Cond.instanceMethod yX7_isAt ∈ lw_tbl := lwm 894 (by decide +kernel)
set_option maxRecDepth 100000 in
theorem mi_X7_isCommand : Cond.instanceMethod yX7_isCommand ∈ lw_tbl := lwm 898 (by decide +kernel)
set_option maxRecDepth 100000 in
theorem mi_X7_isFigure : Cond.instanceMethod yX7_isFigure ∈ lw_tbl := lwm 902 (by decide +kernel)
set_option maxRecDepth 100000 in
theorem mi_X7_takes : Cond.instanceMethod yX7_takes ∈ lw_tbl := lwm 906 (by decide +kernel)
set_option maxRecDepth 100000 in
theorem mi_X7_does : Cond.instanceMethod yX7_does ∈ lw_tbl := lwm 911 (by decide +kernel)
set_option maxRecDepth 100000 in
theorem mi_X7_count : Cond.instanceMethod yX7_count ∈ lw_tbl := lwm 915 (by decide +kernel)
set_option maxRecDepth 100000 in
theorem mi_X7_van : Cond.instanceMethod yX7_van ∈ lw_tbl := lwm 919 (by decide +kernel)
set_option maxRecDepth 100000 in
theorem mi_X7_zone : Cond.instanceMethod yX7_zone ∈ lw_tbl := lwm 923 (by decide +kernel)
set_option maxRecDepth 100000 in
theorem mi_X7_pallet : Cond.instanceMethod yX7_pallet ∈ lw_tbl := lwm 927 (by decide +kernel)
set_option maxRecDepth 100000 in
theorem mi_X7_cause : Cond.instanceMethod yX7_cause ∈ lw_tbl := lwm 932 (by decide +kernel)
set_option maxRecDepth 100000 in
theorem mi_X7_claims : Cond.instanceMethod yX7_claims ∈ lw_tbl := lwm 935 (by decide +kernel)
set_option maxRecDepth 100000 in
theorem mi_X7_claim : Cond.instanceMethod yX7_claim ∈ lw_tbl := lwm 940 (by decide +kernel)
set_option maxRecDepth 100000 in
theorem mi_X7_log : Cond.instanceMethod yX7_log ∈ lw_tbl := lwm 943 (by decide +kernel)
set_option maxRecDepth 100000 in
theorem mi_X7_entry : Cond.instanceMethod yX7_entry ∈ lw_tbl := lwm 948 (by decide +kernel)
set_option maxRecDepth 100000 in
theorem mi_X7_warm : Cond.instanceMethod yX7_warm ∈ lw_tbl := lwm 952 (by decide +kernel)
set_option maxRecDepth 100000 in
theorem mi_X7_minutesLeft : Cond.instanceMethod yX7_minutesLeft ∈ lw_tbl := lwm 956 (by decide +kernel)
set_option maxRecDepth 100000 in
theorem mi_X7_longestOpen : Cond.instanceMethod yX7_longestOpen ∈ lw_tbl := lwm 960 (by decide +kernel)
set_option maxRecDepth 100000 in
theorem mi_X7_mayBeOpen : Cond.instanceMethod yX7_mayBeOpen ∈ lw_tbl := lwm 965 (by decide +kernel)
set_option maxRecDepth 100000 in
theorem mi_X7_undo : Cond.instanceMethod yX7_undo ∈ lw_tbl := lwm 968 (by decide +kernel)
set_option maxRecDepth 100000 in
theorem se_X6_addVan : Cond.selects (yX6_addVan).cls yX6_addVan yX6_addVan ∈ lw_tbl := lwm 292 (by decide +kernel)
set_option maxRecDepth 100000 in
theorem se_X3_copyFrom : Cond.selects (yX3_copyFrom).cls yX3_copyFrom yX3_copyFrom ∈ lw_tbl := lwm 300 (by decide +kernel)
set_option maxRecDepth 100000 in
theorem se_X4_copyFrom : Cond.selects (yX4_copyFrom).cls yX4_copyFrom yX4_copyFrom ∈ lw_tbl := lwm 304 (by decide +kernel)
set_option maxRecDepth 100000 in
theorem se_X5_copyFrom : Cond.selects (yX5_copyFrom).cls yX5_copyFrom yX5_copyFrom ∈ lw_tbl := lwm 308 (by decide +kernel)
set_option maxRecDepth 100000 in
theorem se_X1_copyFrom : Cond.selects (yX1_copyFrom).cls yX1_copyFrom yX1_copyFrom ∈ lw_tbl := lwm 312 (by decide +kernel)
set_option maxRecDepth 100000 in
theorem se_X3_putVan : Cond.selects (yX3_putVan).cls yX3_putVan yX3_putVan ∈ lw_tbl := lwm 316 (by decide +kernel)
set_option maxRecDepth 100000 in
theorem se_X4_start : Cond.selects (yX4_start).cls yX4_start yX4_start ∈ lw_tbl := lwm 328 (by decide +kernel)
set_option maxRecDepth 100000 in
theorem se_X5_mend : Cond.selects (yX5_mend).cls yX5_mend yX5_mend ∈ lw_tbl := lwm 332 (by decide +kernel)
set_option maxRecDepth 100000 in
theorem se_X6_setNumber : Cond.selects (yX6_setNumber).cls yX6_setNumber yX6_setNumber ∈ lw_tbl := lwm 347 (by decide +kernel)
set_option maxRecDepth 100000 in
theorem se_X3_changeNumber : Cond.selects (yX3_changeNumber).cls yX3_changeNumber yX3_changeNumber ∈ lw_tbl := lwm 351 (by decide +kernel)
set_option maxRecDepth 100000 in
theorem se_X6_setVan : Cond.selects (yX6_setVan).cls yX6_setVan yX6_setVan ∈ lw_tbl := lwm 356 (by decide +kernel)
set_option maxRecDepth 100000 in
theorem se_X3_changeVan : Cond.selects (yX3_changeVan).cls yX3_changeVan yX3_changeVan ∈ lw_tbl := lwm 360 (by decide +kernel)
set_option maxRecDepth 100000 in
theorem se_X3_hasVan : Cond.selects (yX3_hasVan).cls yX3_hasVan yX3_hasVan ∈ lw_tbl := lwm 364 (by decide +kernel)
set_option maxRecDepth 100000 in
theorem se_X6_setProbe : Cond.selects (yX6_setProbe).cls yX6_setProbe yX6_setProbe ∈ lw_tbl := lwm 368 (by decide +kernel)
set_option maxRecDepth 100000 in
theorem se_X3_changeProbe : Cond.selects (yX3_changeProbe).cls yX3_changeProbe yX3_changeProbe ∈ lw_tbl := lwm 372 (by decide +kernel)
set_option maxRecDepth 100000 in
theorem se_X3_hasZone : Cond.selects (yX3_hasZone).cls yX3_hasZone yX3_hasZone ∈ lw_tbl := lwm 376 (by decide +kernel)
set_option maxRecDepth 100000 in
theorem se_X6_repair : Cond.selects (yX6_repair).cls yX6_repair yX6_repair ∈ lw_tbl := lwm 383 (by decide +kernel)
set_option maxRecDepth 100000 in
theorem se_X3_mendProbe : Cond.selects (yX3_mendProbe).cls yX3_mendProbe yX3_mendProbe ∈ lw_tbl := lwm 387 (by decide +kernel)
set_option maxRecDepth 100000 in
theorem se_X6_loadPallet : Cond.selects (yX6_loadPallet).cls yX6_loadPallet yX6_loadPallet ∈ lw_tbl := lwm 392 (by decide +kernel)
set_option maxRecDepth 100000 in
theorem se_X3_putPallet : Cond.selects (yX3_putPallet).cls yX3_putPallet yX3_putPallet ∈ lw_tbl := lwm 396 (by decide +kernel)
set_option maxRecDepth 100000 in
theorem se_X1_isIn : Cond.selects (yX1_isIn).cls yX1_isIn yX1_isIn ∈ lw_tbl := lwm 411 (by decide +kernel)
set_option maxRecDepth 100000 in
theorem se_X1_start : Cond.selects (yX1_start).cls yX1_start yX1_start ∈ lw_tbl := lwm 415 (by decide +kernel)
set_option maxRecDepth 100000 in
theorem se_X6_door : Cond.selects (yX6_door).cls yX6_door yX6_door ∈ lw_tbl := lwm 419 (by decide +kernel)
set_option maxRecDepth 100000 in
theorem se_X3_turnDoor : Cond.selects (yX3_turnDoor).cls yX3_turnDoor yX3_turnDoor ∈ lw_tbl := lwm 423 (by decide +kernel)
set_option maxRecDepth 100000 in
theorem se_X3_palletsIn : Cond.selects (yX3_palletsIn).cls yX3_palletsIn yX3_palletsIn ∈ lw_tbl := lwm 427 (by decide +kernel)
set_option maxRecDepth 100000 in
theorem se_X6_pass : Cond.selects (yX6_pass).cls yX6_pass yX6_pass ∈ lw_tbl := lwm 437 (by decide +kernel)
set_option maxRecDepth 100000 in
theorem se_X3_letPass : Cond.selects (yX3_letPass).cls yX3_letPass yX3_letPass ∈ lw_tbl := lwm 441 (by decide +kernel)
set_option maxRecDepth 100000 in
theorem se_X3_minuteInVan : Cond.selects (yX3_minuteInVan).cls yX3_minuteInVan yX3_minuteInVan ∈ lw_tbl := lwm 445 (by decide +kernel)
set_option maxRecDepth 100000 in
theorem se_X4_changeTemperatures : Cond.selects (yX4_changeTemperatures).cls yX4_changeTemperatures yX4_changeTemperatures ∈ lw_tbl := lwm 449 (by decide +kernel)
set_option maxRecDepth 100000 in
theorem se_X5_coolTo : Cond.selects (yX5_coolTo).cls yX5_coolTo yX5_coolTo ∈ lw_tbl := lwm 455 (by decide +kernel)
set_option maxRecDepth 100000 in
theorem se_X4_mixAir : Cond.selects (yX4_mixAir).cls yX4_mixAir yX4_mixAir ∈ lw_tbl := lwm 462 (by decide +kernel)
set_option maxRecDepth 100000 in
theorem se_X4_findProbes : Cond.selects (yX4_findProbes).cls yX4_findProbes yX4_findProbes ∈ lw_tbl := lwm 466 (by decide +kernel)
set_option maxRecDepth 100000 in
theorem se_X5_reading : Cond.selects (yX5_reading).cls yX5_reading yX5_reading ∈ lw_tbl := lwm 474 (by decide +kernel)
set_option maxRecDepth 100000 in
theorem se_X1_addMinute : Cond.selects (yX1_addMinute).cls yX1_addMinute yX1_addMinute ∈ lw_tbl := lwm 481 (by decide +kernel)
set_option maxRecDepth 100000 in
theorem se_X4_toldIn : Cond.selects (yX4_toldIn).cls yX4_toldIn yX4_toldIn ∈ lw_tbl := lwm 485 (by decide +kernel)
set_option maxRecDepth 100000 in
theorem se_X0_write : Cond.selects (yX0_write).cls yX0_write yX0_write ∈ lw_tbl := lwm 492 (by decide +kernel)
set_option maxRecDepth 100000 in
theorem se_X0_row : Cond.selects (yX0_row).cls yX0_row yX0_row ∈ lw_tbl := lwm 496 (by decide +kernel)
set_option maxRecDepth 100000 in
theorem se_X6_deliver : Cond.selects (yX6_deliver).cls yX6_deliver yX6_deliver ∈ lw_tbl := lwm 501 (by decide +kernel)
set_option maxRecDepth 100000 in
theorem se_X3_handOver : Cond.selects (yX3_handOver).cls yX3_handOver yX3_handOver ∈ lw_tbl := lwm 505 (by decide +kernel)
set_option maxRecDepth 100000 in
theorem se_X3_hasPallet : Cond.selects (yX3_hasPallet).cls yX3_hasPallet yX3_hasPallet ∈ lw_tbl := lwm 509 (by decide +kernel)
set_option maxRecDepth 100000 in
theorem se_X1_isOverdue : Cond.selects (yX1_isOverdue).cls yX1_isOverdue yX1_isOverdue ∈ lw_tbl := lwm 513 (by decide +kernel)
set_option maxRecDepth 100000 in
theorem se_X6_detour : Cond.selects (yX6_detour).cls yX6_detour yX6_detour ∈ lw_tbl := lwm 517 (by decide +kernel)
set_option maxRecDepth 100000 in
theorem se_X3_bringBack : Cond.selects (yX3_bringBack).cls yX3_bringBack yX3_bringBack ∈ lw_tbl := lwm 521 (by decide +kernel)
set_option maxRecDepth 100000 in
theorem se_X6_appendCharacter : Cond.selects (yX6_appendCharacter).cls yX6_appendCharacter yX6_appendCharacter ∈ lw_tbl := lwm 537 (by decide +kernel)
set_option maxRecDepth 100000 in
theorem se_X2_append : Cond.selects (yX2_append).cls yX2_append yX2_append ∈ lw_tbl := lwm 541 (by decide +kernel)
set_option maxRecDepth 100000 in
theorem se_X6_clearText : Cond.selects (yX6_clearText).cls yX6_clearText yX6_clearText ∈ lw_tbl := lwm 548 (by decide +kernel)
set_option maxRecDepth 100000 in
theorem se_X6_runScript : Cond.selects (yX6_runScript).cls yX6_runScript yX6_runScript ∈ lw_tbl := lwm 552 (by decide +kernel)
set_option maxRecDepth 100000 in
theorem se_X2_read : Cond.selects (yX2_read).cls yX2_read yX2_read ∈ lw_tbl := lwm 556 (by decide +kernel)
set_option maxRecDepth 100000 in
theorem se_X6_count : Cond.selects (yX6_count).cls yX6_count yX6_count ∈ lw_tbl := lwm 588 (by decide +kernel)
set_option maxRecDepth 100000 in
theorem se_X3_foundProbes : Cond.selects (yX3_foundProbes).cls yX3_foundProbes yX3_foundProbes ∈ lw_tbl := lwm 592 (by decide +kernel)
set_option maxRecDepth 100000 in
theorem se_X6_van : Cond.selects (yX6_van).cls yX6_van yX6_van ∈ lw_tbl := lwm 596 (by decide +kernel)
set_option maxRecDepth 100000 in
theorem se_X6_zone : Cond.selects (yX6_zone).cls yX6_zone yX6_zone ∈ lw_tbl := lwm 602 (by decide +kernel)
set_option maxRecDepth 100000 in
theorem se_X6_pallet : Cond.selects (yX6_pallet).cls yX6_pallet yX6_pallet ∈ lw_tbl := lwm 609 (by decide +kernel)
set_option maxRecDepth 100000 in
theorem se_X1_property : Cond.selects (yX1_property).cls yX1_property yX1_property ∈ lw_tbl := lwm 614 (by decide +kernel)
set_option maxRecDepth 100000 in
theorem se_X1_cause : Cond.selects (yX1_cause).cls yX1_cause yX1_cause ∈ lw_tbl := lwm 618 (by decide +kernel)
set_option maxRecDepth 100000 in
theorem se_X1_wasRejected : Cond.selects (yX1_wasRejected).cls yX1_wasRejected yX1_wasRejected ∈ lw_tbl := lwm 622 (by decide +kernel)
set_option maxRecDepth 100000 in
theorem se_X6_claims : Cond.selects (yX6_claims).cls yX6_claims yX6_claims ∈ lw_tbl := lwm 627 (by decide +kernel)
set_option maxRecDepth 100000 in
theorem se_X1_claim : Cond.selects (yX1_claim).cls yX1_claim yX1_claim ∈ lw_tbl := lwm 631 (by decide +kernel)
set_option maxRecDepth 100000 in
theorem se_X1_claimBy : Cond.selects (yX1_claimBy).cls yX1_claimBy yX1_claimBy ∈ lw_tbl := lwm 635 (by decide +kernel)
set_option maxRecDepth 100000 in
theorem se_X6_log : Cond.selects (yX6_log).cls yX6_log yX6_log ∈ lw_tbl := lwm 640 (by decide +kernel)
set_option maxRecDepth 100000 in
theorem se_X6_warm : Cond.selects (yX6_warm).cls yX6_warm yX6_warm ∈ lw_tbl := lwm 646 (by decide +kernel)
set_option maxRecDepth 100000 in
theorem se_X6_minutesLeft : Cond.selects (yX6_minutesLeft).cls yX6_minutesLeft yX6_minutesLeft ∈ lw_tbl := lwm 651 (by decide +kernel)
set_option maxRecDepth 100000 in
theorem se_X6_longestOpen : Cond.selects (yX6_longestOpen).cls yX6_longestOpen yX6_longestOpen ∈ lw_tbl := lwm 658 (by decide +kernel)
set_option maxRecDepth 100000 in
theorem se_X3_hasOverdue : Cond.selects (yX3_hasOverdue).cls yX3_hasOverdue yX3_hasOverdue ∈ lw_tbl := lwm 666 (by decide +kernel)
set_option maxRecDepth 100000 in
theorem se_X6_undo : Cond.selects (yX6_undo).cls yX6_undo yX6_undo ∈ lw_tbl := lwm 670 (by decide +kernel)
set_option maxRecDepth 100000 in
theorem se_X7_addVan : Cond.selects (yX7_addVan).cls yX7_addVan yX7_addVan ∈ lw_tbl := lwm 717 (by decide +kernel)
set_option maxRecDepth 100000 in
theorem se_X7_setNumber : Cond.selects (yX7_setNumber).cls yX7_setNumber yX7_setNumber ∈ lw_tbl := lwm 743 (by decide +kernel)
set_option maxRecDepth 100000 in
theorem se_X7_setVan : Cond.selects (yX7_setVan).cls yX7_setVan yX7_setVan ∈ lw_tbl := lwm 750 (by decide +kernel)
set_option maxRecDepth 100000 in
theorem se_X7_setProbe : Cond.selects (yX7_setProbe).cls yX7_setProbe yX7_setProbe ∈ lw_tbl := lwm 762 (by decide +kernel)
set_option maxRecDepth 100000 in
theorem se_X7_repair : Cond.selects (yX7_repair).cls yX7_repair yX7_repair ∈ lw_tbl := lwm 776 (by decide +kernel)
set_option maxRecDepth 100000 in
theorem se_X7_loadPallet : Cond.selects (yX7_loadPallet).cls yX7_loadPallet yX7_loadPallet ∈ lw_tbl := lwm 788 (by decide +kernel)
set_option maxRecDepth 100000 in
theorem se_X7_door : Cond.selects (yX7_door).cls yX7_door yX7_door ∈ lw_tbl := lwm 804 (by decide +kernel)
set_option maxRecDepth 100000 in
theorem se_X7_pass : Cond.selects (yX7_pass).cls yX7_pass yX7_pass ∈ lw_tbl := lwm 819 (by decide +kernel)
set_option maxRecDepth 100000 in
theorem se_X7_deliver : Cond.selects (yX7_deliver).cls yX7_deliver yX7_deliver ∈ lw_tbl := lwm 858 (by decide +kernel)
set_option maxRecDepth 100000 in
theorem se_X7_detour : Cond.selects (yX7_detour).cls yX7_detour yX7_detour ∈ lw_tbl := lwm 870 (by decide +kernel)
set_option maxRecDepth 100000 in
theorem se_X7_appendCharacter : Cond.selects (yX7_appendCharacter).cls yX7_appendCharacter yX7_appendCharacter ∈ lw_tbl := lwm 874 (by decide +kernel)
set_option maxRecDepth 100000 in
theorem se_X7_clearText : Cond.selects (yX7_clearText).cls yX7_clearText yX7_clearText ∈ lw_tbl := lwm 878 (by decide +kernel)
set_option maxRecDepth 100000 in
theorem se_X7_runScript : Cond.selects (yX7_runScript).cls yX7_runScript yX7_runScript ∈ lw_tbl := lwm 882 (by decide +kernel)
set_option maxRecDepth 100000 in
theorem se_X7_count : Cond.selects (yX7_count).cls yX7_count yX7_count ∈ lw_tbl := lwm 916 (by decide +kernel)
set_option maxRecDepth 100000 in
theorem se_X7_van : Cond.selects (yX7_van).cls yX7_van yX7_van ∈ lw_tbl := lwm 920 (by decide +kernel)
set_option maxRecDepth 100000 in
theorem se_X7_zone : Cond.selects (yX7_zone).cls yX7_zone yX7_zone ∈ lw_tbl := lwm 924 (by decide +kernel)
set_option maxRecDepth 100000 in
theorem se_X7_pallet : Cond.selects (yX7_pallet).cls yX7_pallet yX7_pallet ∈ lw_tbl := lwm 928 (by decide +kernel)
set_option maxRecDepth 100000 in
theorem se_X7_claims : Cond.selects (yX7_claims).cls yX7_claims yX7_claims ∈ lw_tbl := lwm 936 (by decide +kernel)
set_option maxRecDepth 100000 in
theorem se_X7_log : Cond.selects (yX7_log).cls yX7_log yX7_log ∈ lw_tbl := lwm 944 (by decide +kernel)
set_option maxRecDepth 100000 in
theorem se_X7_warm : Cond.selects (yX7_warm).cls yX7_warm yX7_warm ∈ lw_tbl := lwm 953 (by decide +kernel)
set_option maxRecDepth 100000 in
theorem se_X7_minutesLeft : Cond.selects (yX7_minutesLeft).cls yX7_minutesLeft yX7_minutesLeft ∈ lw_tbl := lwm 957 (by decide +kernel)
set_option maxRecDepth 100000 in
theorem se_X7_longestOpen : Cond.selects (yX7_longestOpen).cls yX7_longestOpen yX7_longestOpen ∈ lw_tbl := lwm 961 (by decide +kernel)
set_option maxRecDepth 100000 in
theorem se_X7_undo : Cond.selects (yX7_undo).cls yX7_undo yX7_undo ∈ lw_tbl := lwm 969 (by decide +kernel)
set_option maxRecDepth 100000 in
theorem se_X6_noteState : Cond.selects (yX6_noteState).cls yX6_noteState yX6_noteState ∈ lw_tbl := lwm 0 (by decide +kernel)
set_option maxRecDepth 100000 in
theorem se_X6_kept : Cond.selects (yX6_kept).cls yX6_kept yX6_kept ∈ lw_tbl := lwm 1 (by decide +kernel)
set_option maxRecDepth 100000 in
theorem se_X3_palletsInZone : Cond.selects (yX3_palletsInZone).cls yX3_palletsInZone yX3_palletsInZone ∈ lw_tbl := lwm 2 (by decide +kernel)
set_option maxRecDepth 100000 in
theorem se_X4_isOdd : Cond.selects (yX4_isOdd).cls yX4_isOdd yX4_isOdd ∈ lw_tbl := lwm 3 (by decide +kernel)
set_option maxRecDepth 100000 in
theorem se_X3_shareByValues : Cond.selects (yX3_shareByValues).cls yX3_shareByValues yX3_shareByValues ∈ lw_tbl := lwm 4 (by decide +kernel)
set_option maxRecDepth 100000 in
theorem se_X3_shareRest : Cond.selects (yX3_shareRest).cls yX3_shareRest yX3_shareRest ∈ lw_tbl := lwm 5 (by decide +kernel)
set_option maxRecDepth 100000 in
theorem se_X2_skipSpaces : Cond.selects (yX2_skipSpaces).cls yX2_skipSpaces yX2_skipSpaces ∈ lw_tbl := lwm 6 (by decide +kernel)
set_option maxRecDepth 100000 in
theorem se_X2_readCommand : Cond.selects (yX2_readCommand).cls yX2_readCommand yX2_readCommand ∈ lw_tbl := lwm 7 (by decide +kernel)
set_option maxRecDepth 100000 in
theorem se_X2_readNumber : Cond.selects (yX2_readNumber).cls yX2_readNumber yX2_readNumber ∈ lw_tbl := lwm 8 (by decide +kernel)
set_option maxRecDepth 100000 in
theorem se_X2_readSign : Cond.selects (yX2_readSign).cls yX2_readSign yX2_readSign ∈ lw_tbl := lwm 9 (by decide +kernel)
set_option maxRecDepth 100000 in
theorem se_X6_runCommand : Cond.selects (yX6_runCommand).cls yX6_runCommand yX6_runCommand ∈ lw_tbl := lwm 10 (by decide +kernel)
set_option maxRecDepth 100000 in
theorem se_X6_mayBeOpen : Cond.selects (yX6_mayBeOpen).cls yX6_mayBeOpen yX6_mayBeOpen ∈ lw_tbl := lwm 11 (by decide +kernel)
set_option maxRecDepth 100000 in
theorem se_X7_hold : Cond.selects (yX7_hold).cls yX7_hold yX7_hold ∈ lw_tbl := lwm 12 (by decide +kernel)
set_option maxRecDepth 100000 in
theorem se_X7_ends : Cond.selects (yX7_ends).cls yX7_ends yX7_ends ∈ lw_tbl := lwm 13 (by decide +kernel)
set_option maxRecDepth 100000 in
theorem se_X7_isVan : Cond.selects (yX7_isVan).cls yX7_isVan yX7_isVan ∈ lw_tbl := lwm 14 (by decide +kernel)
set_option maxRecDepth 100000 in
theorem se_X7_of : Cond.selects (yX7_of).cls yX7_of yX7_of ∈ lw_tbl := lwm 15 (by decide +kernel)
set_option maxRecDepth 100000 in
theorem se_X7_at : Cond.selects (yX7_at).cls yX7_at yX7_at ∈ lw_tbl := lwm 16 (by decide +kernel)
set_option maxRecDepth 100000 in
theorem se_X7_repairs : Cond.selects (yX7_repairs).cls yX7_repairs yX7_repairs ∈ lw_tbl := lwm 17 (by decide +kernel)
set_option maxRecDepth 100000 in
theorem se_X7_done : Cond.selects (yX7_done).cls yX7_done yX7_done ∈ lw_tbl := lwm 18 (by decide +kernel)
set_option maxRecDepth 100000 in
theorem se_X7_manyIn : Cond.selects (yX7_manyIn).cls yX7_manyIn yX7_manyIn ∈ lw_tbl := lwm 19 (by decide +kernel)
set_option maxRecDepth 100000 in
theorem se_X7_its : Cond.selects (yX7_its).cls yX7_its yX7_its ∈ lw_tbl := lwm 20 (by decide +kernel)
set_option maxRecDepth 100000 in
theorem se_X7_doors : Cond.selects (yX7_doors).cls yX7_doors yX7_doors ∈ lw_tbl := lwm 21 (by decide +kernel)
set_option maxRecDepth 100000 in
theorem se_X7_inVan : Cond.selects (yX7_inVan).cls yX7_inVan yX7_inVan ∈ lw_tbl := lwm 22 (by decide +kernel)
set_option maxRecDepth 100000 in
theorem se_X7_passes : Cond.selects (yX7_passes).cls yX7_passes yX7_passes ∈ lw_tbl := lwm 23 (by decide +kernel)
set_option maxRecDepth 100000 in
theorem se_X7_minute : Cond.selects (yX7_minute).cls yX7_minute yX7_minute ∈ lw_tbl := lwm 24 (by decide +kernel)
set_option maxRecDepth 100000 in
theorem se_X7_heats : Cond.selects (yX7_heats).cls yX7_heats yX7_heats ∈ lw_tbl := lwm 25 (by decide +kernel)
set_option maxRecDepth 100000 in
theorem se_X7_reads : Cond.selects (yX7_reads).cls yX7_reads yX7_reads ∈ lw_tbl := lwm 26 (by decide +kernel)
set_option maxRecDepth 100000 in
theorem se_X7_isOdd : Cond.selects (yX7_isOdd).cls yX7_isOdd yX7_isOdd ∈ lw_tbl := lwm 27 (by decide +kernel)
set_option maxRecDepth 100000 in
theorem se_X7_reading : Cond.selects (yX7_reading).cls yX7_reading yX7_reading ∈ lw_tbl := lwm 28 (by decide +kernel)
set_option maxRecDepth 100000 in
theorem se_X7_warms : Cond.selects (yX7_warms).cls yX7_warms yX7_warms ∈ lw_tbl := lwm 29 (by decide +kernel)
set_option maxRecDepth 100000 in
theorem se_X7_told : Cond.selects (yX7_told).cls yX7_told yX7_told ∈ lw_tbl := lwm 30 (by decide +kernel)
set_option maxRecDepth 100000 in
theorem se_X7_delivers : Cond.selects (yX7_delivers).cls yX7_delivers yX7_delivers ∈ lw_tbl := lwm 31 (by decide +kernel)
set_option maxRecDepth 100000 in
theorem se_X7_isPallet : Cond.selects (yX7_isPallet).cls yX7_isPallet yX7_isPallet ∈ lw_tbl := lwm 32 (by decide +kernel)
set_option maxRecDepth 100000 in
theorem se_X7_isScript : Cond.selects (yX7_isScript).cls yX7_isScript yX7_isScript ∈ lw_tbl := lwm 33 (by decide +kernel)
set_option maxRecDepth 100000 in
theorem se_X7_skips : Cond.selects (yX7_skips).cls yX7_skips yX7_skips ∈ lw_tbl := lwm 34 (by decide +kernel)
set_option maxRecDepth 100000 in
theorem se_X7_isAt : Cond.selects (yX7_isAt).cls yX7_isAt yX7_isAt ∈ lw_tbl := lwm 35 (by decide +kernel)
set_option maxRecDepth 100000 in
theorem se_X7_isCommand : Cond.selects (yX7_isCommand).cls yX7_isCommand yX7_isCommand ∈ lw_tbl := lwm 36 (by decide +kernel)
set_option maxRecDepth 100000 in
theorem se_X7_isFigure : Cond.selects (yX7_isFigure).cls yX7_isFigure yX7_isFigure ∈ lw_tbl := lwm 37 (by decide +kernel)
set_option maxRecDepth 100000 in
theorem se_X7_takes : Cond.selects (yX7_takes).cls yX7_takes yX7_takes ∈ lw_tbl := lwm 38 (by decide +kernel)
set_option maxRecDepth 100000 in
theorem se_X7_does : Cond.selects (yX7_does).cls yX7_does yX7_does ∈ lw_tbl := lwm 39 (by decide +kernel)
set_option maxRecDepth 100000 in
theorem se_X7_cause : Cond.selects (yX7_cause).cls yX7_cause yX7_cause ∈ lw_tbl := lwm 40 (by decide +kernel)
set_option maxRecDepth 100000 in
theorem se_X7_claim : Cond.selects (yX7_claim).cls yX7_claim yX7_claim ∈ lw_tbl := lwm 41 (by decide +kernel)
set_option maxRecDepth 100000 in
theorem se_X7_entry : Cond.selects (yX7_entry).cls yX7_entry yX7_entry ∈ lw_tbl := lwm 42 (by decide +kernel)
set_option maxRecDepth 100000 in
theorem se_X7_mayBeOpen : Cond.selects (yX7_mayBeOpen).cls yX7_mayBeOpen yX7_mayBeOpen ∈ lw_tbl := lwm 43 (by decide +kernel)
set_option maxRecDepth 100000 in
theorem cd_X6_init : Cond.code yX6_init cX6_init 2 none ∈ lw_tbl := lwm 59 rfl
set_option maxRecDepth 100000 in
theorem cd_X3_init : Cond.code yX3_init cX3_init 2 none ∈ lw_tbl := lwm 67 rfl
set_option maxRecDepth 100000 in
theorem cd_X4_init : Cond.code yX4_init cX4_init 2 none ∈ lw_tbl := lwm 76 rfl
set_option maxRecDepth 100000 in
theorem cd_X5_init : Cond.code yX5_init cX5_init 1 none ∈ lw_tbl := lwm 83 rfl
set_option maxRecDepth 100000 in
theorem cd_X1_init : Cond.code yX1_init cX1_init 1 none ∈ lw_tbl := lwm 144 rfl
set_option maxRecDepth 100000 in
theorem cd_X0_init : Cond.code yX0_init cX0_init 1 none ∈ lw_tbl := lwm 222 rfl
set_option maxRecDepth 100000 in
theorem cd_X2_init : Cond.code yX2_init cX2_init 1 none ∈ lw_tbl := lwm 238 rfl
set_option maxRecDepth 100000 in
theorem cd_X6_addVan : Cond.code yX6_addVan cX6_addVan 3 (some .int) ∈ lw_tbl := lwm 293 rfl
set_option maxRecDepth 100000 in
theorem cd_X6_noteState : Cond.code yX6_noteState cX6_noteState 1 none ∈ lw_tbl := lwm 297 rfl
set_option maxRecDepth 100000 in
theorem cd_X3_copyFrom : Cond.code yX3_copyFrom cX3_copyFrom 3 none ∈ lw_tbl := lwm 301 rfl
set_option maxRecDepth 100000 in
theorem cd_X4_copyFrom : Cond.code yX4_copyFrom cX4_copyFrom 3 none ∈ lw_tbl := lwm 305 rfl
set_option maxRecDepth 100000 in
theorem cd_X5_copyFrom : Cond.code yX5_copyFrom cX5_copyFrom 2 none ∈ lw_tbl := lwm 309 rfl
set_option maxRecDepth 100000 in
theorem cd_X1_copyFrom : Cond.code yX1_copyFrom cX1_copyFrom 2 none ∈ lw_tbl := lwm 313 rfl
set_option maxRecDepth 100000 in
theorem cd_X3_putVan : Cond.code yX3_putVan cX3_putVan 4 (some .int) ∈ lw_tbl := lwm 317 rfl
set_option maxRecDepth 100000 in
theorem cd_X6_isVanSetting : Cond.code yX6_isVanSetting cX6_isVanSetting 2 (some .boolean) ∈ lw_tbl := lwm 320 rfl
set_option maxRecDepth 100000 in
theorem cd_X6_isWithin : Cond.code yX6_isWithin cX6_isWithin 3 (some .boolean) ∈ lw_tbl := lwm 323 rfl
set_option maxRecDepth 100000 in
theorem cd_X4_start : Cond.code yX4_start cX4_start 5 none ∈ lw_tbl := lwm 329 rfl
set_option maxRecDepth 100000 in
theorem cd_X5_mend : Cond.code yX5_mend cX5_mend 1 none ∈ lw_tbl := lwm 333 rfl
set_option maxRecDepth 100000 in
theorem cd_X6_kept : Cond.code yX6_kept cX6_kept 2 (some .int) ∈ lw_tbl := lwm 337 rfl
set_option maxRecDepth 100000 in
theorem cd_X6_isError : Cond.code yX6_isError cX6_isError 1 (some .boolean) ∈ lw_tbl := lwm 340 rfl
set_option maxRecDepth 100000 in
theorem cd_J9_min_7cf53 : Cond.code yJ9_min_7cf53 cJ9_min_7cf53 2 (some .int) ∈ lw_tbl := lwm 344 rfl
set_option maxRecDepth 100000 in
theorem cd_X6_setNumber : Cond.code yX6_setNumber cX6_setNumber 3 (some .int) ∈ lw_tbl := lwm 348 rfl
set_option maxRecDepth 100000 in
theorem cd_X3_changeNumber : Cond.code yX3_changeNumber cX3_changeNumber 4 (some .int) ∈ lw_tbl := lwm 352 rfl
set_option maxRecDepth 100000 in
theorem cd_X6_setVan : Cond.code yX6_setVan cX6_setVan 4 (some .int) ∈ lw_tbl := lwm 357 rfl
set_option maxRecDepth 100000 in
theorem cd_X3_changeVan : Cond.code yX3_changeVan cX3_changeVan 5 (some .int) ∈ lw_tbl := lwm 361 rfl
set_option maxRecDepth 100000 in
theorem cd_X3_hasVan : Cond.code yX3_hasVan cX3_hasVan 2 (some .boolean) ∈ lw_tbl := lwm 365 rfl
set_option maxRecDepth 100000 in
theorem cd_X6_setProbe : Cond.code yX6_setProbe cX6_setProbe 5 (some .int) ∈ lw_tbl := lwm 369 rfl
set_option maxRecDepth 100000 in
theorem cd_X3_changeProbe : Cond.code yX3_changeProbe cX3_changeProbe 7 (some .int) ∈ lw_tbl := lwm 373 rfl
set_option maxRecDepth 100000 in
theorem cd_X3_hasZone : Cond.code yX3_hasZone cX3_hasZone 3 (some .boolean) ∈ lw_tbl := lwm 377 rfl
set_option maxRecDepth 100000 in
theorem cd_X6_isProbeSetting : Cond.code yX6_isProbeSetting cX6_isProbeSetting 2 (some .boolean) ∈ lw_tbl := lwm 380 rfl
set_option maxRecDepth 100000 in
theorem cd_X6_repair : Cond.code yX6_repair cX6_repair 3 (some .int) ∈ lw_tbl := lwm 384 rfl
set_option maxRecDepth 100000 in
theorem cd_X3_mendProbe : Cond.code yX3_mendProbe cX3_mendProbe 5 (some .int) ∈ lw_tbl := lwm 388 rfl
set_option maxRecDepth 100000 in
theorem cd_X6_loadPallet : Cond.code yX6_loadPallet cX6_loadPallet 6 (some .int) ∈ lw_tbl := lwm 393 rfl
set_option maxRecDepth 100000 in
theorem cd_X3_putPallet : Cond.code yX3_putPallet cX3_putPallet 7 (some .int) ∈ lw_tbl := lwm 397 rfl
set_option maxRecDepth 100000 in
theorem cd_X6_isLimit : Cond.code yX6_isLimit cX6_isLimit 1 (some .boolean) ∈ lw_tbl := lwm 400 rfl
set_option maxRecDepth 100000 in
theorem cd_X6_isPrice : Cond.code yX6_isPrice cX6_isPrice 1 (some .boolean) ∈ lw_tbl := lwm 403 rfl
set_option maxRecDepth 100000 in
theorem cd_X3_palletsInZone : Cond.code yX3_palletsInZone cX3_palletsInZone 5 (some .int) ∈ lw_tbl := lwm 408 rfl
set_option maxRecDepth 100000 in
theorem cd_X1_isIn : Cond.code yX1_isIn cX1_isIn 2 (some .boolean) ∈ lw_tbl := lwm 412 rfl
set_option maxRecDepth 100000 in
theorem cd_X1_start : Cond.code yX1_start cX1_start 6 none ∈ lw_tbl := lwm 416 rfl
set_option maxRecDepth 100000 in
theorem cd_X6_door : Cond.code yX6_door cX6_door 3 (some .int) ∈ lw_tbl := lwm 420 rfl
set_option maxRecDepth 100000 in
theorem cd_X3_turnDoor : Cond.code yX3_turnDoor cX3_turnDoor 4 (some .int) ∈ lw_tbl := lwm 424 rfl
set_option maxRecDepth 100000 in
theorem cd_X3_palletsIn : Cond.code yX3_palletsIn cX3_palletsIn 4 (some .int) ∈ lw_tbl := lwm 428 rfl
set_option maxRecDepth 100000 in
theorem cd_J6_bitCount_0f7a4 : Cond.code yJ6_bitCount_0f7a4 cJ6_bitCount_0f7a4 1 (some .int) ∈ lw_tbl := lwm 431 rfl
set_option maxRecDepth 100000 in
theorem cd_X6_pass : Cond.code yX6_pass cX6_pass 2 (some .int) ∈ lw_tbl := lwm 438 rfl
set_option maxRecDepth 100000 in
theorem cd_X3_letPass : Cond.code yX3_letPass cX3_letPass 6 (some .int) ∈ lw_tbl := lwm 442 rfl
set_option maxRecDepth 100000 in
theorem cd_X3_minuteInVan : Cond.code yX3_minuteInVan cX3_minuteInVan 5 (some .int) ∈ lw_tbl := lwm 446 rfl
set_option maxRecDepth 100000 in
theorem cd_X4_changeTemperatures : Cond.code yX4_changeTemperatures cX4_changeTemperatures 4 none ∈ lw_tbl := lwm 450 rfl
set_option maxRecDepth 100000 in
theorem cd_X5_coolTo : Cond.code yX5_coolTo cX5_coolTo 3 none ∈ lw_tbl := lwm 456 rfl
set_option maxRecDepth 100000 in
theorem cd_J9_max_7cf53 : Cond.code yJ9_max_7cf53 cJ9_max_7cf53 2 (some .int) ∈ lw_tbl := lwm 459 rfl
set_option maxRecDepth 100000 in
theorem cd_X4_mixAir : Cond.code yX4_mixAir cX4_mixAir 3 none ∈ lw_tbl := lwm 463 rfl
set_option maxRecDepth 100000 in
theorem cd_X4_findProbes : Cond.code yX4_findProbes cX4_findProbes 6 (some .int) ∈ lw_tbl := lwm 467 rfl
set_option maxRecDepth 100000 in
theorem cd_X4_isOdd : Cond.code yX4_isOdd cX4_isOdd 6 (some .boolean) ∈ lw_tbl := lwm 471 rfl
set_option maxRecDepth 100000 in
theorem cd_X5_reading : Cond.code yX5_reading cX5_reading 1 (some .int) ∈ lw_tbl := lwm 475 rfl
set_option maxRecDepth 100000 in
theorem cd_J9_abs_0f7a4 : Cond.code yJ9_abs_0f7a4 cJ9_abs_0f7a4 1 (some .int) ∈ lw_tbl := lwm 478 rfl
set_option maxRecDepth 100000 in
theorem cd_X1_addMinute : Cond.code yX1_addMinute cX1_addMinute 2 none ∈ lw_tbl := lwm 482 rfl
set_option maxRecDepth 100000 in
theorem cd_X4_toldIn : Cond.code yX4_toldIn cX4_toldIn 4 (some .int) ∈ lw_tbl := lwm 486 rfl
set_option maxRecDepth 100000 in
theorem cd_J9_floorDiv_7cf53 : Cond.code yJ9_floorDiv_7cf53 cJ9_floorDiv_7cf53 3 (some .int) ∈ lw_tbl := lwm 489 rfl
set_option maxRecDepth 100000 in
theorem cd_X0_write : Cond.code yX0_write cX0_write 5 none ∈ lw_tbl := lwm 493 rfl
set_option maxRecDepth 100000 in
theorem cd_X0_row : Cond.code yX0_row cX0_row 5 (some (.array .int)) ∈ lw_tbl := lwm 497 rfl
set_option maxRecDepth 100000 in
theorem cd_X6_deliver : Cond.code yX6_deliver cX6_deliver 2 (some .int) ∈ lw_tbl := lwm 502 rfl
set_option maxRecDepth 100000 in
theorem cd_X3_handOver : Cond.code yX3_handOver cX3_handOver 3 (some .int) ∈ lw_tbl := lwm 506 rfl
set_option maxRecDepth 100000 in
theorem cd_X3_hasPallet : Cond.code yX3_hasPallet cX3_hasPallet 2 (some .boolean) ∈ lw_tbl := lwm 510 rfl
set_option maxRecDepth 100000 in
theorem cd_X1_isOverdue : Cond.code yX1_isOverdue cX1_isOverdue 1 (some .boolean) ∈ lw_tbl := lwm 514 rfl
set_option maxRecDepth 100000 in
theorem cd_X6_detour : Cond.code yX6_detour cX6_detour 3 (some .int) ∈ lw_tbl := lwm 518 rfl
set_option maxRecDepth 100000 in
theorem cd_X3_bringBack : Cond.code yX3_bringBack cX3_bringBack 4 (some .int) ∈ lw_tbl := lwm 522 rfl
set_option maxRecDepth 100000 in
theorem cd_X3_isIn : Cond.code yX3_isIn cX3_isIn 2 (some .boolean) ∈ lw_tbl := lwm 525 rfl
set_option maxRecDepth 100000 in
theorem cd_X3_shareByValues : Cond.code yX3_shareByValues cX3_shareByValues 6 none ∈ lw_tbl := lwm 529 rfl
set_option maxRecDepth 100000 in
theorem cd_X3_shareRest : Cond.code yX3_shareRest cX3_shareRest 6 (some .int) ∈ lw_tbl := lwm 533 rfl
set_option maxRecDepth 100000 in
theorem cd_X6_appendCharacter : Cond.code yX6_appendCharacter cX6_appendCharacter 2 (some .int) ∈ lw_tbl := lwm 538 rfl
set_option maxRecDepth 100000 in
theorem cd_X2_append : Cond.code yX2_append cX2_append 2 (some .int) ∈ lw_tbl := lwm 542 rfl
set_option maxRecDepth 100000 in
theorem cd_X6_clearText : Cond.code yX6_clearText cX6_clearText 2 (some .int) ∈ lw_tbl := lwm 549 rfl
set_option maxRecDepth 100000 in
theorem cd_X6_runScript : Cond.code yX6_runScript cX6_runScript 4 (some .int) ∈ lw_tbl := lwm 553 rfl
set_option maxRecDepth 100000 in
theorem cd_X2_read : Cond.code yX2_read cX2_read 1 (some .int) ∈ lw_tbl := lwm 557 rfl
set_option maxRecDepth 100000 in
theorem cd_X2_skipSpaces : Cond.code yX2_skipSpaces cX2_skipSpaces 1 none ∈ lw_tbl := lwm 561 rfl
set_option maxRecDepth 100000 in
theorem cd_X2_readCommand : Cond.code yX2_readCommand cX2_readCommand 3 (some .boolean) ∈ lw_tbl := lwm 565 rfl
set_option maxRecDepth 100000 in
theorem cd_X2_isLetter : Cond.code yX2_isLetter cX2_isLetter 1 (some .boolean) ∈ lw_tbl := lwm 568 rfl
set_option maxRecDepth 100000 in
theorem cd_X2_readNumber : Cond.code yX2_readNumber cX2_readNumber 5 (some .int) ∈ lw_tbl := lwm 572 rfl
set_option maxRecDepth 100000 in
theorem cd_X2_isDigit : Cond.code yX2_isDigit cX2_isDigit 1 (some .boolean) ∈ lw_tbl := lwm 575 rfl
set_option maxRecDepth 100000 in
theorem cd_X2_readSign : Cond.code yX2_readSign cX2_readSign 2 (some .boolean) ∈ lw_tbl := lwm 579 rfl
set_option maxRecDepth 100000 in
theorem cd_X6_runCommand : Cond.code yX6_runCommand cX6_runCommand 3 (some .int) ∈ lw_tbl := lwm 584 rfl
set_option maxRecDepth 100000 in
theorem cd_X6_count : Cond.code yX6_count cX6_count 2 (some .int) ∈ lw_tbl := lwm 589 rfl
set_option maxRecDepth 100000 in
theorem cd_X3_foundProbes : Cond.code yX3_foundProbes cX3_foundProbes 4 (some .int) ∈ lw_tbl := lwm 593 rfl
set_option maxRecDepth 100000 in
theorem cd_X6_van : Cond.code yX6_van cX6_van 4 (some .int) ∈ lw_tbl := lwm 597 rfl
set_option maxRecDepth 100000 in
theorem cd_X6_zone : Cond.code yX6_zone cX6_zone 5 (some .int) ∈ lw_tbl := lwm 603 rfl
set_option maxRecDepth 100000 in
theorem cd_X6_pallet : Cond.code yX6_pallet cX6_pallet 3 (some .int) ∈ lw_tbl := lwm 610 rfl
set_option maxRecDepth 100000 in
theorem cd_X1_property : Cond.code yX1_property cX1_property 2 (some .int) ∈ lw_tbl := lwm 615 rfl
set_option maxRecDepth 100000 in
theorem cd_X1_cause : Cond.code yX1_cause cX1_cause 1 (some .int) ∈ lw_tbl := lwm 619 rfl
set_option maxRecDepth 100000 in
theorem cd_X1_wasRejected : Cond.code yX1_wasRejected cX1_wasRejected 1 (some .boolean) ∈ lw_tbl := lwm 623 rfl
set_option maxRecDepth 100000 in
theorem cd_X6_claims : Cond.code yX6_claims cX6_claims 5 (some .int) ∈ lw_tbl := lwm 628 rfl
set_option maxRecDepth 100000 in
theorem cd_X1_claim : Cond.code yX1_claim cX1_claim 1 (some .int) ∈ lw_tbl := lwm 632 rfl
set_option maxRecDepth 100000 in
theorem cd_X1_claimBy : Cond.code yX1_claimBy cX1_claimBy 5 (some .int) ∈ lw_tbl := lwm 636 rfl
set_option maxRecDepth 100000 in
theorem cd_X6_log : Cond.code yX6_log cX6_log 5 (some .int) ∈ lw_tbl := lwm 641 rfl
set_option maxRecDepth 100000 in
theorem cd_X6_warm : Cond.code yX6_warm cX6_warm 11 (some .int) ∈ lw_tbl := lwm 647 rfl
set_option maxRecDepth 100000 in
theorem cd_X6_minutesLeft : Cond.code yX6_minutesLeft cX6_minutesLeft 4 (some .int) ∈ lw_tbl := lwm 652 rfl
set_option maxRecDepth 100000 in
theorem cd_X6_longestOpen : Cond.code yX6_longestOpen cX6_longestOpen 3 (some .int) ∈ lw_tbl := lwm 659 rfl
set_option maxRecDepth 100000 in
theorem cd_X6_mayBeOpen : Cond.code yX6_mayBeOpen cX6_mayBeOpen 4 (some .boolean) ∈ lw_tbl := lwm 663 rfl
set_option maxRecDepth 100000 in
theorem cd_X3_hasOverdue : Cond.code yX3_hasOverdue cX3_hasOverdue 3 (some .boolean) ∈ lw_tbl := lwm 667 rfl
set_option maxRecDepth 100000 in
theorem cd_X6_undo : Cond.code yX6_undo cX6_undo 1 (some .int) ∈ lw_tbl := lwm 671 rfl
set_option maxRecDepth 100000 in
theorem cd_X7_init : Cond.code yX7_init cX7_init 1 none ∈ lw_tbl := lwm 676 rfl
set_option maxRecDepth 100000 in
theorem cd_X7_addVan : Cond.code yX7_addVan cX7_addVan 5 (some .int) ∈ lw_tbl := lwm 718 rfl
set_option maxRecDepth 100000 in
theorem cd_X7_isCold : Cond.code yX7_isCold cX7_isCold 2 (some .boolean) ∈ lw_tbl := lwm 721 rfl
set_option maxRecDepth 100000 in
theorem cd_X7_in : Cond.code yX7_in cX7_in 3 (some .boolean) ∈ lw_tbl := lwm 724 rfl
set_option maxRecDepth 100000 in
theorem cd_X7_hold : Cond.code yX7_hold cX7_hold 1 none ∈ lw_tbl := lwm 730 rfl
set_option maxRecDepth 100000 in
theorem cd_X7_copies : Cond.code yX7_copies cX7_copies 3 none ∈ lw_tbl := lwm 733 rfl
set_option maxRecDepth 100000 in
theorem cd_X7_zoneSpot : Cond.code yX7_zoneSpot cX7_zoneSpot 2 (some .int) ∈ lw_tbl := lwm 736 rfl
set_option maxRecDepth 100000 in
theorem cd_X7_ends : Cond.code yX7_ends cX7_ends 3 (some .int) ∈ lw_tbl := lwm 740 rfl
set_option maxRecDepth 100000 in
theorem cd_X7_setNumber : Cond.code yX7_setNumber cX7_setNumber 4 (some .int) ∈ lw_tbl := lwm 744 rfl
set_option maxRecDepth 100000 in
theorem cd_X7_isNumber : Cond.code yX7_isNumber cX7_isNumber 2 (some .boolean) ∈ lw_tbl := lwm 747 rfl
set_option maxRecDepth 100000 in
theorem cd_X7_setVan : Cond.code yX7_setVan cX7_setVan 5 (some .int) ∈ lw_tbl := lwm 751 rfl
set_option maxRecDepth 100000 in
theorem cd_X7_isVan : Cond.code yX7_isVan cX7_isVan 2 (some .boolean) ∈ lw_tbl := lwm 755 rfl
set_option maxRecDepth 100000 in
theorem cd_X7_of : Cond.code yX7_of cX7_of 3 (some .int) ∈ lw_tbl := lwm 759 rfl
set_option maxRecDepth 100000 in
theorem cd_X7_setProbe : Cond.code yX7_setProbe cX7_setProbe 6 (some .int) ∈ lw_tbl := lwm 763 rfl
set_option maxRecDepth 100000 in
theorem cd_X7_isZone : Cond.code yX7_isZone cX7_isZone 1 (some .boolean) ∈ lw_tbl := lwm 766 rfl
set_option maxRecDepth 100000 in
theorem cd_X7_isMode : Cond.code yX7_isMode cX7_isMode 2 (some .boolean) ∈ lw_tbl := lwm 769 rfl
set_option maxRecDepth 100000 in
theorem cd_X7_at : Cond.code yX7_at cX7_at 4 (some .int) ∈ lw_tbl := lwm 773 rfl
set_option maxRecDepth 100000 in
theorem cd_X7_repair : Cond.code yX7_repair cX7_repair 3 (some .int) ∈ lw_tbl := lwm 777 rfl
set_option maxRecDepth 100000 in
theorem cd_X7_repairs : Cond.code yX7_repairs cX7_repairs 5 (some .int) ∈ lw_tbl := lwm 781 rfl
set_option maxRecDepth 100000 in
theorem cd_X7_done : Cond.code yX7_done cX7_done 2 (some .int) ∈ lw_tbl := lwm 785 rfl
set_option maxRecDepth 100000 in
theorem cd_X7_loadPallet : Cond.code yX7_loadPallet cX7_loadPallet 9 (some .int) ∈ lw_tbl := lwm 789 rfl
set_option maxRecDepth 100000 in
theorem cd_X7_manyIn : Cond.code yX7_manyIn cX7_manyIn 5 (some .int) ∈ lw_tbl := lwm 794 rfl
set_option maxRecDepth 100000 in
theorem cd_X7_its : Cond.code yX7_its cX7_its 3 (some .int) ∈ lw_tbl := lwm 798 rfl
set_option maxRecDepth 100000 in
theorem cd_X7_palletSpot : Cond.code yX7_palletSpot cX7_palletSpot 1 (some .int) ∈ lw_tbl := lwm 801 rfl
set_option maxRecDepth 100000 in
theorem cd_X7_door : Cond.code yX7_door cX7_door 3 (some .int) ∈ lw_tbl := lwm 805 rfl
set_option maxRecDepth 100000 in
theorem cd_X7_doors : Cond.code yX7_doors cX7_doors 3 (some .int) ∈ lw_tbl := lwm 809 rfl
set_option maxRecDepth 100000 in
theorem cd_X7_inVan : Cond.code yX7_inVan cX7_inVan 4 (some .int) ∈ lw_tbl := lwm 813 rfl
set_option maxRecDepth 100000 in
theorem cd_X7_bits : Cond.code yX7_bits cX7_bits 3 (some .int) ∈ lw_tbl := lwm 816 rfl
set_option maxRecDepth 100000 in
theorem cd_X7_pass : Cond.code yX7_pass cX7_pass 2 (some .int) ∈ lw_tbl := lwm 820 rfl
set_option maxRecDepth 100000 in
theorem cd_X7_passes : Cond.code yX7_passes cX7_passes 4 (some .int) ∈ lw_tbl := lwm 824 rfl
set_option maxRecDepth 100000 in
theorem cd_X7_minute : Cond.code yX7_minute cX7_minute 5 (some .int) ∈ lw_tbl := lwm 828 rfl
set_option maxRecDepth 100000 in
theorem cd_X7_heats : Cond.code yX7_heats cX7_heats 7 none ∈ lw_tbl := lwm 832 rfl
set_option maxRecDepth 100000 in
theorem cd_X7_reads : Cond.code yX7_reads cX7_reads 5 (some .int) ∈ lw_tbl := lwm 836 rfl
set_option maxRecDepth 100000 in
theorem cd_X7_isOdd : Cond.code yX7_isOdd cX7_isOdd 6 (some .boolean) ∈ lw_tbl := lwm 840 rfl
set_option maxRecDepth 100000 in
theorem cd_X7_reading : Cond.code yX7_reading cX7_reading 4 (some .int) ∈ lw_tbl := lwm 844 rfl
set_option maxRecDepth 100000 in
theorem cd_X7_apart : Cond.code yX7_apart cX7_apart 2 (some .int) ∈ lw_tbl := lwm 847 rfl
set_option maxRecDepth 100000 in
theorem cd_X7_warms : Cond.code yX7_warms cX7_warms 5 none ∈ lw_tbl := lwm 851 rfl
set_option maxRecDepth 100000 in
theorem cd_X7_told : Cond.code yX7_told cX7_told 4 (some .int) ∈ lw_tbl := lwm 855 rfl
set_option maxRecDepth 100000 in
theorem cd_X7_deliver : Cond.code yX7_deliver cX7_deliver 2 (some .int) ∈ lw_tbl := lwm 859 rfl
set_option maxRecDepth 100000 in
theorem cd_X7_delivers : Cond.code yX7_delivers cX7_delivers 2 (some .int) ∈ lw_tbl := lwm 863 rfl
set_option maxRecDepth 100000 in
theorem cd_X7_isPallet : Cond.code yX7_isPallet cX7_isPallet 2 (some .boolean) ∈ lw_tbl := lwm 867 rfl
set_option maxRecDepth 100000 in
theorem cd_X7_detour : Cond.code yX7_detour cX7_detour 9 (some .int) ∈ lw_tbl := lwm 871 rfl
set_option maxRecDepth 100000 in
theorem cd_X7_appendCharacter : Cond.code yX7_appendCharacter cX7_appendCharacter 2 (some .int) ∈ lw_tbl := lwm 875 rfl
set_option maxRecDepth 100000 in
theorem cd_X7_clearText : Cond.code yX7_clearText cX7_clearText 2 (some .int) ∈ lw_tbl := lwm 879 rfl
set_option maxRecDepth 100000 in
theorem cd_X7_runScript : Cond.code yX7_runScript cX7_runScript 2 (some .int) ∈ lw_tbl := lwm 883 rfl
set_option maxRecDepth 100000 in
theorem cd_X7_isScript : Cond.code yX7_isScript cX7_isScript 1 (some .boolean) ∈ lw_tbl := lwm 887 rfl
set_option maxRecDepth 100000 in
theorem cd_X7_skips : Cond.code yX7_skips cX7_skips 1 none ∈ lw_tbl := lwm 891 rfl
set_option maxRecDepth 100000 in
theorem cd_X7_isAt : Cond.code yX7_isAt cX7_isAt 3 (some .boolean) ∈ lw_tbl := lwm 895 rfl
set_option maxRecDepth 100000 in
theorem cd_X7_isCommand : Cond.code yX7_isCommand cX7_isCommand 1 (some .boolean) ∈ lw_tbl := lwm 899 rfl
set_option maxRecDepth 100000 in
theorem cd_X7_isFigure : Cond.code yX7_isFigure cX7_isFigure 4 (some .boolean) ∈ lw_tbl := lwm 903 rfl
set_option maxRecDepth 100000 in
theorem cd_X7_takes : Cond.code yX7_takes cX7_takes 3 (some .boolean) ∈ lw_tbl := lwm 907 rfl
set_option maxRecDepth 100000 in
theorem cd_X7_does : Cond.code yX7_does cX7_does 1 (some .int) ∈ lw_tbl := lwm 912 rfl
set_option maxRecDepth 100000 in
theorem cd_X7_count : Cond.code yX7_count cX7_count 4 (some .int) ∈ lw_tbl := lwm 917 rfl
set_option maxRecDepth 100000 in
theorem cd_X7_van : Cond.code yX7_van cX7_van 3 (some .int) ∈ lw_tbl := lwm 921 rfl
set_option maxRecDepth 100000 in
theorem cd_X7_zone : Cond.code yX7_zone cX7_zone 4 (some .int) ∈ lw_tbl := lwm 925 rfl
set_option maxRecDepth 100000 in
theorem cd_X7_pallet : Cond.code yX7_pallet cX7_pallet 3 (some .int) ∈ lw_tbl := lwm 929 rfl
set_option maxRecDepth 100000 in
theorem cd_X7_cause : Cond.code yX7_cause cX7_cause 2 (some .int) ∈ lw_tbl := lwm 933 rfl
set_option maxRecDepth 100000 in
theorem cd_X7_claims : Cond.code yX7_claims cX7_claims 4 (some .int) ∈ lw_tbl := lwm 937 rfl
set_option maxRecDepth 100000 in
theorem cd_X7_claim : Cond.code yX7_claim cX7_claim 6 (some .int) ∈ lw_tbl := lwm 941 rfl
set_option maxRecDepth 100000 in
theorem cd_X7_log : Cond.code yX7_log cX7_log 5 (some .int) ∈ lw_tbl := lwm 945 rfl
set_option maxRecDepth 100000 in
theorem cd_X7_entry : Cond.code yX7_entry cX7_entry 5 (some .int) ∈ lw_tbl := lwm 949 rfl
set_option maxRecDepth 100000 in
theorem cd_X7_warm : Cond.code yX7_warm cX7_warm 11 (some .int) ∈ lw_tbl := lwm 954 rfl
set_option maxRecDepth 100000 in
theorem cd_X7_minutesLeft : Cond.code yX7_minutesLeft cX7_minutesLeft 4 (some .int) ∈ lw_tbl := lwm 958 rfl
set_option maxRecDepth 100000 in
theorem cd_X7_longestOpen : Cond.code yX7_longestOpen cX7_longestOpen 3 (some .int) ∈ lw_tbl := lwm 962 rfl
set_option maxRecDepth 100000 in
theorem cd_X7_mayBeOpen : Cond.code yX7_mayBeOpen cX7_mayBeOpen 6 (some .boolean) ∈ lw_tbl := lwm 966 rfl
set_option maxRecDepth 100000 in
theorem cd_X7_undo : Cond.code yX7_undo cX7_undo 2 (some .int) ∈ lw_tbl := lwm 970 rfl
set_option maxRecDepth 100000 in
theorem ini_L : Cond.initialized RL ∈ lw_tbl := lwm 44 (by decide +kernel)
set_option maxRecDepth 100000 in
theorem ini_X6 : Cond.initialized RX6 ∈ lw_tbl := lwm 45 (by decide +kernel)
set_option maxRecDepth 100000 in
theorem ini_X3 : Cond.initialized RX3 ∈ lw_tbl := lwm 46 (by decide +kernel)
set_option maxRecDepth 100000 in
theorem ini_X4 : Cond.initialized RX4 ∈ lw_tbl := lwm 47 (by decide +kernel)
set_option maxRecDepth 100000 in
theorem ini_X5 : Cond.initialized RX5 ∈ lw_tbl := lwm 48 (by decide +kernel)
set_option maxRecDepth 100000 in
theorem ini_X1 : Cond.initialized RX1 ∈ lw_tbl := lwm 49 (by decide +kernel)
set_option maxRecDepth 100000 in
theorem ini_X0 : Cond.initialized RX0 ∈ lw_tbl := lwm 50 (by decide +kernel)
set_option maxRecDepth 100000 in
theorem ini_X2 : Cond.initialized RX2 ∈ lw_tbl := lwm 51 (by decide +kernel)
set_option maxRecDepth 100000 in
theorem ini_X7 : Cond.initialized RX7 ∈ lw_tbl := lwm 52 (by decide +kernel)
set_option maxRecDepth 100000 in
theorem ini_J9 : Cond.initialized RJ9 ∈ lw_tbl := lwm 53 (by decide +kernel)
set_option maxRecDepth 100000 in
theorem ini_J6 : Cond.initialized RJ6 ∈ lw_tbl := lwm 54 (by decide +kernel)
set_option maxRecDepth 100000 in
theorem cw_L_100 : CWd RL 100 yX6_minutesLeft cX6_minutesLeft 4 (some .int) 1 := ⟨lwm 649 (by decide +kernel), cd_X6_minutesLeft, ini_X6, by decide +kernel, by decide +kernel⟩
set_option maxRecDepth 100000 in
theorem cw_L_103 : CWd RL 103 yX7_minutesLeft cX7_minutesLeft 4 (some .int) 1 := ⟨lwm 955 (by decide +kernel), cd_X7_minutesLeft, ini_X7, by decide +kernel, by decide +kernel⟩
set_option maxRecDepth 100000 in
theorem cw_L_104 : CWd RL 104 yX6_longestOpen cX6_longestOpen 3 (some .int) 1 := ⟨lwm 656 (by decide +kernel), cd_X6_longestOpen, ini_X6, by decide +kernel, by decide +kernel⟩
set_option maxRecDepth 100000 in
theorem cw_L_107 : CWd RL 107 yX7_longestOpen cX7_longestOpen 3 (some .int) 1 := ⟨lwm 959 (by decide +kernel), cd_X7_longestOpen, ini_X7, by decide +kernel, by decide +kernel⟩
set_option maxRecDepth 100000 in
theorem cw_L_108 : CWd RL 108 yX6_undo cX6_undo 1 (some .int) 0 := ⟨lwm 668 (by decide +kernel), cd_X6_undo, ini_X6, by decide +kernel, by decide +kernel⟩
set_option maxRecDepth 100000 in
theorem cw_L_111 : CWd RL 111 yX7_undo cX7_undo 2 (some .int) 0 := ⟨lwm 967 (by decide +kernel), cd_X7_undo, ini_X7, by decide +kernel, by decide +kernel⟩
set_option maxRecDepth 100000 in
theorem cw_L_12 : CWd RL 12 yX7_init cX7_init 1 none 0 := ⟨lwm 674 (by decide +kernel), cd_X7_init, ini_X7, by decide +kernel, by decide +kernel⟩
set_option maxRecDepth 100000 in
theorem cw_L_13 : CWd RL 13 yX6_addVan cX6_addVan 3 (some .int) 2 := ⟨lwm 290 (by decide +kernel), cd_X6_addVan, ini_X6, by decide +kernel, by decide +kernel⟩
set_option maxRecDepth 100000 in
theorem cw_L_17 : CWd RL 17 yX7_addVan cX7_addVan 5 (some .int) 2 := ⟨lwm 715 (by decide +kernel), cd_X7_addVan, ini_X7, by decide +kernel, by decide +kernel⟩
set_option maxRecDepth 100000 in
theorem cw_L_18 : CWd RL 18 yX6_setNumber cX6_setNumber 3 (some .int) 2 := ⟨lwm 345 (by decide +kernel), cd_X6_setNumber, ini_X6, by decide +kernel, by decide +kernel⟩
set_option maxRecDepth 100000 in
theorem cw_L_21 : CWd RL 21 yX7_setNumber cX7_setNumber 4 (some .int) 2 := ⟨lwm 741 (by decide +kernel), cd_X7_setNumber, ini_X7, by decide +kernel, by decide +kernel⟩
set_option maxRecDepth 100000 in
theorem cw_L_22 : CWd RL 22 yX6_setVan cX6_setVan 4 (some .int) 3 := ⟨lwm 354 (by decide +kernel), cd_X6_setVan, ini_X6, by decide +kernel, by decide +kernel⟩
set_option maxRecDepth 100000 in
theorem cw_L_26 : CWd RL 26 yX7_setVan cX7_setVan 5 (some .int) 3 := ⟨lwm 748 (by decide +kernel), cd_X7_setVan, ini_X7, by decide +kernel, by decide +kernel⟩
set_option maxRecDepth 100000 in
theorem cw_L_27 : CWd RL 27 yX6_setProbe cX6_setProbe 5 (some .int) 4 := ⟨lwm 366 (by decide +kernel), cd_X6_setProbe, ini_X6, by decide +kernel, by decide +kernel⟩
set_option maxRecDepth 100000 in
theorem cw_L_31 : CWd RL 31 yX7_setProbe cX7_setProbe 6 (some .int) 4 := ⟨lwm 760 (by decide +kernel), cd_X7_setProbe, ini_X7, by decide +kernel, by decide +kernel⟩
set_option maxRecDepth 100000 in
theorem cw_L_32 : CWd RL 32 yX6_repair cX6_repair 3 (some .int) 2 := ⟨lwm 381 (by decide +kernel), cd_X6_repair, ini_X6, by decide +kernel, by decide +kernel⟩
set_option maxRecDepth 100000 in
theorem cw_L_35 : CWd RL 35 yX7_repair cX7_repair 3 (some .int) 2 := ⟨lwm 774 (by decide +kernel), cd_X7_repair, ini_X7, by decide +kernel, by decide +kernel⟩
set_option maxRecDepth 100000 in
theorem cw_L_36 : CWd RL 36 yX6_loadPallet cX6_loadPallet 6 (some .int) 5 := ⟨lwm 390 (by decide +kernel), cd_X6_loadPallet, ini_X6, by decide +kernel, by decide +kernel⟩
set_option maxRecDepth 100000 in
theorem cw_L_40 : CWd RL 40 yX7_loadPallet cX7_loadPallet 9 (some .int) 5 := ⟨lwm 786 (by decide +kernel), cd_X7_loadPallet, ini_X7, by decide +kernel, by decide +kernel⟩
set_option maxRecDepth 100000 in
theorem cw_L_41 : CWd RL 41 yX6_door cX6_door 3 (some .int) 2 := ⟨lwm 417 (by decide +kernel), cd_X6_door, ini_X6, by decide +kernel, by decide +kernel⟩
set_option maxRecDepth 100000 in
theorem cw_L_44 : CWd RL 44 yX7_door cX7_door 3 (some .int) 2 := ⟨lwm 802 (by decide +kernel), cd_X7_door, ini_X7, by decide +kernel, by decide +kernel⟩
set_option maxRecDepth 100000 in
theorem cw_L_45 : CWd RL 45 yX6_pass cX6_pass 2 (some .int) 1 := ⟨lwm 435 (by decide +kernel), cd_X6_pass, ini_X6, by decide +kernel, by decide +kernel⟩
set_option maxRecDepth 100000 in
theorem cw_L_49 : CWd RL 49 yX7_pass cX7_pass 2 (some .int) 1 := ⟨lwm 817 (by decide +kernel), cd_X7_pass, ini_X7, by decide +kernel, by decide +kernel⟩
set_option maxRecDepth 100000 in
theorem cw_L_50 : CWd RL 50 yX6_deliver cX6_deliver 2 (some .int) 1 := ⟨lwm 499 (by decide +kernel), cd_X6_deliver, ini_X6, by decide +kernel, by decide +kernel⟩
set_option maxRecDepth 100000 in
theorem cw_L_53 : CWd RL 53 yX7_deliver cX7_deliver 2 (some .int) 1 := ⟨lwm 856 (by decide +kernel), cd_X7_deliver, ini_X7, by decide +kernel, by decide +kernel⟩
set_option maxRecDepth 100000 in
theorem cw_L_54 : CWd RL 54 yX6_detour cX6_detour 3 (some .int) 2 := ⟨lwm 515 (by decide +kernel), cd_X6_detour, ini_X6, by decide +kernel, by decide +kernel⟩
set_option maxRecDepth 100000 in
theorem cw_L_57 : CWd RL 57 yX7_detour cX7_detour 9 (some .int) 2 := ⟨lwm 868 (by decide +kernel), cd_X7_detour, ini_X7, by decide +kernel, by decide +kernel⟩
set_option maxRecDepth 100000 in
theorem cw_L_58 : CWd RL 58 yX6_appendCharacter cX6_appendCharacter 2 (some .int) 1 := ⟨lwm 535 (by decide +kernel), cd_X6_appendCharacter, ini_X6, by decide +kernel, by decide +kernel⟩
set_option maxRecDepth 100000 in
theorem cw_L_61 : CWd RL 61 yX7_appendCharacter cX7_appendCharacter 2 (some .int) 1 := ⟨lwm 872 (by decide +kernel), cd_X7_appendCharacter, ini_X7, by decide +kernel, by decide +kernel⟩
set_option maxRecDepth 100000 in
theorem cw_L_62 : CWd RL 62 yX6_clearText cX6_clearText 2 (some .int) 0 := ⟨lwm 546 (by decide +kernel), cd_X6_clearText, ini_X6, by decide +kernel, by decide +kernel⟩
set_option maxRecDepth 100000 in
theorem cw_L_66 : CWd RL 66 yX7_clearText cX7_clearText 2 (some .int) 0 := ⟨lwm 876 (by decide +kernel), cd_X7_clearText, ini_X7, by decide +kernel, by decide +kernel⟩
set_option maxRecDepth 100000 in
theorem cw_L_67 : CWd RL 67 yX6_runScript cX6_runScript 4 (some .int) 0 := ⟨lwm 550 (by decide +kernel), cd_X6_runScript, ini_X6, by decide +kernel, by decide +kernel⟩
set_option maxRecDepth 100000 in
theorem cw_L_70 : CWd RL 70 yX7_runScript cX7_runScript 2 (some .int) 0 := ⟨lwm 880 (by decide +kernel), cd_X7_runScript, ini_X7, by decide +kernel, by decide +kernel⟩
set_option maxRecDepth 100000 in
theorem cw_L_71 : CWd RL 71 yX6_count cX6_count 2 (some .int) 1 := ⟨lwm 586 (by decide +kernel), cd_X6_count, ini_X6, by decide +kernel, by decide +kernel⟩
set_option maxRecDepth 100000 in
theorem cw_L_74 : CWd RL 74 yX7_count cX7_count 4 (some .int) 1 := ⟨lwm 914 (by decide +kernel), cd_X7_count, ini_X7, by decide +kernel, by decide +kernel⟩
set_option maxRecDepth 100000 in
theorem cw_L_75 : CWd RL 75 yX6_van cX6_van 4 (some .int) 2 := ⟨lwm 594 (by decide +kernel), cd_X6_van, ini_X6, by decide +kernel, by decide +kernel⟩
set_option maxRecDepth 100000 in
theorem cw_L_78 : CWd RL 78 yX7_van cX7_van 3 (some .int) 2 := ⟨lwm 918 (by decide +kernel), cd_X7_van, ini_X7, by decide +kernel, by decide +kernel⟩
set_option maxRecDepth 100000 in
theorem cw_L_79 : CWd RL 79 yX6_zone cX6_zone 5 (some .int) 3 := ⟨lwm 600 (by decide +kernel), cd_X6_zone, ini_X6, by decide +kernel, by decide +kernel⟩
set_option maxRecDepth 100000 in
theorem cw_L_82 : CWd RL 82 yX7_zone cX7_zone 4 (some .int) 3 := ⟨lwm 922 (by decide +kernel), cd_X7_zone, ini_X7, by decide +kernel, by decide +kernel⟩
set_option maxRecDepth 100000 in
theorem cw_L_83 : CWd RL 83 yX6_pallet cX6_pallet 3 (some .int) 2 := ⟨lwm 607 (by decide +kernel), cd_X6_pallet, ini_X6, by decide +kernel, by decide +kernel⟩
set_option maxRecDepth 100000 in
theorem cw_L_86 : CWd RL 86 yX7_pallet cX7_pallet 3 (some .int) 2 := ⟨lwm 926 (by decide +kernel), cd_X7_pallet, ini_X7, by decide +kernel, by decide +kernel⟩
set_option maxRecDepth 100000 in
theorem cw_L_87 : CWd RL 87 yX6_claims cX6_claims 5 (some .int) 1 := ⟨lwm 625 (by decide +kernel), cd_X6_claims, ini_X6, by decide +kernel, by decide +kernel⟩
set_option maxRecDepth 100000 in
theorem cw_L_9 : CWd RL 9 yX6_init cX6_init 2 none 0 := ⟨lwm 57 (by decide +kernel), cd_X6_init, ini_X6, by decide +kernel, by decide +kernel⟩
set_option maxRecDepth 100000 in
theorem cw_L_90 : CWd RL 90 yX7_claims cX7_claims 4 (some .int) 1 := ⟨lwm 934 (by decide +kernel), cd_X7_claims, ini_X7, by decide +kernel, by decide +kernel⟩
set_option maxRecDepth 100000 in
theorem cw_L_91 : CWd RL 91 yX6_log cX6_log 5 (some .int) 4 := ⟨lwm 638 (by decide +kernel), cd_X6_log, ini_X6, by decide +kernel, by decide +kernel⟩
set_option maxRecDepth 100000 in
theorem cw_L_94 : CWd RL 94 yX7_log cX7_log 5 (some .int) 4 := ⟨lwm 942 (by decide +kernel), cd_X7_log, ini_X7, by decide +kernel, by decide +kernel⟩
set_option maxRecDepth 100000 in
theorem cw_L_95 : CWd RL 95 yX6_warm cX6_warm 11 (some .int) 6 := ⟨lwm 644 (by decide +kernel), cd_X6_warm, ini_X6, by decide +kernel, by decide +kernel⟩
set_option maxRecDepth 100000 in
theorem cw_L_99 : CWd RL 99 yX7_warm cX7_warm 11 (some .int) 6 := ⟨lwm 951 (by decide +kernel), cd_X7_warm, ini_X7, by decide +kernel, by decide +kernel⟩
set_option maxRecDepth 100000 in
theorem cw_X0_19 : CWd RX0 19 yX0_row cX0_row 5 (some (.array .int)) 3 := ⟨lwm 494 (by decide +kernel), cd_X0_row, ini_X0, by decide +kernel, by decide +kernel⟩
set_option maxRecDepth 100000 in
theorem cw_X0_35 : CWd RX0 35 yX4_toldIn cX4_toldIn 4 (some .int) 1 := ⟨lwm 498 (by decide +kernel), cd_X4_toldIn, ini_X4, by decide +kernel, by decide +kernel⟩
set_option maxRecDepth 100000 in
theorem cw_X1_57 : CWd RX1 57 yX4_toldIn cX4_toldIn 4 (some .int) 1 := ⟨lwm 483 (by decide +kernel), cd_X4_toldIn, ini_X4, by decide +kernel, by decide +kernel⟩
set_option maxRecDepth 100000 in
theorem cw_X1_61 : CWd RX1 61 yX1_wasRejected cX1_wasRejected 1 (some .boolean) 0 := ⟨lwm 620 (by decide +kernel), cd_X1_wasRejected, ini_X1, by decide +kernel, by decide +kernel⟩
set_option maxRecDepth 100000 in
theorem cw_X1_65 : CWd RX1 65 yX1_cause cX1_cause 1 (some .int) 0 := ⟨lwm 616 (by decide +kernel), cd_X1_cause, ini_X1, by decide +kernel, by decide +kernel⟩
set_option maxRecDepth 100000 in
theorem cw_X1_69 : CWd RX1 69 yX1_claim cX1_claim 1 (some .int) 0 := ⟨lwm 637 (by decide +kernel), cd_X1_claim, ini_X1, by decide +kernel, by decide +kernel⟩
set_option maxRecDepth 100000 in
theorem cw_X2_25 : CWdN RX2 25 yX6_isWithin cX6_isWithin 3 (some .boolean) 3 := ⟨lwm 543 (by decide +kernel), cd_X6_isWithin, ini_X6, by decide +kernel, by decide +kernel⟩
set_option maxRecDepth 100000 in
theorem cw_X2_41 : CWd RX2 41 yX2_skipSpaces cX2_skipSpaces 1 none 0 := ⟨lwm 558 (by decide +kernel), cd_X2_skipSpaces, ini_X2, by decide +kernel, by decide +kernel⟩
set_option maxRecDepth 100000 in
theorem cw_X2_44 : CWd RX2 44 yX2_readCommand cX2_readCommand 3 (some .boolean) 1 := ⟨lwm 562 (by decide +kernel), cd_X2_readCommand, ini_X2, by decide +kernel, by decide +kernel⟩
set_option maxRecDepth 100000 in
theorem cw_X2_48 : CWd RX2 48 yX2_isLetter cX2_isLetter 1 (some .boolean) 1 := ⟨lwm 566 (by decide +kernel), cd_X2_isLetter, ini_X2, by decide +kernel, by decide +kernel⟩
set_option maxRecDepth 100000 in
theorem cw_X2_52 : CWd RX2 52 yX2_readNumber cX2_readNumber 5 (some .int) 0 := ⟨lwm 569 (by decide +kernel), cd_X2_readNumber, ini_X2, by decide +kernel, by decide +kernel⟩
set_option maxRecDepth 100000 in
theorem cw_X2_56 : CWd RX2 56 yX2_readSign cX2_readSign 2 (some .boolean) 1 := ⟨lwm 576 (by decide +kernel), cd_X2_readSign, ini_X2, by decide +kernel, by decide +kernel⟩
set_option maxRecDepth 100000 in
theorem cw_X2_59 : CWd RX2 59 yX2_isDigit cX2_isDigit 1 (some .boolean) 1 := ⟨lwm 573 (by decide +kernel), cd_X2_isDigit, ini_X2, by decide +kernel, by decide +kernel⟩
set_option maxRecDepth 100000 in
theorem cw_X3_107 : CWd RX3 107 yX5_mend cX5_mend 1 none 0 := ⟨lwm 389 (by decide +kernel), cd_X5_mend, ini_X5, by decide +kernel, by decide +kernel⟩
set_option maxRecDepth 100000 in
theorem cw_X3_110 : CWdN RX3 110 yX6_isLimit cX6_isLimit 1 (some .boolean) 1 := ⟨lwm 398 (by decide +kernel), cd_X6_isLimit, ini_X6, by decide +kernel, by decide +kernel⟩
set_option maxRecDepth 100000 in
theorem cw_X3_113 : CWdN RX3 113 yX6_isPrice cX6_isPrice 1 (some .boolean) 1 := ⟨lwm 401 (by decide +kernel), cd_X6_isPrice, ini_X6, by decide +kernel, by decide +kernel⟩
set_option maxRecDepth 100000 in
theorem cw_X3_120 : CWd RX3 120 yX3_palletsInZone cX3_palletsInZone 5 (some .int) 2 := ⟨lwm 405 (by decide +kernel), cd_X3_palletsInZone, ini_X3, by decide +kernel, by decide +kernel⟩
set_option maxRecDepth 100000 in
theorem cw_X3_124 : CWd RX3 124 yX1_start cX1_start 6 none 5 := ⟨lwm 413 (by decide +kernel), cd_X1_start, ini_X1, by decide +kernel, by decide +kernel⟩
set_option maxRecDepth 100000 in
theorem cw_X3_127 : CWd RX3 127 yX3_palletsIn cX3_palletsIn 4 (some .int) 1 := ⟨lwm 425 (by decide +kernel), cd_X3_palletsIn, ini_X3, by decide +kernel, by decide +kernel⟩
set_option maxRecDepth 100000 in
theorem cw_X3_131 : CWd RX3 131 yJ6_bitCount_0f7a4 cJ6_bitCount_0f7a4 1 (some .int) 1 := ⟨lwm 429 (by decide +kernel), cd_J6_bitCount_0f7a4, ini_J6, by decide +kernel, by decide +kernel⟩
set_option maxRecDepth 100000 in
theorem cw_X3_136 : CWd RX3 136 yX3_minuteInVan cX3_minuteInVan 5 (some .int) 1 := ⟨lwm 443 (by decide +kernel), cd_X3_minuteInVan, ini_X3, by decide +kernel, by decide +kernel⟩
set_option maxRecDepth 100000 in
theorem cw_X3_139 : CWd RX3 139 yX0_write cX0_write 5 none 3 := ⟨lwm 490 (by decide +kernel), cd_X0_write, ini_X0, by decide +kernel, by decide +kernel⟩
set_option maxRecDepth 100000 in
theorem cw_X3_145 : CWd RX3 145 yX4_changeTemperatures cX4_changeTemperatures 4 none 1 := ⟨lwm 447 (by decide +kernel), cd_X4_changeTemperatures, ini_X4, by decide +kernel, by decide +kernel⟩
set_option maxRecDepth 100000 in
theorem cw_X3_149 : CWd RX3 149 yX4_mixAir cX4_mixAir 3 none 0 := ⟨lwm 460 (by decide +kernel), cd_X4_mixAir, ini_X4, by decide +kernel, by decide +kernel⟩
set_option maxRecDepth 100000 in
theorem cw_X3_152 : CWd RX3 152 yX4_findProbes cX4_findProbes 6 (some .int) 2 := ⟨lwm 464 (by decide +kernel), cd_X4_findProbes, ini_X4, by decide +kernel, by decide +kernel⟩
set_option maxRecDepth 100000 in
theorem cw_X3_155 : CWd RX3 155 yX1_addMinute cX1_addMinute 2 none 1 := ⟨lwm 479 (by decide +kernel), cd_X1_addMinute, ini_X1, by decide +kernel, by decide +kernel⟩
set_option maxRecDepth 100000 in
theorem cw_X3_158 : CWd RX3 158 yX3_hasPallet cX3_hasPallet 2 (some .boolean) 1 := ⟨lwm 507 (by decide +kernel), cd_X3_hasPallet, ini_X3, by decide +kernel, by decide +kernel⟩
set_option maxRecDepth 100000 in
theorem cw_X3_167 : CWd RX3 167 yX3_isIn cX3_isIn 2 (some .boolean) 2 := ⟨lwm 523 (by decide +kernel), cd_X3_isIn, ini_X3, by decide +kernel, by decide +kernel⟩
set_option maxRecDepth 100000 in
theorem cw_X3_169 : CWd RX3 169 yX3_shareByValues cX3_shareByValues 6 none 2 := ⟨lwm 526 (by decide +kernel), cd_X3_shareByValues, ini_X3, by decide +kernel, by decide +kernel⟩
set_option maxRecDepth 100000 in
theorem cw_X3_173 : CWd RX3 173 yX3_shareRest cX3_shareRest 6 (some .int) 2 := ⟨lwm 530 (by decide +kernel), cd_X3_shareRest, ini_X3, by decide +kernel, by decide +kernel⟩
set_option maxRecDepth 100000 in
theorem cw_X3_180 : CWd RX3 180 yJ9_max_7cf53 cJ9_max_7cf53 2 (some .int) 2 := ⟨lwm 534 (by decide +kernel), cd_J9_max_7cf53, ini_J9, by decide +kernel, by decide +kernel⟩
set_option maxRecDepth 100000 in
theorem cw_X3_33 : CWd RX3 33 yX4_init cX4_init 2 none 0 := ⟨lwm 74 (by decide +kernel), cd_X4_init, ini_X4, by decide +kernel, by decide +kernel⟩
set_option maxRecDepth 100000 in
theorem cw_X3_34 : CWdN RX3 34 yX1_init cX1_init 1 none 0 := ⟨lwm 142 (by decide +kernel), cd_X1_init, ini_X1, by decide +kernel, by decide +kernel⟩
set_option maxRecDepth 100000 in
theorem cw_X3_44 : CWd RX3 44 yX4_copyFrom cX4_copyFrom 3 none 1 := ⟨lwm 302 (by decide +kernel), cd_X4_copyFrom, ini_X4, by decide +kernel, by decide +kernel⟩
set_option maxRecDepth 100000 in
theorem cw_X3_48 : CWd RX3 48 yX1_copyFrom cX1_copyFrom 2 none 1 := ⟨lwm 310 (by decide +kernel), cd_X1_copyFrom, ini_X1, by decide +kernel, by decide +kernel⟩
set_option maxRecDepth 100000 in
theorem cw_X3_51 : CWd RX3 51 yX3_hasVan cX3_hasVan 2 (some .boolean) 1 := ⟨lwm 362 (by decide +kernel), cd_X3_hasVan, ini_X3, by decide +kernel, by decide +kernel⟩
set_option maxRecDepth 100000 in
theorem cw_X3_55 : CWdN RX3 55 yX6_isWithin cX6_isWithin 3 (some .boolean) 3 := ⟨lwm 353 (by decide +kernel), cd_X6_isWithin, ini_X6, by decide +kernel, by decide +kernel⟩
set_option maxRecDepth 100000 in
theorem cw_X3_69 : CWd RX3 69 yX1_isIn cX1_isIn 2 (some .boolean) 1 := ⟨lwm 409 (by decide +kernel), cd_X1_isIn, ini_X1, by decide +kernel, by decide +kernel⟩
set_option maxRecDepth 100000 in
theorem cw_X3_75 : CWd RX3 75 yX1_isOverdue cX1_isOverdue 1 (some .boolean) 0 := ⟨lwm 511 (by decide +kernel), cd_X1_isOverdue, ini_X1, by decide +kernel, by decide +kernel⟩
set_option maxRecDepth 100000 in
theorem cw_X3_79 : CWdN RX3 79 yX6_isVanSetting cX6_isVanSetting 2 (some .boolean) 2 := ⟨lwm 318 (by decide +kernel), cd_X6_isVanSetting, ini_X6, by decide +kernel, by decide +kernel⟩
set_option maxRecDepth 100000 in
theorem cw_X3_85 : CWd RX3 85 yX4_start cX4_start 5 none 3 := ⟨lwm 326 (by decide +kernel), cd_X4_start, ini_X4, by decide +kernel, by decide +kernel⟩
set_option maxRecDepth 100000 in
theorem cw_X3_95 : CWd RX3 95 yX3_hasZone cX3_hasZone 3 (some .boolean) 2 := ⟨lwm 374 (by decide +kernel), cd_X3_hasZone, ini_X3, by decide +kernel, by decide +kernel⟩
set_option maxRecDepth 100000 in
theorem cw_X3_98 : CWdN RX3 98 yX6_isProbeSetting cX6_isProbeSetting 2 (some .boolean) 2 := ⟨lwm 378 (by decide +kernel), cd_X6_isProbeSetting, ini_X6, by decide +kernel, by decide +kernel⟩
set_option maxRecDepth 100000 in
theorem cw_X4_17 : CWdN RX4 17 yX5_init cX5_init 1 none 0 := ⟨lwm 81 (by decide +kernel), cd_X5_init, ini_X5, by decide +kernel, by decide +kernel⟩
set_option maxRecDepth 100000 in
theorem cw_X4_32 : CWd RX4 32 yX5_copyFrom cX5_copyFrom 2 none 1 := ⟨lwm 306 (by decide +kernel), cd_X5_copyFrom, ini_X5, by decide +kernel, by decide +kernel⟩
set_option maxRecDepth 100000 in
theorem cw_X4_36 : CWd RX4 36 yX5_mend cX5_mend 1 none 0 := ⟨lwm 330 (by decide +kernel), cd_X5_mend, ini_X5, by decide +kernel, by decide +kernel⟩
set_option maxRecDepth 100000 in
theorem cw_X4_46 : CWd RX4 46 yX5_coolTo cX5_coolTo 3 none 2 := ⟨lwm 453 (by decide +kernel), cd_X5_coolTo, ini_X5, by decide +kernel, by decide +kernel⟩
set_option maxRecDepth 100000 in
theorem cw_X4_50 : CWd RX4 50 yX4_isOdd cX4_isOdd 6 (some .boolean) 2 := ⟨lwm 468 (by decide +kernel), cd_X4_isOdd, ini_X4, by decide +kernel, by decide +kernel⟩
set_option maxRecDepth 100000 in
theorem cw_X4_60 : CWd RX4 60 yX5_reading cX5_reading 1 (some .int) 0 := ⟨lwm 472 (by decide +kernel), cd_X5_reading, ini_X5, by decide +kernel, by decide +kernel⟩
set_option maxRecDepth 100000 in
theorem cw_X4_64 : CWd RX4 64 yJ9_abs_0f7a4 cJ9_abs_0f7a4 1 (some .int) 1 := ⟨lwm 476 (by decide +kernel), cd_J9_abs_0f7a4, ini_J9, by decide +kernel, by decide +kernel⟩
set_option maxRecDepth 100000 in
theorem cw_X4_70 : CWd RX4 70 yJ9_floorDiv_7cf53 cJ9_floorDiv_7cf53 3 (some .int) 2 := ⟨lwm 487 (by decide +kernel), cd_J9_floorDiv_7cf53, ini_J9, by decide +kernel, by decide +kernel⟩
set_option maxRecDepth 100000 in
theorem cw_X5_28 : CWd RX5 28 yJ9_max_7cf53 cJ9_max_7cf53 2 (some .int) 2 := ⟨lwm 457 (by decide +kernel), cd_J9_max_7cf53, ini_J9, by decide +kernel, by decide +kernel⟩
set_option maxRecDepth 100000 in
theorem cw_X6_104 : CWd RX6 104 yX3_copyFrom cX3_copyFrom 3 none 1 := ⟨lwm 298 (by decide +kernel), cd_X3_copyFrom, ini_X3, by decide +kernel, by decide +kernel⟩
set_option maxRecDepth 100000 in
theorem cw_X6_130 : CWd RX6 130 yX3_foundProbes cX3_foundProbes 4 (some .int) 0 := ⟨lwm 590 (by decide +kernel), cd_X3_foundProbes, ini_X3, by decide +kernel, by decide +kernel⟩
set_option maxRecDepth 100000 in
theorem cw_X6_134 : CWd RX6 134 yX3_hasVan cX3_hasVan 2 (some .boolean) 1 := ⟨lwm 598 (by decide +kernel), cd_X3_hasVan, ini_X3, by decide +kernel, by decide +kernel⟩
set_option maxRecDepth 100000 in
theorem cw_X6_153 : CWd RX6 153 yX3_palletsIn cX3_palletsIn 4 (some .int) 1 := ⟨lwm 599 (by decide +kernel), cd_X3_palletsIn, ini_X3, by decide +kernel, by decide +kernel⟩
set_option maxRecDepth 100000 in
theorem cw_X6_156 : CWd RX6 156 yX3_hasZone cX3_hasZone 3 (some .boolean) 2 := ⟨lwm 604 (by decide +kernel), cd_X3_hasZone, ini_X3, by decide +kernel, by decide +kernel⟩
set_option maxRecDepth 100000 in
theorem cw_X6_169 : CWd RX6 169 yX5_reading cX5_reading 1 (some .int) 0 := ⟨lwm 605 (by decide +kernel), cd_X5_reading, ini_X5, by decide +kernel, by decide +kernel⟩
set_option maxRecDepth 100000 in
theorem cw_X6_172 : CWd RX6 172 yX4_toldIn cX4_toldIn 4 (some .int) 1 := ⟨lwm 606 (by decide +kernel), cd_X4_toldIn, ini_X4, by decide +kernel, by decide +kernel⟩
set_option maxRecDepth 100000 in
theorem cw_X6_184 : CWd RX6 184 yX3_hasPallet cX3_hasPallet 2 (some .boolean) 1 := ⟨lwm 611 (by decide +kernel), cd_X3_hasPallet, ini_X3, by decide +kernel, by decide +kernel⟩
set_option maxRecDepth 100000 in
theorem cw_X6_191 : CWd RX6 191 yX1_property cX1_property 2 (some .int) 1 := ⟨lwm 612 (by decide +kernel), cd_X1_property, ini_X1, by decide +kernel, by decide +kernel⟩
set_option maxRecDepth 100000 in
theorem cw_X6_196 : CWd RX6 196 yX6_isWithin cX6_isWithin 3 (some .boolean) 3 := ⟨lwm 321 (by decide +kernel), cd_X6_isWithin, ini_X6, by decide +kernel, by decide +kernel⟩
set_option maxRecDepth 100000 in
theorem cw_X6_200 : CWd RX6 200 yX1_claim cX1_claim 1 (some .int) 0 := ⟨lwm 629 (by decide +kernel), cd_X1_claim, ini_X1, by decide +kernel, by decide +kernel⟩
set_option maxRecDepth 100000 in
theorem cw_X6_203 : CWd RX6 203 yX1_claimBy cX1_claimBy 5 (some .int) 1 := ⟨lwm 633 (by decide +kernel), cd_X1_claimBy, ini_X1, by decide +kernel, by decide +kernel⟩
set_option maxRecDepth 100000 in
theorem cw_X6_210 : CWd RX6 210 yX0_row cX0_row 5 (some (.array .int)) 3 := ⟨lwm 643 (by decide +kernel), cd_X0_row, ini_X0, by decide +kernel, by decide +kernel⟩
set_option maxRecDepth 100000 in
theorem cw_X6_214 : CWd RX6 214 yX6_isLimit cX6_isLimit 1 (some .boolean) 1 := ⟨lwm 648 (by decide +kernel), cd_X6_isLimit, ini_X6, by decide +kernel, by decide +kernel⟩
set_option maxRecDepth 100000 in
theorem cw_X6_217 : CWd RX6 217 yJ9_min_7cf53 cJ9_min_7cf53 2 (some .int) 2 := ⟨lwm 342 (by decide +kernel), cd_J9_min_7cf53, ini_J9, by decide +kernel, by decide +kernel⟩
set_option maxRecDepth 100000 in
theorem cw_X6_226 : CWd RX6 226 yX1_isOverdue cX1_isOverdue 1 (some .boolean) 0 := ⟨lwm 654 (by decide +kernel), cd_X1_isOverdue, ini_X1, by decide +kernel, by decide +kernel⟩
set_option maxRecDepth 100000 in
theorem cw_X6_233 : CWd RX6 233 yX3_minuteInVan cX3_minuteInVan 5 (some .int) 1 := ⟨lwm 655 (by decide +kernel), cd_X3_minuteInVan, ini_X3, by decide +kernel, by decide +kernel⟩
set_option maxRecDepth 100000 in
theorem cw_X6_236 : CWd RX6 236 yX6_mayBeOpen cX6_mayBeOpen 4 (some .boolean) 2 := ⟨lwm 660 (by decide +kernel), cd_X6_mayBeOpen, ini_X6, by decide +kernel, by decide +kernel⟩
set_option maxRecDepth 100000 in
theorem cw_X6_249 : CWd RX6 249 yX3_hasOverdue cX3_hasOverdue 3 (some .boolean) 1 := ⟨lwm 664 (by decide +kernel), cd_X3_hasOverdue, ini_X3, by decide +kernel, by decide +kernel⟩
set_option maxRecDepth 100000 in
theorem cw_X6_25 : CWdN RX6 25 yX0_init cX0_init 1 none 0 := ⟨lwm 220 (by decide +kernel), cd_X0_init, ini_X0, by decide +kernel, by decide +kernel⟩
set_option maxRecDepth 100000 in
theorem cw_X6_32 : CWdN RX6 32 yX2_init cX2_init 1 none 0 := ⟨lwm 236 (by decide +kernel), cd_X2_init, ini_X2, by decide +kernel, by decide +kernel⟩
set_option maxRecDepth 100000 in
theorem cw_X6_37 : CWd RX6 37 yX6_noteState cX6_noteState 1 none 0 := ⟨lwm 294 (by decide +kernel), cd_X6_noteState, ini_X6, by decide +kernel, by decide +kernel⟩
set_option maxRecDepth 100000 in
theorem cw_X6_40 : CWd RX6 40 yX3_putVan cX3_putVan 4 (some .int) 2 := ⟨lwm 314 (by decide +kernel), cd_X3_putVan, ini_X3, by decide +kernel, by decide +kernel⟩
set_option maxRecDepth 100000 in
theorem cw_X6_44 : CWd RX6 44 yX6_kept cX6_kept 2 (some .int) 1 := ⟨lwm 334 (by decide +kernel), cd_X6_kept, ini_X6, by decide +kernel, by decide +kernel⟩
set_option maxRecDepth 100000 in
theorem cw_X6_48 : CWd RX6 48 yX3_changeNumber cX3_changeNumber 4 (some .int) 2 := ⟨lwm 349 (by decide +kernel), cd_X3_changeNumber, ini_X3, by decide +kernel, by decide +kernel⟩
set_option maxRecDepth 100000 in
theorem cw_X6_51 : CWd RX6 51 yX3_changeVan cX3_changeVan 5 (some .int) 3 := ⟨lwm 358 (by decide +kernel), cd_X3_changeVan, ini_X3, by decide +kernel, by decide +kernel⟩
set_option maxRecDepth 100000 in
theorem cw_X6_55 : CWd RX6 55 yX3_changeProbe cX3_changeProbe 7 (some .int) 4 := ⟨lwm 370 (by decide +kernel), cd_X3_changeProbe, ini_X3, by decide +kernel, by decide +kernel⟩
set_option maxRecDepth 100000 in
theorem cw_X6_59 : CWd RX6 59 yX3_mendProbe cX3_mendProbe 5 (some .int) 2 := ⟨lwm 385 (by decide +kernel), cd_X3_mendProbe, ini_X3, by decide +kernel, by decide +kernel⟩
set_option maxRecDepth 100000 in
theorem cw_X6_62 : CWd RX6 62 yX3_putPallet cX3_putPallet 7 (some .int) 5 := ⟨lwm 394 (by decide +kernel), cd_X3_putPallet, ini_X3, by decide +kernel, by decide +kernel⟩
set_option maxRecDepth 100000 in
theorem cw_X6_66 : CWd RX6 66 yX3_turnDoor cX3_turnDoor 4 (some .int) 2 := ⟨lwm 421 (by decide +kernel), cd_X3_turnDoor, ini_X3, by decide +kernel, by decide +kernel⟩
set_option maxRecDepth 100000 in
theorem cw_X6_69 : CWd RX6 69 yX3_letPass cX3_letPass 6 (some .int) 2 := ⟨lwm 439 (by decide +kernel), cd_X3_letPass, ini_X3, by decide +kernel, by decide +kernel⟩
set_option maxRecDepth 100000 in
theorem cw_X6_73 : CWd RX6 73 yX3_handOver cX3_handOver 3 (some .int) 1 := ⟨lwm 503 (by decide +kernel), cd_X3_handOver, ini_X3, by decide +kernel, by decide +kernel⟩
set_option maxRecDepth 100000 in
theorem cw_X6_76 : CWd RX6 76 yX3_bringBack cX3_bringBack 4 (some .int) 2 := ⟨lwm 519 (by decide +kernel), cd_X3_bringBack, ini_X3, by decide +kernel, by decide +kernel⟩
set_option maxRecDepth 100000 in
theorem cw_X6_79 : CWd RX6 79 yX2_append cX2_append 2 (some .int) 1 := ⟨lwm 539 (by decide +kernel), cd_X2_append, ini_X2, by decide +kernel, by decide +kernel⟩
set_option maxRecDepth 100000 in
theorem cw_X6_86 : CWd RX6 86 yX2_read cX2_read 1 (some .int) 0 := ⟨lwm 554 (by decide +kernel), cd_X2_read, ini_X2, by decide +kernel, by decide +kernel⟩
set_option maxRecDepth 100000 in
theorem cw_X6_9 : CWd RX6 9 yX3_init cX3_init 2 none 0 := ⟨lwm 65 (by decide +kernel), cd_X3_init, ini_X3, by decide +kernel, by decide +kernel⟩
set_option maxRecDepth 100000 in
theorem cw_X6_94 : CWd RX6 94 yX6_runCommand cX6_runCommand 3 (some .int) 1 := ⟨lwm 581 (by decide +kernel), cd_X6_runCommand, ini_X6, by decide +kernel, by decide +kernel⟩
set_option maxRecDepth 100000 in
theorem cw_X6_97 : CWd RX6 97 yX6_isError cX6_isError 1 (some .boolean) 1 := ⟨lwm 338 (by decide +kernel), cd_X6_isError, ini_X6, by decide +kernel, by decide +kernel⟩
set_option maxRecDepth 100000 in
theorem cw_X7_101 : CWd RX7 101 yX7_minute cX7_minute 5 (some .int) 0 := ⟨lwm 825 (by decide +kernel), cd_X7_minute, ini_X7, by decide +kernel, by decide +kernel⟩
set_option maxRecDepth 100000 in
theorem cw_X7_105 : CWd RX7 105 yX7_isPallet cX7_isPallet 2 (some .boolean) 1 := ⟨lwm 864 (by decide +kernel), cd_X7_isPallet, ini_X7, by decide +kernel, by decide +kernel⟩
set_option maxRecDepth 100000 in
theorem cw_X7_108 : CWd RX7 108 yX7_isZone cX7_isZone 1 (some .boolean) 1 := ⟨lwm 764 (by decide +kernel), cd_X7_isZone, ini_X7, by decide +kernel, by decide +kernel⟩
set_option maxRecDepth 100000 in
theorem cw_X7_111 : CWd RX7 111 yX7_ends cX7_ends 3 (some .int) 1 := ⟨lwm 737 (by decide +kernel), cd_X7_ends, ini_X7, by decide +kernel, by decide +kernel⟩
set_option maxRecDepth 100000 in
theorem cw_X7_114 : CWd RX7 114 yX7_isCold cX7_isCold 2 (some .boolean) 2 := ⟨lwm 719 (by decide +kernel), cd_X7_isCold, ini_X7, by decide +kernel, by decide +kernel⟩
set_option maxRecDepth 100000 in
theorem cw_X7_117 : CWd RX7 117 yX7_hold cX7_hold 1 none 0 := ⟨lwm 727 (by decide +kernel), cd_X7_hold, ini_X7, by decide +kernel, by decide +kernel⟩
set_option maxRecDepth 100000 in
theorem cw_X7_120 : CWd RX7 120 yX7_isNumber cX7_isNumber 2 (some .boolean) 2 := ⟨lwm 745 (by decide +kernel), cd_X7_isNumber, ini_X7, by decide +kernel, by decide +kernel⟩
set_option maxRecDepth 100000 in
theorem cw_X7_123 : CWd RX7 123 yX7_isMode cX7_isMode 2 (some .boolean) 2 := ⟨lwm 767 (by decide +kernel), cd_X7_isMode, ini_X7, by decide +kernel, by decide +kernel⟩
set_option maxRecDepth 100000 in
theorem cw_X7_126 : CWd RX7 126 yX7_repairs cX7_repairs 5 (some .int) 2 := ⟨lwm 778 (by decide +kernel), cd_X7_repairs, ini_X7, by decide +kernel, by decide +kernel⟩
set_option maxRecDepth 100000 in
theorem cw_X7_129 : CWd RX7 129 yX7_done cX7_done 2 (some .int) 1 := ⟨lwm 782 (by decide +kernel), cd_X7_done, ini_X7, by decide +kernel, by decide +kernel⟩
set_option maxRecDepth 100000 in
theorem cw_X7_132 : CWd RX7 132 yX7_manyIn cX7_manyIn 5 (some .int) 2 := ⟨lwm 791 (by decide +kernel), cd_X7_manyIn, ini_X7, by decide +kernel, by decide +kernel⟩
set_option maxRecDepth 100000 in
theorem cw_X7_135 : CWd RX7 135 yX7_doors cX7_doors 3 (some .int) 2 := ⟨lwm 806 (by decide +kernel), cd_X7_doors, ini_X7, by decide +kernel, by decide +kernel⟩
set_option maxRecDepth 100000 in
theorem cw_X7_138 : CWd RX7 138 yX7_passes cX7_passes 4 (some .int) 1 := ⟨lwm 821 (by decide +kernel), cd_X7_passes, ini_X7, by decide +kernel, by decide +kernel⟩
set_option maxRecDepth 100000 in
theorem cw_X7_141 : CWd RX7 141 yX7_delivers cX7_delivers 2 (some .int) 1 := ⟨lwm 860 (by decide +kernel), cd_X7_delivers, ini_X7, by decide +kernel, by decide +kernel⟩
set_option maxRecDepth 100000 in
theorem cw_X7_150 : CWd RX7 150 yX7_isAt cX7_isAt 3 (some .boolean) 2 := ⟨lwm 892 (by decide +kernel), cd_X7_isAt, ini_X7, by decide +kernel, by decide +kernel⟩
set_option maxRecDepth 100000 in
theorem cw_X7_153 : CWd RX7 153 yX7_skips cX7_skips 1 none 0 := ⟨lwm 888 (by decide +kernel), cd_X7_skips, ini_X7, by decide +kernel, by decide +kernel⟩
set_option maxRecDepth 100000 in
theorem cw_X7_159 : CWd RX7 159 yX7_isFigure cX7_isFigure 4 (some .boolean) 1 := ⟨lwm 900 (by decide +kernel), cd_X7_isFigure, ini_X7, by decide +kernel, by decide +kernel⟩
set_option maxRecDepth 100000 in
theorem cw_X7_162 : CWd RX7 162 yX7_takes cX7_takes 3 (some .boolean) 1 := ⟨lwm 904 (by decide +kernel), cd_X7_takes, ini_X7, by decide +kernel, by decide +kernel⟩
set_option maxRecDepth 100000 in
theorem cw_X7_165 : CWd RX7 165 yX7_isCommand cX7_isCommand 1 (some .boolean) 0 := ⟨lwm 896 (by decide +kernel), cd_X7_isCommand, ini_X7, by decide +kernel, by decide +kernel⟩
set_option maxRecDepth 100000 in
theorem cw_X7_169 : CWd RX7 169 yX7_isScript cX7_isScript 1 (some .boolean) 0 := ⟨lwm 884 (by decide +kernel), cd_X7_isScript, ini_X7, by decide +kernel, by decide +kernel⟩
set_option maxRecDepth 100000 in
theorem cw_X7_173 : CWd RX7 173 yX7_does cX7_does 1 (some .int) 0 := ⟨lwm 909 (by decide +kernel), cd_X7_does, ini_X7, by decide +kernel, by decide +kernel⟩
set_option maxRecDepth 100000 in
theorem cw_X7_177 : CWd RX7 177 yX7_cause cX7_cause 2 (some .int) 1 := ⟨lwm 930 (by decide +kernel), cd_X7_cause, ini_X7, by decide +kernel, by decide +kernel⟩
set_option maxRecDepth 100000 in
theorem cw_X7_180 : CWd RX7 180 yX7_claim cX7_claim 6 (some .int) 2 := ⟨lwm 938 (by decide +kernel), cd_X7_claim, ini_X7, by decide +kernel, by decide +kernel⟩
set_option maxRecDepth 100000 in
theorem cw_X7_184 : CWd RX7 184 yX7_entry cX7_entry 5 (some .int) 4 := ⟨lwm 946 (by decide +kernel), cd_X7_entry, ini_X7, by decide +kernel, by decide +kernel⟩
set_option maxRecDepth 100000 in
theorem cw_X7_188 : CWd RX7 188 yX7_mayBeOpen cX7_mayBeOpen 6 (some .boolean) 2 := ⟨lwm 963 (by decide +kernel), cd_X7_mayBeOpen, ini_X7, by decide +kernel, by decide +kernel⟩
set_option maxRecDepth 100000 in
theorem cw_X7_35 : CWd RX7 35 yX7_copies cX7_copies 3 none 2 := ⟨lwm 731 (by decide +kernel), cd_X7_copies, ini_X7, by decide +kernel, by decide +kernel⟩
set_option maxRecDepth 100000 in
theorem cw_X7_43 : CWd RX7 43 yX7_in cX7_in 3 (some .boolean) 3 := ⟨lwm 722 (by decide +kernel), cd_X7_in, ini_X7, by decide +kernel, by decide +kernel⟩
set_option maxRecDepth 100000 in
theorem cw_X7_47 : CWd RX7 47 yX7_zoneSpot cX7_zoneSpot 2 (some .int) 2 := ⟨lwm 734 (by decide +kernel), cd_X7_zoneSpot, ini_X7, by decide +kernel, by decide +kernel⟩
set_option maxRecDepth 100000 in
theorem cw_X7_51 : CWd RX7 51 yX7_palletSpot cX7_palletSpot 1 (some .int) 1 := ⟨lwm 799 (by decide +kernel), cd_X7_palletSpot, ini_X7, by decide +kernel, by decide +kernel⟩
set_option maxRecDepth 100000 in
theorem cw_X7_55 : CWd RX7 55 yX7_at cX7_at 4 (some .int) 3 := ⟨lwm 770 (by decide +kernel), cd_X7_at, ini_X7, by decide +kernel, by decide +kernel⟩
set_option maxRecDepth 100000 in
theorem cw_X7_59 : CWd RX7 59 yX7_reading cX7_reading 4 (some .int) 2 := ⟨lwm 841 (by decide +kernel), cd_X7_reading, ini_X7, by decide +kernel, by decide +kernel⟩
set_option maxRecDepth 100000 in
theorem cw_X7_62 : CWd RX7 62 yX7_apart cX7_apart 2 (some .int) 2 := ⟨lwm 845 (by decide +kernel), cd_X7_apart, ini_X7, by decide +kernel, by decide +kernel⟩
set_option maxRecDepth 100000 in
theorem cw_X7_65 : CWd RX7 65 yX7_of cX7_of 3 (some .int) 2 := ⟨lwm 756 (by decide +kernel), cd_X7_of, ini_X7, by decide +kernel, by decide +kernel⟩
set_option maxRecDepth 100000 in
theorem cw_X7_68 : CWd RX7 68 yX7_isOdd cX7_isOdd 6 (some .boolean) 2 := ⟨lwm 837 (by decide +kernel), cd_X7_isOdd, ini_X7, by decide +kernel, by decide +kernel⟩
set_option maxRecDepth 100000 in
theorem cw_X7_72 : CWd RX7 72 yX7_its cX7_its 3 (some .int) 2 := ⟨lwm 795 (by decide +kernel), cd_X7_its, ini_X7, by decide +kernel, by decide +kernel⟩
set_option maxRecDepth 100000 in
theorem cw_X7_75 : CWd RX7 75 yX7_told cX7_told 4 (some .int) 2 := ⟨lwm 852 (by decide +kernel), cd_X7_told, ini_X7, by decide +kernel, by decide +kernel⟩
set_option maxRecDepth 100000 in
theorem cw_X7_78 : CWd RX7 78 yX7_heats cX7_heats 7 none 1 := ⟨lwm 829 (by decide +kernel), cd_X7_heats, ini_X7, by decide +kernel, by decide +kernel⟩
set_option maxRecDepth 100000 in
theorem cw_X7_82 : CWd RX7 82 yX7_reads cX7_reads 5 (some .int) 1 := ⟨lwm 833 (by decide +kernel), cd_X7_reads, ini_X7, by decide +kernel, by decide +kernel⟩
set_option maxRecDepth 100000 in
theorem cw_X7_85 : CWd RX7 85 yX7_warms cX7_warms 5 none 1 := ⟨lwm 848 (by decide +kernel), cd_X7_warms, ini_X7, by decide +kernel, by decide +kernel⟩
set_option maxRecDepth 100000 in
theorem cw_X7_88 : CWd RX7 88 yX7_isVan cX7_isVan 2 (some .boolean) 1 := ⟨lwm 752 (by decide +kernel), cd_X7_isVan, ini_X7, by decide +kernel, by decide +kernel⟩
set_option maxRecDepth 100000 in
theorem cw_X7_94 : CWd RX7 94 yX7_inVan cX7_inVan 4 (some .int) 1 := ⟨lwm 810 (by decide +kernel), cd_X7_inVan, ini_X7, by decide +kernel, by decide +kernel⟩
set_option maxRecDepth 100000 in
theorem cw_X7_97 : CWd RX7 97 yX7_bits cX7_bits 3 (some .int) 1 := ⟨lwm 814 (by decide +kernel), cd_X7_bits, ini_X7, by decide +kernel, by decide +kernel⟩
set_option maxRecDepth 100000 in
theorem fn_X4_42 : Cond.fieldLinkNest RX4 42 "ColdChain" "WARMING" "[I" "ColdChain" ∈ lw_tbl := lwm 451 (by decide +kernel)
