set_option maxRecDepth 100000 in
theorem cl_L_7 : Cond.classLink RL 7 "ColdChain" ∈ lw_tbl := lwm 55 (by decide +kernel)
set_option maxRecDepth 100000 in
theorem it_X6 : Cond.instantiable RX6 7 ∈ lw_tbl := lwm 56 (by decide +kernel)
set_option maxRecDepth 100000 in
theorem oi_X6 : Cond.methodLink RX6 1 Lib.objectInit ∈ lw_tbl := lwm 60 (by decide +kernel)
set_option maxRecDepth 100000 in
theorem oi_m : Cond.instanceMethod Lib.objectInit ∈ lw_tbl := lwm 61 (by decide +kernel)
set_option maxRecDepth 100000 in
theorem oi_c : Cond.code Lib.objectInit ⟨#[0xb1]⟩ 1 none ∈ lw_tbl := lwm 62 (by decide +kernel)
set_option maxRecDepth 100000 in
theorem cl_X6_7 : Cond.classLink RX6 7 "ColdChain$State" ∈ lw_tbl := lwm 63 (by decide +kernel)
set_option maxRecDepth 100000 in
theorem it_X3 : Cond.instantiable RX3 8 ∈ lw_tbl := lwm 64 (by decide +kernel)
set_option maxRecDepth 100000 in
theorem oi_X3 : Cond.methodLink RX3 3 Lib.objectInit ∈ lw_tbl := lwm 68 (by decide +kernel)
set_option maxRecDepth 100000 in
theorem cl_X3_21 : Cond.classLink RX3 21 "ColdChain$Van" ∈ lw_tbl := lwm 69 (by decide +kernel)
set_option maxRecDepth 100000 in
theorem ao_X4 : Cond.arrayOver (.object RX4) ∈ lw_tbl := lwm 70 (by decide +kernel)
set_option maxRecDepth 100000 in
theorem cl_X3_27 : Cond.classLink RX3 27 "ColdChain$Pallet" ∈ lw_tbl := lwm 71 (by decide +kernel)
set_option maxRecDepth 100000 in
theorem ao_X1 : Cond.arrayOver (.object RX1) ∈ lw_tbl := lwm 72 (by decide +kernel)
set_option maxRecDepth 100000 in
theorem it_X4 : Cond.instantiable RX4 5 ∈ lw_tbl := lwm 73 (by decide +kernel)
set_option maxRecDepth 100000 in
theorem oi_X4 : Cond.methodLink RX4 3 Lib.objectInit ∈ lw_tbl := lwm 77 (by decide +kernel)
set_option maxRecDepth 100000 in
theorem cl_X4_9 : Cond.classLink RX4 9 "ColdChain$Zone" ∈ lw_tbl := lwm 78 (by decide +kernel)
set_option maxRecDepth 100000 in
theorem ao_X5 : Cond.arrayOver (.object RX5) ∈ lw_tbl := lwm 79 (by decide +kernel)
set_option maxRecDepth 100000 in
theorem it_X5 : Cond.instantiable RX5 5 ∈ lw_tbl := lwm 80 (by decide +kernel)
set_option maxRecDepth 100000 in
theorem oi_X5 : Cond.methodLink RX5 3 Lib.objectInit ∈ lw_tbl := lwm 84 (by decide +kernel)
set_option maxRecDepth 100000 in
theorem it_X1 : Cond.instantiable RX1 10 ∈ lw_tbl := lwm 141 (by decide +kernel)
set_option maxRecDepth 100000 in
theorem oi_X1 : Cond.methodLink RX1 3 Lib.objectInit ∈ lw_tbl := lwm 145 (by decide +kernel)
set_option maxRecDepth 100000 in
theorem ao_X3 : Cond.arrayOver (.object RX3) ∈ lw_tbl := lwm 217 (by decide +kernel)
set_option maxRecDepth 100000 in
theorem cl_X6_23 : Cond.classLink RX6 23 "ColdChain$History" ∈ lw_tbl := lwm 218 (by decide +kernel)
set_option maxRecDepth 100000 in
theorem it_X0 : Cond.instantiable RX0 2 ∈ lw_tbl := lwm 219 (by decide +kernel)
set_option maxRecDepth 100000 in
theorem oi_X0 : Cond.methodLink RX0 3 Lib.objectInit ∈ lw_tbl := lwm 223 (by decide +kernel)
set_option maxRecDepth 100000 in
theorem cl_X0_9 : Cond.classLink RX0 9 "[[I" ∈ lw_tbl := lwm 224 (by decide +kernel)
set_option maxRecDepth 100000 in
theorem ao_int : Cond.arrayOver (.array .int) ∈ lw_tbl := lwm 225 (by decide +kernel)
set_option maxRecDepth 100000 in
theorem ac_int : Cond.arrayClass .int ∈ lw_tbl := lwm 233 (by decide +kernel)
set_option maxRecDepth 100000 in
theorem cl_X6_30 : Cond.classLink RX6 30 "ColdChain$Script" ∈ lw_tbl := lwm 234 (by decide +kernel)
set_option maxRecDepth 100000 in
theorem it_X2 : Cond.instantiable RX2 7 ∈ lw_tbl := lwm 235 (by decide +kernel)
set_option maxRecDepth 100000 in
theorem oi_X2 : Cond.methodLink RX2 3 Lib.objectInit ∈ lw_tbl := lwm 239 (by decide +kernel)
set_option maxRecDepth 100000 in
theorem ac_char : Cond.arrayClass .char ∈ lw_tbl := lwm 267 (by decide +kernel)
set_option maxRecDepth 100000 in
theorem cl_L_10 : Cond.classLink RL 10 "ColdChainModel" ∈ lw_tbl := lwm 672 (by decide +kernel)
set_option maxRecDepth 100000 in
theorem it_X7 : Cond.instantiable RX7 12 ∈ lw_tbl := lwm 673 (by decide +kernel)
set_option maxRecDepth 100000 in
theorem oi_X7 : Cond.methodLink RX7 1 Lib.objectInit ∈ lw_tbl := lwm 677 (by decide +kernel)
