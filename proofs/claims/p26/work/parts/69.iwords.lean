set_option maxRecDepth 100000 in
theorem cl_L_35 : Cond.classLink RL 35 "ColdChain" ∈ lw_tbl := lwm 16 (by decide +kernel)
set_option maxRecDepth 100000 in
theorem it_X6 : Cond.instantiable RX6 7 ∈ lw_tbl := lwm 17 (by decide +kernel)
set_option maxRecDepth 100000 in
theorem oi_X6 : Cond.methodLink RX6 1 Lib.objectInit ∈ lw_tbl := lwm 21 (by decide +kernel)
set_option maxRecDepth 100000 in
theorem oi_m : Cond.instanceMethod Lib.objectInit ∈ lw_tbl := lwm 22 (by decide +kernel)
set_option maxRecDepth 100000 in
theorem oi_c : Cond.code Lib.objectInit ⟨#[0xb1]⟩ 1 none ∈ lw_tbl := lwm 23 (by decide +kernel)
set_option maxRecDepth 100000 in
theorem cl_X6_7 : Cond.classLink RX6 7 "ColdChain$State" ∈ lw_tbl := lwm 24 (by decide +kernel)
set_option maxRecDepth 100000 in
theorem it_X3 : Cond.instantiable RX3 8 ∈ lw_tbl := lwm 25 (by decide +kernel)
set_option maxRecDepth 100000 in
theorem oi_X3 : Cond.methodLink RX3 3 Lib.objectInit ∈ lw_tbl := lwm 29 (by decide +kernel)
set_option maxRecDepth 100000 in
theorem cl_X3_21 : Cond.classLink RX3 21 "ColdChain$Van" ∈ lw_tbl := lwm 30 (by decide +kernel)
set_option maxRecDepth 100000 in
theorem ao_X4 : Cond.arrayOver (.object RX4) ∈ lw_tbl := lwm 31 (by decide +kernel)
set_option maxRecDepth 100000 in
theorem cl_X3_27 : Cond.classLink RX3 27 "ColdChain$Pallet" ∈ lw_tbl := lwm 32 (by decide +kernel)
set_option maxRecDepth 100000 in
theorem ao_X1 : Cond.arrayOver (.object RX1) ∈ lw_tbl := lwm 33 (by decide +kernel)
set_option maxRecDepth 100000 in
theorem it_X4 : Cond.instantiable RX4 5 ∈ lw_tbl := lwm 34 (by decide +kernel)
set_option maxRecDepth 100000 in
theorem oi_X4 : Cond.methodLink RX4 3 Lib.objectInit ∈ lw_tbl := lwm 38 (by decide +kernel)
set_option maxRecDepth 100000 in
theorem cl_X4_9 : Cond.classLink RX4 9 "ColdChain$Zone" ∈ lw_tbl := lwm 39 (by decide +kernel)
set_option maxRecDepth 100000 in
theorem ao_X5 : Cond.arrayOver (.object RX5) ∈ lw_tbl := lwm 40 (by decide +kernel)
set_option maxRecDepth 100000 in
theorem it_X5 : Cond.instantiable RX5 5 ∈ lw_tbl := lwm 41 (by decide +kernel)
set_option maxRecDepth 100000 in
theorem oi_X5 : Cond.methodLink RX5 3 Lib.objectInit ∈ lw_tbl := lwm 45 (by decide +kernel)
set_option maxRecDepth 100000 in
theorem it_X1 : Cond.instantiable RX1 10 ∈ lw_tbl := lwm 101 (by decide +kernel)
set_option maxRecDepth 100000 in
theorem oi_X1 : Cond.methodLink RX1 3 Lib.objectInit ∈ lw_tbl := lwm 105 (by decide +kernel)
set_option maxRecDepth 100000 in
theorem ao_X3 : Cond.arrayOver (.object RX3) ∈ lw_tbl := lwm 175 (by decide +kernel)
set_option maxRecDepth 100000 in
theorem cl_X6_23 : Cond.classLink RX6 23 "ColdChain$History" ∈ lw_tbl := lwm 176 (by decide +kernel)
set_option maxRecDepth 100000 in
theorem it_X0 : Cond.instantiable RX0 2 ∈ lw_tbl := lwm 177 (by decide +kernel)
set_option maxRecDepth 100000 in
theorem oi_X0 : Cond.methodLink RX0 3 Lib.objectInit ∈ lw_tbl := lwm 181 (by decide +kernel)
set_option maxRecDepth 100000 in
theorem cl_X0_9 : Cond.classLink RX0 9 "[[I" ∈ lw_tbl := lwm 182 (by decide +kernel)
set_option maxRecDepth 100000 in
theorem ao_int : Cond.arrayOver (.array .int) ∈ lw_tbl := lwm 183 (by decide +kernel)
set_option maxRecDepth 100000 in
theorem ac_int : Cond.arrayClass .int ∈ lw_tbl := lwm 191 (by decide +kernel)
set_option maxRecDepth 100000 in
theorem cl_X6_30 : Cond.classLink RX6 30 "ColdChain$Script" ∈ lw_tbl := lwm 192 (by decide +kernel)
set_option maxRecDepth 100000 in
theorem it_X2 : Cond.instantiable RX2 7 ∈ lw_tbl := lwm 193 (by decide +kernel)
set_option maxRecDepth 100000 in
theorem oi_X2 : Cond.methodLink RX2 3 Lib.objectInit ∈ lw_tbl := lwm 197 (by decide +kernel)
set_option maxRecDepth 100000 in
theorem ac_char : Cond.arrayClass .char ∈ lw_tbl := lwm 218 (by decide +kernel)
