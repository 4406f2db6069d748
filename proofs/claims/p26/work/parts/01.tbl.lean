-- ===== PART A: goes FIRST, ahead of the names: the tables' words, and 'selects' of the private methods out of them =====
/-- a private method of a class that the tables say can be made, by its rows of tables_1 -/
def lw_okq (q : MethodName × Nat) : Prop := (q.1.cls ≠ "java/lang/invoke/MethodHandle" ∧ q.1.cls ≠ "java/lang/invoke/VarHandle") ∧ Cond.instantiable q.1.cls q.2 ∈ tables_1 ∧ Cond.privateMethod q.1 ∈ tables_1 ∧ Cond.instanceMethod q.1 ∈ tables_1
theorem lw_p0 : lw_okq (⟨"ColdChain", "noteState", "()V"⟩, 7) := ⟨⟨by decide +kernel, by decide +kernel⟩, List.mem_of_getElem? (i := 11) (by decide +kernel), List.mem_of_getElem? (i := 331) (by decide +kernel), List.mem_of_getElem? (i := 332) (by decide +kernel)⟩
theorem lw_p1 : lw_okq (⟨"ColdChain", "kept", "(I)I"⟩, 7) := ⟨⟨by decide +kernel, by decide +kernel⟩, List.mem_of_getElem? (i := 11) (by decide +kernel), List.mem_of_getElem? (i := 368) (by decide +kernel), List.mem_of_getElem? (i := 369) (by decide +kernel)⟩
theorem lw_p2 : lw_okq (⟨"ColdChain$State", "palletsInZone", "(II)I"⟩, 8) := ⟨⟨by decide +kernel, by decide +kernel⟩, List.mem_of_getElem? (i := 19) (by decide +kernel), List.mem_of_getElem? (i := 434) (by decide +kernel), List.mem_of_getElem? (i := 435) (by decide +kernel)⟩
theorem lw_p3 : lw_okq (⟨"ColdChain$State", "shareByValues", "(II)V"⟩, 8) := ⟨⟨by decide +kernel, by decide +kernel⟩, List.mem_of_getElem? (i := 19) (by decide +kernel), List.mem_of_getElem? (i := 489) (by decide +kernel), List.mem_of_getElem? (i := 490) (by decide +kernel)⟩
theorem lw_p4 : lw_okq (⟨"ColdChain$State", "shareRest", "(II)I"⟩, 8) := ⟨⟨by decide +kernel, by decide +kernel⟩, List.mem_of_getElem? (i := 19) (by decide +kernel), List.mem_of_getElem? (i := 493) (by decide +kernel), List.mem_of_getElem? (i := 494) (by decide +kernel)⟩
theorem lw_p5 : lw_okq (⟨"ColdChain$Van", "isOdd", "(II)Z"⟩, 5) := ⟨⟨by decide +kernel, by decide +kernel⟩, List.mem_of_getElem? (i := 28) (by decide +kernel), List.mem_of_getElem? (i := 534) (by decide +kernel), List.mem_of_getElem? (i := 535) (by decide +kernel)⟩
def lw_privs_1 : List (MethodName × Nat) := [(⟨"ColdChain", "noteState", "()V"⟩, 7), (⟨"ColdChain", "kept", "(I)I"⟩, 7), (⟨"ColdChain$State", "palletsInZone", "(II)I"⟩, 8), (⟨"ColdChain$State", "shareByValues", "(II)V"⟩, 8), (⟨"ColdChain$State", "shareRest", "(II)I"⟩, 8), (⟨"ColdChain$Van", "isOdd", "(II)Z"⟩, 5)]
theorem lw_r1 : ∀ q ∈ lw_privs_1, lw_okq q := List.forall_mem_cons.mpr ⟨lw_p0, List.forall_mem_cons.mpr ⟨lw_p1, List.forall_mem_cons.mpr ⟨lw_p2, List.forall_mem_cons.mpr ⟨lw_p3, List.forall_mem_cons.mpr ⟨lw_p4, List.forall_mem_cons.mpr ⟨lw_p5, fun _ h => absurd h List.not_mem_nil⟩⟩⟩⟩⟩⟩
def lw_privs : List (MethodName × Nat) := lw_privs_1
def lw_tbl : List Cond := k2_sels lw_privs ++ tables_1
theorem lw_privs_ok : ∀ q ∈ lw_privs, lw_okq q := lw_r1
/-- words that hold in every warmer state -/
def wOK : Cond → Bool
  | .fieldLinkNest .. => true
  | .methodLinkNest .. => true
  | .arrayOver (.object _) => true
  | .arrayOver (.array _) => true
  | w => goodWord w
def RX0 : String := "ColdChain$History"
def TX0 : u_T := fun k => match k with
  | 0 => ("ColdChain$History", "temperatures", "[[I", true)
  | _ => ("ColdChain$History", "toldOnes", "[[I", true)
def tyX0 : Nat → FieldType := fun k => match k with
  | 0 => .array (.array .int)
  | _ => .array (.array .int)
abbrev wsX00 : List Cond := u_ws RX0 TX0 2
set_option maxRecDepth 100000 in
theorem inX0 : ∀ w ∈ u_ws RX0 TX0 2, w ∈ lw_tbl := by decide +kernel
theorem nmX0 : ∀ a, a < 2 → ∀ b, b < 2 → a ≠ b → (TX0 a).2.1 ≠ (TX0 b).2.1 := by decide +kernel
theorem tyX0_ok : ∀ k, k < 2 → parseFieldDescriptor (TX0 k).2.2.1 = some (tyX0 k) := by decide +kernel
abbrev cX0_init : ByteArray := prog_2_method_1_code
def yX0_init : MethodName := ⟨RX0, "<init>", "()V"⟩
abbrev cX0_write : ByteArray := prog_2_method_2_code
def yX0_write : MethodName := ⟨RX0, "write", "(IILColdChain$Van;)V"⟩
abbrev cX0_row : ByteArray := prog_2_method_3_code
def yX0_row : MethodName := ⟨RX0, "row", "(III)[I"⟩
def RX1 : String := "ColdChain$Pallet"
def TX1 : u_T := fun k => match k with
  | 0 => ("ColdChain$Pallet", "van", "I", false)
  | 1 => ("ColdChain$Pallet", "zone", "I", false)
  | 2 => ("ColdChain$Pallet", "limit", "I", false)
  | 3 => ("ColdChain$Pallet", "allowance", "I", false)
  | 4 => ("ColdChain$Pallet", "value", "I", false)
  | 5 => ("ColdChain$Pallet", "state", "I", false)
  | 6 => ("ColdChain$Pallet", "openMinutes", "I", false)
  | 7 => ("ColdChain$Pallet", "closedMinutes", "I", false)
  | 8 => ("ColdChain$Pallet", "toldMinutes", "I", false)
  | _ => ("ColdChain$Pallet", "part", "I", false)
def tyX1 : Nat → FieldType := fun k => match k with
  | 0 => .int
  | 1 => .int
  | 2 => .int
  | 3 => .int
  | 4 => .int
  | 5 => .int
  | 6 => .int
  | 7 => .int
  | 8 => .int
  | _ => .int
abbrev wsX10 : List Cond := u_ws RX1 TX1 10
set_option maxRecDepth 100000 in
theorem inX1 : ∀ w ∈ u_ws RX1 TX1 10, w ∈ lw_tbl := by decide +kernel
theorem nmX1 : ∀ a, a < 10 → ∀ b, b < 10 → a ≠ b → (TX1 a).2.1 ≠ (TX1 b).2.1 := by decide +kernel
theorem tyX1_ok : ∀ k, k < 10 → parseFieldDescriptor (TX1 k).2.2.1 = some (tyX1 k) := by decide +kernel
abbrev cX1_init : ByteArray := prog_3_method_1_code
def yX1_init : MethodName := ⟨RX1, "<init>", "()V"⟩
abbrev cX1_copyFrom : ByteArray := prog_3_method_2_code
def yX1_copyFrom : MethodName := ⟨RX1, "copyFrom", "(LColdChain$Pallet;)V"⟩
abbrev cX1_start : ByteArray := prog_3_method_3_code
def yX1_start : MethodName := ⟨RX1, "start", "(IIIII)V"⟩
abbrev cX1_isIn : ByteArray := prog_3_method_4_code
def yX1_isIn : MethodName := ⟨RX1, "isIn", "(I)Z"⟩
abbrev cX1_isOverdue : ByteArray := prog_3_method_5_code
def yX1_isOverdue : MethodName := ⟨RX1, "isOverdue", "()Z"⟩
abbrev cX1_addMinute : ByteArray := prog_3_method_6_code
def yX1_addMinute : MethodName := ⟨RX1, "addMinute", "(LColdChain$Van;)V"⟩
abbrev cX1_wasRejected : ByteArray := prog_3_method_7_code
def yX1_wasRejected : MethodName := ⟨RX1, "wasRejected", "()Z"⟩
abbrev cX1_cause : ByteArray := prog_3_method_8_code
def yX1_cause : MethodName := ⟨RX1, "cause", "()I"⟩
abbrev cX1_claim : ByteArray := prog_3_method_9_code
def yX1_claim : MethodName := ⟨RX1, "claim", "()I"⟩
abbrev cX1_claimBy : ByteArray := prog_3_method_10_code
def yX1_claimBy : MethodName := ⟨RX1, "claimBy", "(I)I"⟩
abbrev cX1_property : ByteArray := prog_3_method_11_code
def yX1_property : MethodName := ⟨RX1, "property", "(I)I"⟩
def RX2 : String := "ColdChain$Script"
def TX2 : u_T := fun k => match k with
  | 0 => ("ColdChain$Script", "text", "[C", true)
  | 1 => ("ColdChain$Script", "length", "I", false)
  | 2 => ("ColdChain$Script", "at", "I", false)
  | 3 => ("ColdChain$Script", "letters", "[I", true)
  | 4 => ("ColdChain$Script", "firsts", "[I", true)
  | 5 => ("ColdChain$Script", "seconds", "[I", true)
  | _ => ("ColdChain$Script", "commandCount", "I", false)
def tyX2 : Nat → FieldType := fun k => match k with
  | 0 => .array .char
  | 1 => .int
  | 2 => .int
  | 3 => .array .int
  | 4 => .array .int
  | 5 => .array .int
  | _ => .int
abbrev wsX20 : List Cond := u_ws RX2 TX2 7
set_option maxRecDepth 100000 in
theorem inX2 : ∀ w ∈ u_ws RX2 TX2 7, w ∈ lw_tbl := by decide +kernel
theorem nmX2 : ∀ a, a < 7 → ∀ b, b < 7 → a ≠ b → (TX2 a).2.1 ≠ (TX2 b).2.1 := by decide +kernel
theorem tyX2_ok : ∀ k, k < 7 → parseFieldDescriptor (TX2 k).2.2.1 = some (tyX2 k) := by decide +kernel
abbrev cX2_init : ByteArray := prog_4_method_1_code
def yX2_init : MethodName := ⟨RX2, "<init>", "()V"⟩
def RX3 : String := "ColdChain$State"
def TX3 : u_T := fun k => match k with
  | 0 => ("ColdChain$State", "time", "I", false)
  | 1 => ("ColdChain$State", "outside", "I", false)
  | 2 => ("ColdChain$State", "difference", "I", false)
  | 3 => ("ColdChain$State", "patience", "I", false)
  | 4 => ("ColdChain$State", "vanCount", "I", false)
  | 5 => ("ColdChain$State", "palletCount", "I", false)
  | 6 => ("ColdChain$State", "vans", "[LColdChain$Van;", true)
  | _ => ("ColdChain$State", "pallets", "[LColdChain$Pallet;", true)
def tyX3 : Nat → FieldType := fun k => match k with
  | 0 => .int
  | 1 => .int
  | 2 => .int
  | 3 => .int
  | 4 => .int
  | 5 => .int
  | 6 => .array (.object "ColdChain$Van")
  | _ => .array (.object "ColdChain$Pallet")
abbrev wsX30 : List Cond := u_ws RX3 TX3 8
set_option maxRecDepth 100000 in
theorem inX3 : ∀ w ∈ u_ws RX3 TX3 8, w ∈ lw_tbl := by decide +kernel
theorem nmX3 : ∀ a, a < 8 → ∀ b, b < 8 → a ≠ b → (TX3 a).2.1 ≠ (TX3 b).2.1 := by decide +kernel
theorem tyX3_ok : ∀ k, k < 8 → parseFieldDescriptor (TX3 k).2.2.1 = some (tyX3 k) := by decide +kernel
abbrev cX3_init : ByteArray := prog_5_method_1_code
def yX3_init : MethodName := ⟨RX3, "<init>", "()V"⟩
abbrev cX3_copyFrom : ByteArray := prog_5_method_2_code
def yX3_copyFrom : MethodName := ⟨RX3, "copyFrom", "(LColdChain$State;)V"⟩
abbrev cX3_hasVan : ByteArray := prog_5_method_3_code
def yX3_hasVan : MethodName := ⟨RX3, "hasVan", "(I)Z"⟩
abbrev cX3_hasZone : ByteArray := prog_5_method_4_code
def yX3_hasZone : MethodName := ⟨RX3, "hasZone", "(II)Z"⟩
abbrev cX3_hasPallet : ByteArray := prog_5_method_5_code
def yX3_hasPallet : MethodName := ⟨RX3, "hasPallet", "(I)Z"⟩
abbrev cX3_foundProbes : ByteArray := prog_5_method_6_code
def yX3_foundProbes : MethodName := ⟨RX3, "foundProbes", "()I"⟩
abbrev cX3_palletsIn : ByteArray := prog_5_method_7_code
def yX3_palletsIn : MethodName := ⟨RX3, "palletsIn", "(I)I"⟩
abbrev cX3_palletsInZone : ByteArray := prog_5_method_8_code
def yX3_palletsInZone : MethodName := ⟨RX3, "palletsInZone", "(II)I"⟩
abbrev cX3_putVan : ByteArray := prog_5_method_10_code
def yX3_putVan : MethodName := ⟨RX3, "putVan", "(II)I"⟩
abbrev cX3_changeNumber : ByteArray := prog_5_method_11_code
def yX3_changeNumber : MethodName := ⟨RX3, "changeNumber", "(II)I"⟩
abbrev cX3_changeVan : ByteArray := prog_5_method_12_code
def yX3_changeVan : MethodName := ⟨RX3, "changeVan", "(III)I"⟩
abbrev cX3_changeProbe : ByteArray := prog_5_method_13_code
def yX3_changeProbe : MethodName := ⟨RX3, "changeProbe", "(IIII)I"⟩
abbrev cX3_mendProbe : ByteArray := prog_5_method_14_code
def yX3_mendProbe : MethodName := ⟨RX3, "mendProbe", "(II)I"⟩
abbrev cX3_putPallet : ByteArray := prog_5_method_15_code
def yX3_putPallet : MethodName := ⟨RX3, "putPallet", "(IIIII)I"⟩
abbrev cX3_turnDoor : ByteArray := prog_5_method_16_code
def yX3_turnDoor : MethodName := ⟨RX3, "turnDoor", "(II)I"⟩
abbrev cX3_letPass : ByteArray := prog_5_method_17_code
def yX3_letPass : MethodName := ⟨RX3, "letPass", "(ILColdChain$History;)I"⟩
abbrev cX3_minuteInVan : ByteArray := prog_5_method_18_code
def yX3_minuteInVan : MethodName := ⟨RX3, "minuteInVan", "(I)I"⟩
abbrev cX3_handOver : ByteArray := prog_5_method_19_code
def yX3_handOver : MethodName := ⟨RX3, "handOver", "(I)I"⟩
abbrev cX3_bringBack : ByteArray := prog_5_method_20_code
def yX3_bringBack : MethodName := ⟨RX3, "bringBack", "(II)I"⟩
abbrev cX3_isIn : ByteArray := prog_5_method_21_code
def yX3_isIn : MethodName := ⟨RX3, "isIn", "(II)Z"⟩
abbrev cX3_shareByValues : ByteArray := prog_5_method_22_code
def yX3_shareByValues : MethodName := ⟨RX3, "shareByValues", "(II)V"⟩
abbrev cX3_shareRest : ByteArray := prog_5_method_23_code
def yX3_shareRest : MethodName := ⟨RX3, "shareRest", "(II)I"⟩
def RX4 : String := "ColdChain$Van"
def TX4 : u_T := fun k => match k with
  | 0 => ("ColdChain$Van", "setPoint", "I", false)
  | 1 => ("ColdChain$Van", "cooling", "I", false)
  | 2 => ("ColdChain$Van", "open", "Z", false)
  | 3 => ("ColdChain$Van", "addedAt", "I", false)
  | _ => ("ColdChain$Van", "zones", "[LColdChain$Zone;", true)
def tyX4 : Nat → FieldType := fun k => match k with
  | 0 => .int
  | 1 => .int
  | 2 => .boolean
  | 3 => .int
  | _ => .array (.object "ColdChain$Zone")
abbrev wsX40 : List Cond := u_ws RX4 TX4 5
set_option maxRecDepth 100000 in
theorem inX4 : ∀ w ∈ u_ws RX4 TX4 5, w ∈ lw_tbl := by decide +kernel
theorem nmX4 : ∀ a, a < 5 → ∀ b, b < 5 → a ≠ b → (TX4 a).2.1 ≠ (TX4 b).2.1 := by decide +kernel
theorem tyX4_ok : ∀ k, k < 5 → parseFieldDescriptor (TX4 k).2.2.1 = some (tyX4 k) := by decide +kernel
abbrev cX4_init : ByteArray := prog_6_method_1_code
def yX4_init : MethodName := ⟨RX4, "<init>", "()V"⟩
abbrev cX4_copyFrom : ByteArray := prog_6_method_2_code
def yX4_copyFrom : MethodName := ⟨RX4, "copyFrom", "(LColdChain$Van;)V"⟩
abbrev cX4_start : ByteArray := prog_6_method_3_code
def yX4_start : MethodName := ⟨RX4, "start", "(III)V"⟩
abbrev cX4_changeTemperatures : ByteArray := prog_6_method_4_code
def yX4_changeTemperatures : MethodName := ⟨RX4, "changeTemperatures", "(I)V"⟩
abbrev cX4_mixAir : ByteArray := prog_6_method_5_code
def yX4_mixAir : MethodName := ⟨RX4, "mixAir", "()V"⟩
abbrev cX4_findProbes : ByteArray := prog_6_method_6_code
def yX4_findProbes : MethodName := ⟨RX4, "findProbes", "(II)I"⟩
abbrev cX4_isOdd : ByteArray := prog_6_method_7_code
def yX4_isOdd : MethodName := ⟨RX4, "isOdd", "(II)Z"⟩
abbrev cX4_toldIn : ByteArray := prog_6_method_8_code
def yX4_toldIn : MethodName := ⟨RX4, "toldIn", "(I)I"⟩
def RX5 : String := "ColdChain$Zone"
def TX5 : u_T := fun k => match k with
  | 0 => ("ColdChain$Zone", "temperature", "I", false)
  | 1 => ("ColdChain$Zone", "mode", "I", false)
  | 2 => ("ColdChain$Zone", "value", "I", false)
  | 3 => ("ColdChain$Zone", "found", "Z", false)
  | _ => ("ColdChain$Zone", "oddMinutes", "I", false)
def tyX5 : Nat → FieldType := fun k => match k with
  | 0 => .int
  | 1 => .int
  | 2 => .int
  | 3 => .boolean
  | _ => .int
abbrev wsX50 : List Cond := u_ws RX5 TX5 5
set_option maxRecDepth 100000 in
theorem inX5 : ∀ w ∈ u_ws RX5 TX5 5, w ∈ lw_tbl := by decide +kernel
theorem nmX5 : ∀ a, a < 5 → ∀ b, b < 5 → a ≠ b → (TX5 a).2.1 ≠ (TX5 b).2.1 := by decide +kernel
theorem tyX5_ok : ∀ k, k < 5 → parseFieldDescriptor (TX5 k).2.2.1 = some (tyX5 k) := by decide +kernel
abbrev cX5_init : ByteArray := prog_7_method_1_code
def yX5_init : MethodName := ⟨RX5, "<init>", "()V"⟩
abbrev cX5_copyFrom : ByteArray := prog_7_method_2_code
def yX5_copyFrom : MethodName := ⟨RX5, "copyFrom", "(LColdChain$Zone;)V"⟩
abbrev cX5_mend : ByteArray := prog_7_method_3_code
def yX5_mend : MethodName := ⟨RX5, "mend", "()V"⟩
abbrev cX5_reading : ByteArray := prog_7_method_4_code
def yX5_reading : MethodName := ⟨RX5, "reading", "()I"⟩
abbrev cX5_coolTo : ByteArray := prog_7_method_5_code
def yX5_coolTo : MethodName := ⟨RX5, "coolTo", "(II)V"⟩
def RX6 : String := "ColdChain"
def TX6 : u_T := fun k => match k with
  | 0 => ("ColdChain", "now", "LColdChain$State;", true)
  | 1 => ("ColdChain", "trial", "LColdChain$State;", true)
  | 2 => ("ColdChain", "saved", "[LColdChain$State;", true)
  | 3 => ("ColdChain", "free", "I", false)
  | 4 => ("ColdChain", "savedCount", "I", false)
  | 5 => ("ColdChain", "history", "LColdChain$History;", true)
  | _ => ("ColdChain", "script", "LColdChain$Script;", true)
def tyX6 : Nat → FieldType := fun k => match k with
  | 0 => .object "ColdChain$State"
  | 1 => .object "ColdChain$State"
  | 2 => .array (.object "ColdChain$State")
  | 3 => .int
  | 4 => .int
  | 5 => .object "ColdChain$History"
  | _ => .object "ColdChain$Script"
abbrev wsX60 : List Cond := u_ws RX6 TX6 7
set_option maxRecDepth 100000 in
theorem inX6 : ∀ w ∈ u_ws RX6 TX6 7, w ∈ lw_tbl := by decide +kernel
theorem nmX6 : ∀ a, a < 7 → ∀ b, b < 7 → a ≠ b → (TX6 a).2.1 ≠ (TX6 b).2.1 := by decide +kernel
theorem tyX6_ok : ∀ k, k < 7 → parseFieldDescriptor (TX6 k).2.2.1 = some (tyX6 k) := by decide +kernel
abbrev cX6_init : ByteArray := prog_1_method_1_code
def yX6_init : MethodName := ⟨RX6, "<init>", "()V"⟩
abbrev cX6_addVan : ByteArray := prog_1_method_2_code
def yX6_addVan : MethodName := ⟨RX6, "addVan", "(II)I"⟩
abbrev cX6_setNumber : ByteArray := prog_1_method_3_code
def yX6_setNumber : MethodName := ⟨RX6, "setNumber", "(II)I"⟩
abbrev cX6_setVan : ByteArray := prog_1_method_4_code
def yX6_setVan : MethodName := ⟨RX6, "setVan", "(III)I"⟩
abbrev cX6_setProbe : ByteArray := prog_1_method_5_code
def yX6_setProbe : MethodName := ⟨RX6, "setProbe", "(IIII)I"⟩
abbrev cX6_repair : ByteArray := prog_1_method_6_code
def yX6_repair : MethodName := ⟨RX6, "repair", "(II)I"⟩
abbrev cX6_loadPallet : ByteArray := prog_1_method_7_code
def yX6_loadPallet : MethodName := ⟨RX6, "loadPallet", "(IIIII)I"⟩
abbrev cX6_door : ByteArray := prog_1_method_8_code
def yX6_door : MethodName := ⟨RX6, "door", "(II)I"⟩
abbrev cX6_pass : ByteArray := prog_1_method_9_code
def yX6_pass : MethodName := ⟨RX6, "pass", "(I)I"⟩
abbrev cX6_deliver : ByteArray := prog_1_method_10_code
def yX6_deliver : MethodName := ⟨RX6, "deliver", "(I)I"⟩
abbrev cX6_detour : ByteArray := prog_1_method_11_code
def yX6_detour : MethodName := ⟨RX6, "detour", "(II)I"⟩
abbrev cX6_count : ByteArray := prog_1_method_15_code
def yX6_count : MethodName := ⟨RX6, "count", "(I)I"⟩
abbrev cX6_van : ByteArray := prog_1_method_16_code
def yX6_van : MethodName := ⟨RX6, "van", "(II)I"⟩
abbrev cX6_zone : ByteArray := prog_1_method_17_code
def yX6_zone : MethodName := ⟨RX6, "zone", "(III)I"⟩
abbrev cX6_pallet : ByteArray := prog_1_method_18_code
def yX6_pallet : MethodName := ⟨RX6, "pallet", "(II)I"⟩
abbrev cX6_claims : ByteArray := prog_1_method_19_code
def yX6_claims : MethodName := ⟨RX6, "claims", "(I)I"⟩
abbrev cX6_noteState : ByteArray := prog_1_method_25_code
def yX6_noteState : MethodName := ⟨RX6, "noteState", "()V"⟩
abbrev cX6_kept : ByteArray := prog_1_method_26_code
def yX6_kept : MethodName := ⟨RX6, "kept", "(I)I"⟩
abbrev cX6_isError : ByteArray := prog_1_method_27_code
def yX6_isError : MethodName := ⟨RX6, "isError", "(I)Z"⟩
abbrev cX6_isWithin : ByteArray := prog_1_method_30_code
def yX6_isWithin : MethodName := ⟨RX6, "isWithin", "(III)Z"⟩
abbrev cX6_isVanSetting : ByteArray := prog_1_method_31_code
def yX6_isVanSetting : MethodName := ⟨RX6, "isVanSetting", "(II)Z"⟩
abbrev cX6_isProbeSetting : ByteArray := prog_1_method_32_code
def yX6_isProbeSetting : MethodName := ⟨RX6, "isProbeSetting", "(II)Z"⟩
abbrev cX6_isLimit : ByteArray := prog_1_method_33_code
def yX6_isLimit : MethodName := ⟨RX6, "isLimit", "(I)Z"⟩
abbrev cX6_isPrice : ByteArray := prog_1_method_34_code
def yX6_isPrice : MethodName := ⟨RX6, "isPrice", "(I)Z"⟩
def RX7 : String := "ColdChainModel"
def TX7 : u_T := fun k => match k with
  | _ => ("", "", "", false)
def tyX7 : Nat → FieldType := fun k => match k with
  | _ => .int
abbrev wsX70 : List Cond := u_ws RX7 TX7 0
set_option maxRecDepth 100000 in
theorem inX7 : ∀ w ∈ u_ws RX7 TX7 0, w ∈ lw_tbl := by decide +kernel
theorem nmX7 : ∀ a, a < 0 → ∀ b, b < 0 → a ≠ b → (TX7 a).2.1 ≠ (TX7 b).2.1 := by decide +kernel
theorem tyX7_ok : ∀ k, k < 0 → parseFieldDescriptor (TX7 k).2.2.1 = some (tyX7 k) := by decide +kernel
def RJ6 : String := "java/lang/Integer"
abbrev cJ6_bitCount_0f7a4 : ByteArray := prog_10_method_49_code
def yJ6_bitCount_0f7a4 : MethodName := ⟨RJ6, "bitCount", "(I)I"⟩
def RJ9 : String := "java/lang/Math"
abbrev cJ9_floorDiv_7cf53 : ByteArray := prog_11_method_47_code
def yJ9_floorDiv_7cf53 : MethodName := ⟨RJ9, "floorDiv", "(II)I"⟩
abbrev cJ9_abs_0f7a4 : ByteArray := prog_11_method_59_code
def yJ9_abs_0f7a4 : MethodName := ⟨RJ9, "abs", "(I)I"⟩
abbrev cJ9_max_7cf53 : ByteArray := prog_11_method_65_code
def yJ9_max_7cf53 : MethodName := ⟨RJ9, "max", "(II)I"⟩
abbrev cJ9_min_7cf53 : ByteArray := prog_11_method_69_code
def yJ9_min_7cf53 : MethodName := ⟨RJ9, "min", "(II)I"⟩
def RL : String := "ColdChainLaw"
abbrev cL_cell : ByteArray := method_2_code
def yL_cell : MethodName := ⟨RL, "cell", "([II)I"⟩
abbrev cL_low : ByteArray := method_3_code
def yL_low : MethodName := ⟨RL, "low", "(II)I"⟩
abbrev cL_spot : ByteArray := method_4_code
def yL_spot : MethodName := ⟨RL, "spot", "(I)I"⟩
abbrev cL_read : ByteArray := method_5_code
def yL_read : MethodName := ⟨RL, "read", "([II)I"⟩
abbrev cL_told : ByteArray := method_6_code
def yL_told : MethodName := ⟨RL, "told", "([II)I"⟩
abbrev cL_apart : ByteArray := method_7_code
def yL_apart : MethodName := ⟨RL, "apart", "(II)I"⟩
abbrev cL_isOdd : ByteArray := method_8_code
def yL_isOdd : MethodName := ⟨RL, "isOdd", "([I[II)Z"⟩
abbrev cL_vanMinute : ByteArray := method_9_code
def yL_vanMinute : MethodName := ⟨RL, "vanMinute", "([I[II)I"⟩
abbrev cL_passes : ByteArray := method_10_code
def yL_passes : MethodName := ⟨RL, "passes", "([I[I[II)I"⟩
abbrev cL_inside : ByteArray := method_11_code
def yL_inside : MethodName := ⟨RL, "inside", "([I[II)I"⟩
abbrev cL_many : ByteArray := method_12_code
def yL_many : MethodName := ⟨RL, "many", "(I)I"⟩
abbrev cL_adds : ByteArray := method_13_code
def yL_adds : MethodName := ⟨RL, "adds", "(LColdChain;[I[III)Z"⟩
abbrev cL_shares : ByteArray := method_14_code
def yL_shares : MethodName := ⟨RL, "shares", "([I[III)I"⟩
abbrev cL_acts : ByteArray := method_15_code
def yL_acts : MethodName := ⟨RL, "acts", "(LColdChain;[I[I[II)Z"⟩
abbrev cL_cause : ByteArray := method_16_code
def yL_cause : MethodName := ⟨RL, "cause", "([II)I"⟩
abbrev cL_isSo : ByteArray := method_17_code
def yL_isSo : MethodName := ⟨RL, "isSo", "(LColdChain;[I[I[I)Z"⟩
abbrev cL_law : ByteArray := code
def yL_law : MethodName := ⟨RL, "law", "([I)Z"⟩
abbrev vwCl : List vw_C := [(RX0, TX0, 2), (RX1, TX1, 10), (RX2, TX2, 7), (RX3, TX3, 8), (RX4, TX4, 5), (RX5, TX5, 5), (RX6, TX6, 7)]
