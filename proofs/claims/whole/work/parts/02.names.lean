def RX0 : String := "Graphline$Batch"
def TX0 : u_T := fun k => match k with
  | 0 => ("Graphline$Batch", "number", "I", true)
  | 1 => ("Graphline$Batch", "mixture", "LGraphline$Mixture;", true)
  | 2 => ("Graphline$Batch", "bore", "I", true)
  | 3 => ("Graphline$Batch", "leads", "I", false)
  | 4 => ("Graphline$Batch", "warped", "I", false)
  | 5 => ("Graphline$Batch", "ready", "I", false)
  | 6 => ("Graphline$Batch", "strength", "I", false)
  | 7 => ("Graphline$Batch", "darkness", "I", false)
  | 8 => ("Graphline$Batch", "firing", "I", false)
  | 9 => ("Graphline$Batch", "kiln", "I", false)
  | 10 => ("Graphline$Batch", "isDried", "Z", false)
  | _ => ("Graphline$Batch", "isSoaked", "Z", false)
def tyX0 : Nat → FieldType := fun k => match k with
  | 0 => .int
  | 1 => .object "Graphline$Mixture"
  | 2 => .int
  | 3 => .int
  | 4 => .int
  | 5 => .int
  | 6 => .int
  | 7 => .int
  | 8 => .int
  | 9 => .int
  | 10 => .boolean
  | _ => .boolean
abbrev wsX00 : List Cond := u_ws RX0 TX0 12
theorem nmX0 : ∀ a, a < 12 → ∀ b, b < 12 → a ≠ b → (TX0 a).2.1 ≠ (TX0 b).2.1 := by decide +kernel
theorem tyX0_ok : ∀ k, k < 12 → parseFieldDescriptor (TX0 k).2.2.1 = some (tyX0 k) := by decide +kernel
abbrev cX0_init : ByteArray := prog_2_method_1_code
def yX0_init : MethodName := ⟨RX0, "<init>", "(ILGraphline$Mixture;II)V"⟩
abbrev cX0_isFired : ByteArray := prog_2_method_2_code
def yX0_isFired : MethodName := ⟨RX0, "isFired", "()Z"⟩
def RX1 : String := "Graphline$Drive"
def TX1 : u_T := fun k => match k with
  | 0 => ("Graphline$Drive", "mill", "LGraphline$Machine;", true)
  | 1 => ("Graphline$Drive", "press", "LGraphline$Machine;", true)
  | 2 => ("Graphline$Drive", "groover", "LGraphline$Machine;", true)
  | 3 => ("Graphline$Drive", "coater", "LGraphline$Machine;", true)
  | _ => ("Graphline$Drive", "shaftTurns", "Z", false)
def tyX1 : Nat → FieldType := fun k => match k with
  | 0 => .object "Graphline$Machine"
  | 1 => .object "Graphline$Machine"
  | 2 => .object "Graphline$Machine"
  | 3 => .object "Graphline$Machine"
  | _ => .boolean
abbrev wsX10 : List Cond := u_ws RX1 TX1 5
theorem nmX1 : ∀ a, a < 5 → ∀ b, b < 5 → a ≠ b → (TX1 a).2.1 ≠ (TX1 b).2.1 := by decide +kernel
theorem tyX1_ok : ∀ k, k < 5 → parseFieldDescriptor (TX1 k).2.2.1 = some (tyX1 k) := by decide +kernel
abbrev cX1_init : ByteArray := prog_3_method_1_code
def yX1_init : MethodName := ⟨RX1, "<init>", "()V"⟩
abbrev cX1_moves : ByteArray := prog_3_method_2_code
def yX1_moves : MethodName := ⟨RX1, "moves", "(LGraphline$Machine;)Z"⟩
abbrev cX1_hangsOn : ByteArray := prog_3_method_3_code
def yX1_hangsOn : MethodName := ⟨RX1, "hangsOn", "(LGraphline$Machine;LGraphline$Machine;)Z"⟩
abbrev cX1_hasNoRing : ByteArray := prog_3_method_4_code
def yX1_hasNoRing : MethodName := ⟨RX1, "hasNoRing", "()Z"⟩
abbrev cX1_hangsOnShaft : ByteArray := prog_3_method_5_code
def yX1_hangsOnShaft : MethodName := ⟨RX1, "hangsOnShaft", "(LGraphline$Machine;)Z"⟩
def RX2 : String := "Graphline$Gross"
def TX2 : u_T := fun k => match k with
  | 0 => ("Graphline$Gross", "grade", "I", true)
  | 1 => ("Graphline$Gross", "parts", "Ljava/util/ArrayList;", true)
  | 2 => ("Graphline$Gross", "pencils", "I", false)
  | _ => ("Graphline$Gross", "isShipped", "Z", false)
def tyX2 : Nat → FieldType := fun k => match k with
  | 0 => .int
  | 1 => .object "java/util/ArrayList"
  | 2 => .int
  | _ => .boolean
abbrev wsX20 : List Cond := u_ws RX2 TX2 4
theorem nmX2 : ∀ a, a < 4 → ∀ b, b < 4 → a ≠ b → (TX2 a).2.1 ≠ (TX2 b).2.1 := by decide +kernel
theorem tyX2_ok : ∀ k, k < 4 → parseFieldDescriptor (TX2 k).2.2.1 = some (tyX2 k) := by decide +kernel
abbrev cX2_init : ByteArray := prog_4_method_1_code
def yX2_init : MethodName := ⟨RX2, "<init>", "(I)V"⟩
def RX3 : String := "Graphline$Lot"
def TX3 : u_T := fun k => match k with
  | 0 => ("Graphline$Lot", "kind", "C", true)
  | 1 => ("Graphline$Lot", "purity", "I", true)
  | 2 => ("Graphline$Lot", "size", "I", true)
  | _ => ("Graphline$Lot", "kilos", "I", false)
def tyX3 : Nat → FieldType := fun k => match k with
  | 0 => .char
  | 1 => .int
  | 2 => .int
  | _ => .int
abbrev wsX30 : List Cond := u_ws RX3 TX3 4
theorem nmX3 : ∀ a, a < 4 → ∀ b, b < 4 → a ≠ b → (TX3 a).2.1 ≠ (TX3 b).2.1 := by decide +kernel
theorem tyX3_ok : ∀ k, k < 4 → parseFieldDescriptor (TX3 k).2.2.1 = some (tyX3 k) := by decide +kernel
abbrev cX3_init : ByteArray := prog_5_method_1_code
def yX3_init : MethodName := ⟨RX3, "<init>", "(CIII)V"⟩
def RX4 : String := "Graphline$Machine"
def TX4 : u_T := fun k => match k with
  | 0 => ("Graphline$Machine", "name", "C", true)
  | 1 => ("Graphline$Machine", "isOn", "Z", false)
  | _ => ("Graphline$Machine", "driver", "LGraphline$Machine;", false)
def tyX4 : Nat → FieldType := fun k => match k with
  | 0 => .char
  | 1 => .boolean
  | _ => .object "Graphline$Machine"
abbrev wsX40 : List Cond := u_ws RX4 TX4 3
theorem nmX4 : ∀ a, a < 3 → ∀ b, b < 3 → a ≠ b → (TX4 a).2.1 ≠ (TX4 b).2.1 := by decide +kernel
theorem tyX4_ok : ∀ k, k < 3 → parseFieldDescriptor (TX4 k).2.2.1 = some (tyX4 k) := by decide +kernel
abbrev cX4_init : ByteArray := prog_6_method_1_code
def yX4_init : MethodName := ⟨RX4, "<init>", "(C)V"⟩
def RX5 : String := "Graphline$Mixture"
def TX5 : u_T := fun k => match k with
  | 0 => ("Graphline$Mixture", "graphite", "I", true)
  | 1 => ("Graphline$Mixture", "clay", "I", true)
  | 2 => ("Graphline$Mixture", "carbon", "I", true)
  | 3 => ("Graphline$Mixture", "fineness", "I", true)
  | _ => ("Graphline$Mixture", "kilos", "I", false)
def tyX5 : Nat → FieldType := fun k => match k with
  | 0 => .int
  | 1 => .int
  | 2 => .int
  | 3 => .int
  | _ => .int
abbrev wsX50 : List Cond := u_ws RX5 TX5 5
theorem nmX5 : ∀ a, a < 5 → ∀ b, b < 5 → a ≠ b → (TX5 a).2.1 ≠ (TX5 b).2.1 := by decide +kernel
theorem tyX5_ok : ∀ k, k < 5 → parseFieldDescriptor (TX5 k).2.2.1 = some (tyX5 k) := by decide +kernel
abbrev cX5_init : ByteArray := prog_7_method_1_code
def yX5_init : MethodName := ⟨RX5, "<init>", "(IIIII)V"⟩
def RX6 : String := "Graphline$Order"
def TX6 : u_T := fun k => match k with
  | 0 => ("Graphline$Order", "grade", "I", true)
  | 1 => ("Graphline$Order", "until", "I", true)
  | 2 => ("Graphline$Order", "lacks", "I", false)
  | _ => ("Graphline$Order", "wasShippedLate", "Z", false)
def tyX6 : Nat → FieldType := fun k => match k with
  | 0 => .int
  | 1 => .int
  | 2 => .int
  | _ => .boolean
abbrev wsX60 : List Cond := u_ws RX6 TX6 4
theorem nmX6 : ∀ a, a < 4 → ∀ b, b < 4 → a ≠ b → (TX6 a).2.1 ≠ (TX6 b).2.1 := by decide +kernel
theorem tyX6_ok : ∀ k, k < 4 → parseFieldDescriptor (TX6 k).2.2.1 = some (tyX6 k) := by decide +kernel
abbrev cX6_init : ByteArray := prog_8_method_1_code
def yX6_init : MethodName := ⟨RX6, "<init>", "(III)V"⟩
def RX7 : String := "Graphline$Part"
def TX7 : u_T := fun k => match k with
  | 0 => ("Graphline$Part", "run", "LGraphline$Run;", true)
  | 1 => ("Graphline$Part", "pencils", "I", true)
  | _ => ("Graphline$Part", "broken", "I", true)
def tyX7 : Nat → FieldType := fun k => match k with
  | 0 => .object "Graphline$Run"
  | 1 => .int
  | _ => .int
abbrev wsX70 : List Cond := u_ws RX7 TX7 3
theorem nmX7 : ∀ a, a < 3 → ∀ b, b < 3 → a ≠ b → (TX7 a).2.1 ≠ (TX7 b).2.1 := by decide +kernel
theorem tyX7_ok : ∀ k, k < 3 → parseFieldDescriptor (TX7 k).2.2.1 = some (tyX7 k) := by decide +kernel
abbrev cX7_init : ByteArray := prog_9_method_1_code
def yX7_init : MethodName := ⟨RX7, "<init>", "(LGraphline$Run;II)V"⟩
def RX8 : String := "Graphline$Run"
def TX8 : u_T := fun k => match k with
  | 0 => ("Graphline$Run", "number", "I", true)
  | 1 => ("Graphline$Run", "batch", "LGraphline$Batch;", true)
  | 2 => ("Graphline$Run", "slats", "LGraphline$SlatLot;", true)
  | 3 => ("Graphline$Run", "hand", "I", true)
  | 4 => ("Graphline$Run", "offCentre", "I", true)
  | 5 => ("Graphline$Run", "pencils", "I", false)
  | 6 => ("Graphline$Run", "broken", "I", false)
  | 7 => ("Graphline$Run", "coats", "I", false)
  | 8 => ("Graphline$Run", "colour", "I", false)
  | 9 => ("Graphline$Run", "stamp", "I", false)
  | 10 => ("Graphline$Run", "ready", "I", false)
  | _ => ("Graphline$Run", "hasErasers", "Z", false)
def tyX8 : Nat → FieldType := fun k => match k with
  | 0 => .int
  | 1 => .object "Graphline$Batch"
  | 2 => .object "Graphline$SlatLot"
  | 3 => .int
  | 4 => .int
  | 5 => .int
  | 6 => .int
  | 7 => .int
  | 8 => .int
  | 9 => .int
  | 10 => .int
  | _ => .boolean
abbrev wsX80 : List Cond := u_ws RX8 TX8 12
theorem nmX8 : ∀ a, a < 12 → ∀ b, b < 12 → a ≠ b → (TX8 a).2.1 ≠ (TX8 b).2.1 := by decide +kernel
theorem tyX8_ok : ∀ k, k < 12 → parseFieldDescriptor (TX8 k).2.2.1 = some (tyX8 k) := by decide +kernel
abbrev cX8_init : ByteArray := prog_10_method_1_code
def yX8_init : MethodName := ⟨RX8, "<init>", "(ILGraphline$Batch;LGraphline$SlatLot;IIII)V"⟩
abbrev cX8_isStamped : ByteArray := prog_10_method_2_code
def yX8_isStamped : MethodName := ⟨RX8, "isStamped", "()Z"⟩
def RX9 : String := "Graphline$SlatLot"
def TX9 : u_T := fun k => match k with
  | 0 => ("Graphline$SlatLot", "number", "I", true)
  | 1 => ("Graphline$SlatLot", "wood", "C", true)
  | 2 => ("Graphline$SlatLot", "grain", "I", true)
  | 3 => ("Graphline$SlatLot", "wetness", "I", false)
  | 4 => ("Graphline$SlatLot", "many", "I", false)
  | 5 => ("Graphline$SlatLot", "width", "I", false)
  | _ => ("Graphline$SlatLot", "ready", "I", false)
def tyX9 : Nat → FieldType := fun k => match k with
  | 0 => .int
  | 1 => .char
  | 2 => .int
  | 3 => .int
  | 4 => .int
  | 5 => .int
  | _ => .int
abbrev wsX90 : List Cond := u_ws RX9 TX9 7
theorem nmX9 : ∀ a, a < 7 → ∀ b, b < 7 → a ≠ b → (TX9 a).2.1 ≠ (TX9 b).2.1 := by decide +kernel
theorem tyX9_ok : ∀ k, k < 7 → parseFieldDescriptor (TX9 k).2.2.1 = some (tyX9 k) := by decide +kernel
abbrev cX9_init : ByteArray := prog_11_method_1_code
def yX9_init : MethodName := ⟨RX9, "<init>", "(ICIII)V"⟩
abbrev cX9_isGrooved : ByteArray := prog_11_method_2_code
def yX9_isGrooved : MethodName := ⟨RX9, "isGrooved", "()Z"⟩
def RX10 : String := "Graphline$Wheel"
def TX10 : u_T := fun k => match k with
  | 0 => ("Graphline$Wheel", "bias", "I", false)
  | _ => ("Graphline$Wheel", "drawsSinceDrift", "I", false)
def tyX10 : Nat → FieldType := fun k => match k with
  | 0 => .int
  | _ => .int
abbrev wsX100 : List Cond := u_ws RX10 TX10 2
theorem nmX10 : ∀ a, a < 2 → ∀ b, b < 2 → a ≠ b → (TX10 a).2.1 ≠ (TX10 b).2.1 := by decide +kernel
theorem tyX10_ok : ∀ k, k < 2 → parseFieldDescriptor (TX10 k).2.2.1 = some (tyX10 k) := by decide +kernel
abbrev cX10_init : ByteArray := prog_12_method_1_code
def yX10_init : MethodName := ⟨RX10, "<init>", "()V"⟩
abbrev cX10_tell : ByteArray := prog_12_method_2_code
def yX10_tell : MethodName := ⟨RX10, "tell", "(I)I"⟩
abbrev cX10_takeBias : ByteArray := prog_12_method_3_code
def yX10_takeBias : MethodName := ⟨RX10, "takeBias", "()I"⟩
def RX11 : String := "Graphline"
def TX11 : u_T := fun k => match k with
  | 0 => ("Graphline", "drive", "LGraphline$Drive;", true)
  | 1 => ("Graphline", "wheel", "LGraphline$Wheel;", true)
  | 2 => ("Graphline", "lots", "Ljava/util/ArrayList;", true)
  | 3 => ("Graphline", "mixtures", "Ljava/util/ArrayList;", true)
  | 4 => ("Graphline", "batches", "Ljava/util/ArrayList;", true)
  | 5 => ("Graphline", "slatLots", "Ljava/util/ArrayList;", true)
  | 6 => ("Graphline", "runs", "Ljava/util/ArrayList;", true)
  | 7 => ("Graphline", "grosses", "Ljava/util/ArrayList;", true)
  | 8 => ("Graphline", "orders", "Ljava/util/ArrayList;", true)
  | 9 => ("Graphline", "dieWear", "[I", true)
  | 10 => ("Graphline", "kilnReady", "[I", true)
  | 11 => ("Graphline", "clock", "I", false)
  | 12 => ("Graphline", "firings", "I", false)
  | 13 => ("Graphline", "z", "I", false)
  | 14 => ("Graphline", "laid", "I", false)
  | _ => ("Graphline", "sampled", "I", false)
def tyX11 : Nat → FieldType := fun k => match k with
  | 0 => .object "Graphline$Drive"
  | 1 => .object "Graphline$Wheel"
  | 2 => .object "java/util/ArrayList"
  | 3 => .object "java/util/ArrayList"
  | 4 => .object "java/util/ArrayList"
  | 5 => .object "java/util/ArrayList"
  | 6 => .object "java/util/ArrayList"
  | 7 => .object "java/util/ArrayList"
  | 8 => .object "java/util/ArrayList"
  | 9 => .array .int
  | 10 => .array .int
  | 11 => .int
  | 12 => .int
  | 13 => .int
  | 14 => .int
  | _ => .int
abbrev wsX110 : List Cond := u_ws RX11 TX11 16
theorem nmX11 : ∀ a, a < 16 → ∀ b, b < 16 → a ≠ b → (TX11 a).2.1 ≠ (TX11 b).2.1 := by decide +kernel
theorem tyX11_ok : ∀ k, k < 16 → parseFieldDescriptor (TX11 k).2.2.1 = some (tyX11 k) := by decide +kernel
abbrev cX11_init : ByteArray := prog_1_method_1_code
def yX11_init : MethodName := ⟨RX11, "<init>", "()V"⟩
abbrev cX11_go : ByteArray := prog_1_method_2_code
def yX11_go : MethodName := ⟨RX11, "go", "(I)I"⟩
abbrev cX11_shaft : ByteArray := prog_1_method_3_code
def yX11_shaft : MethodName := ⟨RX11, "shaft", "(Z)Z"⟩
abbrev cX11_belt : ByteArray := prog_1_method_4_code
def yX11_belt : MethodName := ⟨RX11, "belt", "(CC)C"⟩
abbrev cX11_on : ByteArray := prog_1_method_5_code
def yX11_on : MethodName := ⟨RX11, "on", "(CZ)Z"⟩
abbrev cX11_runs : ByteArray := prog_1_method_6_code
def yX11_runs : MethodName := ⟨RX11, "runs", "(C)Z"⟩
abbrev cX11_lot : ByteArray := prog_1_method_7_code
def yX11_lot : MethodName := ⟨RX11, "lot", "(CIII)I"⟩
abbrev cX11_kilos : ByteArray := prog_1_method_8_code
def yX11_kilos : MethodName := ⟨RX11, "kilos", "(I)I"⟩
abbrev cX11_mix : ByteArray := prog_1_method_9_code
def yX11_mix : MethodName := ⟨RX11, "mix", "(IIIII)I"⟩
abbrev cX11_mixture : ByteArray := prog_1_method_10_code
def yX11_mixture : MethodName := ⟨RX11, "mixture", "(IC)I"⟩
abbrev cX11_press : ByteArray := prog_1_method_11_code
def yX11_press : MethodName := ⟨RX11, "press", "(III)I"⟩
abbrev cX11_worn : ByteArray := prog_1_method_12_code
def yX11_worn : MethodName := ⟨RX11, "worn", "(I)I"⟩
abbrev cX11_renew : ByteArray := prog_1_method_13_code
def yX11_renew : MethodName := ⟨RX11, "renew", "(I)I"⟩
abbrev cX11_dry : ByteArray := prog_1_method_14_code
def yX11_dry : MethodName := ⟨RX11, "dry", "(II)I"⟩
abbrev cX11_fire : ByteArray := prog_1_method_15_code
def yX11_fire : MethodName := ⟨RX11, "fire", "(IIII)I"⟩
abbrev cX11_soak : ByteArray := prog_1_method_16_code
def yX11_soak : MethodName := ⟨RX11, "soak", "(II)I"⟩
abbrev cX11_batch : ByteArray := prog_1_method_17_code
def yX11_batch : MethodName := ⟨RX11, "batch", "(IC)I"⟩
abbrev cX11_draw : ByteArray := prog_1_method_18_code
def yX11_draw : MethodName := ⟨RX11, "draw", "(I)I"⟩
abbrev cX11_check : ByteArray := prog_1_method_19_code
def yX11_check : MethodName := ⟨RX11, "check", "()I"⟩
abbrev cX11_slats : ByteArray := prog_1_method_20_code
def yX11_slats : MethodName := ⟨RX11, "slats", "(CIII)I"⟩
abbrev cX11_season : ByteArray := prog_1_method_21_code
def yX11_season : MethodName := ⟨RX11, "season", "(II)I"⟩
abbrev cX11_groove : ByteArray := prog_1_method_22_code
def yX11_groove : MethodName := ⟨RX11, "groove", "(II)I"⟩
abbrev cX11_slat : ByteArray := prog_1_method_23_code
def yX11_slat : MethodName := ⟨RX11, "slat", "(IC)I"⟩
abbrev cX11_lay : ByteArray := prog_1_method_24_code
def yX11_lay : MethodName := ⟨RX11, "lay", "(IICII)I"⟩
abbrev cX11_coat : ByteArray := prog_1_method_25_code
def yX11_coat : MethodName := ⟨RX11, "coat", "(II)I"⟩
abbrev cX11_stamp : ByteArray := prog_1_method_26_code
def yX11_stamp : MethodName := ⟨RX11, "stamp", "(I)I"⟩
abbrev cX11_erase : ByteArray := prog_1_method_27_code
def yX11_erase : MethodName := ⟨RX11, "erase", "(II)I"⟩
abbrev cX11_run : ByteArray := prog_1_method_28_code
def yX11_run : MethodName := ⟨RX11, "run", "(IC)I"⟩
abbrev cX11_fall : ByteArray := prog_1_method_29_code
def yX11_fall : MethodName := ⟨RX11, "fall", "(II)I"⟩
abbrev cX11_sample : ByteArray := prog_1_method_30_code
def yX11_sample : MethodName := ⟨RX11, "sample", "(II)I"⟩
abbrev cX11_seed : ByteArray := prog_1_method_31_code
def yX11_seed : MethodName := ⟨RX11, "seed", "(I)I"⟩
abbrev cX11_gross : ByteArray := prog_1_method_32_code
def yX11_gross : MethodName := ⟨RX11, "gross", "(I)I"⟩
abbrev cX11_pack : ByteArray := prog_1_method_33_code
def yX11_pack : MethodName := ⟨RX11, "pack", "(III)I"⟩
abbrev cX11_order : ByteArray := prog_1_method_34_code
def yX11_order : MethodName := ⟨RX11, "order", "(III)I"⟩
abbrev cX11_ship : ByteArray := prog_1_method_35_code
def yX11_ship : MethodName := ⟨RX11, "ship", "(II)I"⟩
abbrev cX11_isLate : ByteArray := prog_1_method_36_code
def yX11_isLate : MethodName := ⟨RX11, "isLate", "(I)Z"⟩
abbrev cX11_claim : ByteArray := prog_1_method_37_code
def yX11_claim : MethodName := ⟨RX11, "claim", "(I)Z"⟩
abbrev cX11_parts : ByteArray := prog_1_method_38_code
def yX11_parts : MethodName := ⟨RX11, "parts", "(I)I"⟩
abbrev cX11_trace : ByteArray := prog_1_method_39_code
def yX11_trace : MethodName := ⟨RX11, "trace", "(IIC)I"⟩
abbrev cX11_missing : ByteArray := prog_1_method_40_code
def yX11_missing : MethodName := ⟨RX11, "missing", "()I"⟩
abbrev cX11_checksum : ByteArray := prog_1_method_41_code
def yX11_checksum : MethodName := ⟨RX11, "checksum", "()J"⟩
abbrev cX11_brokenShare : ByteArray := prog_1_method_42_code
def yX11_brokenShare : MethodName := ⟨RX11, "brokenShare", "()F"⟩
abbrev cX11_meanDarkness : ByteArray := prog_1_method_43_code
def yX11_meanDarkness : MethodName := ⟨RX11, "meanDarkness", "()D"⟩
abbrev cX11_isSound : ByteArray := prog_1_method_44_code
def yX11_isSound : MethodName := ⟨RX11, "isSound", "()Z"⟩
abbrev cX11_isOutside : ByteArray := prog_1_method_45_code
def yX11_isOutside : MethodName := ⟨RX11, "isOutside", "(III)Z"⟩
abbrev cX11_clamped : ByteArray := prog_1_method_46_code
def yX11_clamped : MethodName := ⟨RX11, "clamped", "(III)I"⟩
abbrev cX11_gradeOf : ByteArray := prog_1_method_47_code
def yX11_gradeOf : MethodName := ⟨RX11, "gradeOf", "(I)I"⟩
abbrev cX11_pencilsOfTwoSlats : ByteArray := prog_1_method_48_code
def yX11_pencilsOfTwoSlats : MethodName := ⟨RX11, "pencilsOfTwoSlats", "(C)I"⟩
abbrev cX11_machineNamed : ByteArray := prog_1_method_49_code
def yX11_machineNamed : MethodName := ⟨RX11, "machineNamed", "(C)LGraphline$Machine;"⟩
abbrev cX11_lotNumbered : ByteArray := prog_1_method_50_code
def yX11_lotNumbered : MethodName := ⟨RX11, "lotNumbered", "(I)LGraphline$Lot;"⟩
abbrev cX11_mixtureNumbered : ByteArray := prog_1_method_51_code
def yX11_mixtureNumbered : MethodName := ⟨RX11, "mixtureNumbered", "(I)LGraphline$Mixture;"⟩
abbrev cX11_batchNumbered : ByteArray := prog_1_method_52_code
def yX11_batchNumbered : MethodName := ⟨RX11, "batchNumbered", "(I)LGraphline$Batch;"⟩
abbrev cX11_slatLotNumbered : ByteArray := prog_1_method_53_code
def yX11_slatLotNumbered : MethodName := ⟨RX11, "slatLotNumbered", "(I)LGraphline$SlatLot;"⟩
abbrev cX11_runNumbered : ByteArray := prog_1_method_54_code
def yX11_runNumbered : MethodName := ⟨RX11, "runNumbered", "(I)LGraphline$Run;"⟩
abbrev cX11_grossNumbered : ByteArray := prog_1_method_55_code
def yX11_grossNumbered : MethodName := ⟨RX11, "grossNumbered", "(I)LGraphline$Gross;"⟩
abbrev cX11_partNumbered : ByteArray := prog_1_method_56_code
def yX11_partNumbered : MethodName := ⟨RX11, "partNumbered", "(LGraphline$Gross;I)LGraphline$Part;"⟩
abbrev cX11_orderNumbered : ByteArray := prog_1_method_57_code
def yX11_orderNumbered : MethodName := ⟨RX11, "orderNumbered", "(I)LGraphline$Order;"⟩
abbrev cX11_pencilsInRuns : ByteArray := prog_1_method_58_code
def yX11_pencilsInRuns : MethodName := ⟨RX11, "pencilsInRuns", "()I"⟩
abbrev cX11_areGrossesOfOneGrade : ByteArray := prog_1_method_59_code
def yX11_areGrossesOfOneGrade : MethodName := ⟨RX11, "areGrossesOfOneGrade", "()Z"⟩
abbrev cX11_areBrokenAmongPencils : ByteArray := prog_1_method_60_code
def yX11_areBrokenAmongPencils : MethodName := ⟨RX11, "areBrokenAmongPencils", "()Z"⟩
def RX12 : String := "GraphlineModel$Batch"
def TX12 : u_T := fun k => match k with
  | 0 => ("GraphlineModel$Batch", "mixture", "I", false)
  | 1 => ("GraphlineModel$Batch", "leads", "I", false)
  | 2 => ("GraphlineModel$Batch", "warped", "I", false)
  | 3 => ("GraphlineModel$Batch", "bore", "I", false)
  | 4 => ("GraphlineModel$Batch", "ready", "I", false)
  | 5 => ("GraphlineModel$Batch", "dried", "Z", false)
  | 6 => ("GraphlineModel$Batch", "firing", "I", false)
  | 7 => ("GraphlineModel$Batch", "kiln", "I", false)
  | 8 => ("GraphlineModel$Batch", "soaked", "Z", false)
  | 9 => ("GraphlineModel$Batch", "strength", "I", false)
  | _ => ("GraphlineModel$Batch", "darkness", "I", false)
def tyX12 : Nat → FieldType := fun k => match k with
  | 0 => .int
  | 1 => .int
  | 2 => .int
  | 3 => .int
  | 4 => .int
  | 5 => .boolean
  | 6 => .int
  | 7 => .int
  | 8 => .boolean
  | 9 => .int
  | _ => .int
abbrev wsX120 : List Cond := u_ws RX12 TX12 11
theorem nmX12 : ∀ a, a < 11 → ∀ b, b < 11 → a ≠ b → (TX12 a).2.1 ≠ (TX12 b).2.1 := by decide +kernel
theorem tyX12_ok : ∀ k, k < 11 → parseFieldDescriptor (TX12 k).2.2.1 = some (tyX12 k) := by decide +kernel
abbrev cX12_init : ByteArray := prog_15_method_1_code
def yX12_init : MethodName := ⟨RX12, "<init>", "()V"⟩
def RX13 : String := "GraphlineModel$Gross"
def TX13 : u_T := fun k => match k with
  | 0 => ("GraphlineModel$Gross", "grade", "I", false)
  | 1 => ("GraphlineModel$Gross", "parts", "Ljava/util/List;", true)
  | _ => ("GraphlineModel$Gross", "shipped", "Z", false)
def tyX13 : Nat → FieldType := fun k => match k with
  | 0 => .int
  | 1 => .object "java/util/List"
  | _ => .boolean
abbrev wsX130 : List Cond := u_ws RX13 TX13 3
theorem nmX13 : ∀ a, a < 3 → ∀ b, b < 3 → a ≠ b → (TX13 a).2.1 ≠ (TX13 b).2.1 := by decide +kernel
theorem tyX13_ok : ∀ k, k < 3 → parseFieldDescriptor (TX13 k).2.2.1 = some (tyX13 k) := by decide +kernel
abbrev cX13_init : ByteArray := prog_16_method_1_code
def yX13_init : MethodName := ⟨RX13, "<init>", "()V"⟩
abbrev cX13_many : ByteArray := prog_16_method_2_code
def yX13_many : MethodName := ⟨RX13, "many", "()I"⟩
def RX14 : String := "GraphlineModel$Run"
def TX14 : u_T := fun k => match k with
  | 0 => ("GraphlineModel$Run", "batch", "I", false)
  | 1 => ("GraphlineModel$Run", "slats", "I", false)
  | 2 => ("GraphlineModel$Run", "hand", "I", false)
  | 3 => ("GraphlineModel$Run", "many", "I", false)
  | 4 => ("GraphlineModel$Run", "broken", "I", false)
  | 5 => ("GraphlineModel$Run", "off", "I", false)
  | 6 => ("GraphlineModel$Run", "ready", "I", false)
  | 7 => ("GraphlineModel$Run", "coats", "I", false)
  | 8 => ("GraphlineModel$Run", "colour", "I", false)
  | 9 => ("GraphlineModel$Run", "stamp", "I", false)
  | _ => ("GraphlineModel$Run", "erased", "Z", false)
def tyX14 : Nat → FieldType := fun k => match k with
  | 0 => .int
  | 1 => .int
  | 2 => .int
  | 3 => .int
  | 4 => .int
  | 5 => .int
  | 6 => .int
  | 7 => .int
  | 8 => .int
  | 9 => .int
  | _ => .boolean
abbrev wsX140 : List Cond := u_ws RX14 TX14 11
theorem nmX14 : ∀ a, a < 11 → ∀ b, b < 11 → a ≠ b → (TX14 a).2.1 ≠ (TX14 b).2.1 := by decide +kernel
theorem tyX14_ok : ∀ k, k < 11 → parseFieldDescriptor (TX14 k).2.2.1 = some (tyX14 k) := by decide +kernel
abbrev cX14_init : ByteArray := prog_17_method_1_code
def yX14_init : MethodName := ⟨RX14, "<init>", "()V"⟩
def RX15 : String := "GraphlineModel$Slat"
def TX15 : u_T := fun k => match k with
  | 0 => ("GraphlineModel$Slat", "wood", "C", false)
  | 1 => ("GraphlineModel$Slat", "grain", "I", false)
  | 2 => ("GraphlineModel$Slat", "wet", "I", false)
  | 3 => ("GraphlineModel$Slat", "many", "I", false)
  | 4 => ("GraphlineModel$Slat", "width", "I", false)
  | _ => ("GraphlineModel$Slat", "ready", "I", false)
def tyX15 : Nat → FieldType := fun k => match k with
  | 0 => .char
  | 1 => .int
  | 2 => .int
  | 3 => .int
  | 4 => .int
  | _ => .int
abbrev wsX150 : List Cond := u_ws RX15 TX15 6
theorem nmX15 : ∀ a, a < 6 → ∀ b, b < 6 → a ≠ b → (TX15 a).2.1 ≠ (TX15 b).2.1 := by decide +kernel
theorem tyX15_ok : ∀ k, k < 6 → parseFieldDescriptor (TX15 k).2.2.1 = some (tyX15 k) := by decide +kernel
abbrev cX15_init : ByteArray := prog_18_method_1_code
def yX15_init : MethodName := ⟨RX15, "<init>", "()V"⟩
def RX16 : String := "GraphlineModel"
def TX16 : u_T := fun k => match k with
  | 0 => ("GraphlineModel", "thrown", "I", false)
  | 1 => ("GraphlineModel", "clock", "I", false)
  | 2 => ("GraphlineModel", "shaft", "Z", false)
  | 3 => ("GraphlineModel", "isOn", "[Z", true)
  | 4 => ("GraphlineModel", "driven", "[I", true)
  | 5 => ("GraphlineModel", "lots", "Ljava/util/List;", true)
  | 6 => ("GraphlineModel", "mixtures", "Ljava/util/List;", true)
  | 7 => ("GraphlineModel", "dies", "[I", true)
  | 8 => ("GraphlineModel", "kilns", "[I", true)
  | 9 => ("GraphlineModel", "batches", "Ljava/util/List;", true)
  | 10 => ("GraphlineModel", "slats", "Ljava/util/List;", true)
  | 11 => ("GraphlineModel", "runs", "Ljava/util/List;", true)
  | 12 => ("GraphlineModel", "grosses", "Ljava/util/List;", true)
  | 13 => ("GraphlineModel", "orders", "Ljava/util/List;", true)
  | 14 => ("GraphlineModel", "firings", "I", false)
  | 15 => ("GraphlineModel", "draws", "I", false)
  | 16 => ("GraphlineModel", "bias", "I", false)
  | _ => ("GraphlineModel", "z", "I", false)
def tyX16 : Nat → FieldType := fun k => match k with
  | 0 => .int
  | 1 => .int
  | 2 => .boolean
  | 3 => .array .boolean
  | 4 => .array .int
  | 5 => .object "java/util/List"
  | 6 => .object "java/util/List"
  | 7 => .array .int
  | 8 => .array .int
  | 9 => .object "java/util/List"
  | 10 => .object "java/util/List"
  | 11 => .object "java/util/List"
  | 12 => .object "java/util/List"
  | 13 => .object "java/util/List"
  | 14 => .int
  | 15 => .int
  | 16 => .int
  | _ => .int
abbrev wsX160 : List Cond := u_ws RX16 TX16 18
theorem nmX16 : ∀ a, a < 18 → ∀ b, b < 18 → a ≠ b → (TX16 a).2.1 ≠ (TX16 b).2.1 := by decide +kernel
theorem tyX16_ok : ∀ k, k < 18 → parseFieldDescriptor (TX16 k).2.2.1 = some (tyX16 k) := by decide +kernel
abbrev cX16_thrown : ByteArray := prog_14_method_1_code
def yX16_thrown : MethodName := ⟨RX16, "thrown", "()I"⟩
abbrev cX16_in : ByteArray := prog_14_method_2_code
def yX16_in : MethodName := ⟨RX16, "in", "(JJJ)Z"⟩
abbrev cX16_isOf : ByteArray := prog_14_method_3_code
def yX16_isOf : MethodName := ⟨RX16, "isOf", "(Ljava/util/List;I)Z"⟩
abbrev cX16_fails : ByteArray := prog_14_method_4_code
def yX16_fails : MethodName := ⟨RX16, "fails", "(ZI)Z"⟩
abbrev cX16_begins : ByteArray := prog_14_method_5_code
def yX16_begins : MethodName := ⟨RX16, "begins", "()V"⟩
abbrev cX16_init : ByteArray := prog_14_method_6_code
def yX16_init : MethodName := ⟨RX16, "<init>", "()V"⟩
abbrev cX16_go : ByteArray := prog_14_method_7_code
def yX16_go : MethodName := ⟨RX16, "go", "(I)I"⟩
abbrev cX16_shaft : ByteArray := prog_14_method_8_code
def yX16_shaft : MethodName := ⟨RX16, "shaft", "(Z)Z"⟩
abbrev cX16_belt : ByteArray := prog_14_method_9_code
def yX16_belt : MethodName := ⟨RX16, "belt", "(CC)C"⟩
abbrev cX16_on : ByteArray := prog_14_method_10_code
def yX16_on : MethodName := ⟨RX16, "on", "(CZ)Z"⟩
abbrev cX16_going : ByteArray := prog_14_method_11_code
def yX16_going : MethodName := ⟨RX16, "going", "(I)Z"⟩
abbrev cX16_runs : ByteArray := prog_14_method_12_code
def yX16_runs : MethodName := ⟨RX16, "runs", "(C)Z"⟩
abbrev cX16_noLot : ByteArray := prog_14_method_13_code
def yX16_noLot : MethodName := ⟨RX16, "noLot", "(I)Z"⟩
abbrev cX16_lot : ByteArray := prog_14_method_14_code
def yX16_lot : MethodName := ⟨RX16, "lot", "(CIII)I"⟩
abbrev cX16_kilos : ByteArray := prog_14_method_15_code
def yX16_kilos : MethodName := ⟨RX16, "kilos", "(I)I"⟩
abbrev cX16_mix : ByteArray := prog_14_method_16_code
def yX16_mix : MethodName := ⟨RX16, "mix", "(IIIII)I"⟩
abbrev cX16_mixture : ByteArray := prog_14_method_17_code
def yX16_mixture : MethodName := ⟨RX16, "mixture", "(IC)I"⟩
abbrev cX16_press : ByteArray := prog_14_method_18_code
def yX16_press : MethodName := ⟨RX16, "press", "(III)I"⟩
abbrev cX16_worn : ByteArray := prog_14_method_19_code
def yX16_worn : MethodName := ⟨RX16, "worn", "(I)I"⟩
abbrev cX16_renew : ByteArray := prog_14_method_20_code
def yX16_renew : MethodName := ⟨RX16, "renew", "(I)I"⟩
abbrev cX16_noBatch : ByteArray := prog_14_method_21_code
def yX16_noBatch : MethodName := ⟨RX16, "noBatch", "(I)Z"⟩
abbrev cX16_fineness : ByteArray := prog_14_method_22_code
def yX16_fineness : MethodName := ⟨RX16, "fineness", "(LGraphlineModel$Batch;)I"⟩
abbrev cX16_dry : ByteArray := prog_14_method_23_code
def yX16_dry : MethodName := ⟨RX16, "dry", "(II)I"⟩
abbrev cX16_fire : ByteArray := prog_14_method_24_code
def yX16_fire : MethodName := ⟨RX16, "fire", "(IIII)I"⟩
abbrev cX16_isFired : ByteArray := prog_14_method_25_code
def yX16_isFired : MethodName := ⟨RX16, "isFired", "(LGraphlineModel$Batch;)Z"⟩
abbrev cX16_soak : ByteArray := prog_14_method_26_code
def yX16_soak : MethodName := ⟨RX16, "soak", "(II)I"⟩
abbrev cX16_batch : ByteArray := prog_14_method_27_code
def yX16_batch : MethodName := ⟨RX16, "batch", "(IC)I"⟩
abbrev cX16_tells : ByteArray := prog_14_method_28_code
def yX16_tells : MethodName := ⟨RX16, "tells", "(LGraphlineModel$Batch;)I"⟩
abbrev cX16_draw : ByteArray := prog_14_method_29_code
def yX16_draw : MethodName := ⟨RX16, "draw", "(I)I"⟩
abbrev cX16_check : ByteArray := prog_14_method_30_code
def yX16_check : MethodName := ⟨RX16, "check", "()I"⟩
abbrev cX16_noSlats : ByteArray := prog_14_method_31_code
def yX16_noSlats : MethodName := ⟨RX16, "noSlats", "(I)Z"⟩
abbrev cX16_slats : ByteArray := prog_14_method_32_code
def yX16_slats : MethodName := ⟨RX16, "slats", "(CIII)I"⟩
abbrev cX16_season : ByteArray := prog_14_method_33_code
def yX16_season : MethodName := ⟨RX16, "season", "(II)I"⟩
abbrev cX16_groove : ByteArray := prog_14_method_34_code
def yX16_groove : MethodName := ⟨RX16, "groove", "(II)I"⟩
abbrev cX16_slat : ByteArray := prog_14_method_35_code
def yX16_slat : MethodName := ⟨RX16, "slat", "(IC)I"⟩
abbrev cX16_lay : ByteArray := prog_14_method_36_code
def yX16_lay : MethodName := ⟨RX16, "lay", "(IICII)I"⟩
abbrev cX16_noRun : ByteArray := prog_14_method_37_code
def yX16_noRun : MethodName := ⟨RX16, "noRun", "(I)Z"⟩
abbrev cX16_coat : ByteArray := prog_14_method_38_code
def yX16_coat : MethodName := ⟨RX16, "coat", "(II)I"⟩
abbrev cX16_stamp : ByteArray := prog_14_method_39_code
def yX16_stamp : MethodName := ⟨RX16, "stamp", "(I)I"⟩
abbrev cX16_erase : ByteArray := prog_14_method_40_code
def yX16_erase : MethodName := ⟨RX16, "erase", "(II)I"⟩
abbrev cX16_run : ByteArray := prog_14_method_41_code
def yX16_run : MethodName := ⟨RX16, "run", "(IC)I"⟩
abbrev cX16_fall : ByteArray := prog_14_method_42_code
def yX16_fall : MethodName := ⟨RX16, "fall", "(II)I"⟩
abbrev cX16_sample : ByteArray := prog_14_method_43_code
def yX16_sample : MethodName := ⟨RX16, "sample", "(II)I"⟩
abbrev cX16_seed : ByteArray := prog_14_method_44_code
def yX16_seed : MethodName := ⟨RX16, "seed", "(I)I"⟩
abbrev cX16_gross : ByteArray := prog_14_method_45_code
def yX16_gross : MethodName := ⟨RX16, "gross", "(I)I"⟩
abbrev cX16_pack : ByteArray := prog_14_method_46_code
def yX16_pack : MethodName := ⟨RX16, "pack", "(III)I"⟩
abbrev cX16_order : ByteArray := prog_14_method_47_code
def yX16_order : MethodName := ⟨RX16, "order", "(III)I"⟩
abbrev cX16_ship : ByteArray := prog_14_method_48_code
def yX16_ship : MethodName := ⟨RX16, "ship", "(II)I"⟩
abbrev cX16_isLate : ByteArray := prog_14_method_49_code
def yX16_isLate : MethodName := ⟨RX16, "isLate", "(I)Z"⟩
abbrev cX16_noGross : ByteArray := prog_14_method_50_code
def yX16_noGross : MethodName := ⟨RX16, "noGross", "(I)Z"⟩
abbrev cX16_claim : ByteArray := prog_14_method_51_code
def yX16_claim : MethodName := ⟨RX16, "claim", "(I)Z"⟩
abbrev cX16_parts : ByteArray := prog_14_method_52_code
def yX16_parts : MethodName := ⟨RX16, "parts", "(I)I"⟩
abbrev cX16_trace : ByteArray := prog_14_method_53_code
def yX16_trace : MethodName := ⟨RX16, "trace", "(IIC)I"⟩
abbrev cX16_missing : ByteArray := prog_14_method_54_code
def yX16_missing : MethodName := ⟨RX16, "missing", "()I"⟩
abbrev cX16_checksum : ByteArray := prog_14_method_55_code
def yX16_checksum : MethodName := ⟨RX16, "checksum", "()J"⟩
abbrev cX16_brokenShare : ByteArray := prog_14_method_56_code
def yX16_brokenShare : MethodName := ⟨RX16, "brokenShare", "()F"⟩
abbrev cX16_meanDarkness : ByteArray := prog_14_method_57_code
def yX16_meanDarkness : MethodName := ⟨RX16, "meanDarkness", "()D"⟩
abbrev cX16_isSound : ByteArray := prog_14_method_58_code
def yX16_isSound : MethodName := ⟨RX16, "isSound", "()Z"⟩
def RJx145de : String := "java/io/Serializable"
def TJx145de : u_T := fun k => match k with
  | _ => ("", "", "", false)
def tyJx145de : Nat → FieldType := fun k => match k with
  | _ => .int
abbrev wsJx145de0 : List Cond := u_ws RJx145de TJx145de 0
theorem nmJx145de : ∀ a, a < 0 → ∀ b, b < 0 → a ≠ b → (TJx145de a).2.1 ≠ (TJx145de b).2.1 := by decide +kernel
theorem tyJx145de_ok : ∀ k, k < 0 → parseFieldDescriptor (TJx145de k).2.2.1 = some (tyJx145de k) := by decide +kernel
def RJx00060 : String := "java/lang/ArrayIndexOutOfBoundsException"
def TJx00060 : u_T := fun k => match k with
  | 0 => ("java/lang/Throwable", "backtrace", "Ljava/lang/Object;", false)
  | 1 => ("java/lang/Throwable", "detailMessage", "Ljava/lang/String;", false)
  | 2 => ("java/lang/Throwable", "cause", "Ljava/lang/Throwable;", false)
  | 3 => ("java/lang/Throwable", "stackTrace", "[Ljava/lang/StackTraceElement;", false)
  | 4 => ("java/lang/Throwable", "depth", "I", false)
  | _ => ("java/lang/Throwable", "suppressedExceptions", "Ljava/util/List;", false)
def tyJx00060 : Nat → FieldType := fun k => match k with
  | 0 => .object "java/lang/Object"
  | 1 => .object "java/lang/String"
  | 2 => .object "java/lang/Throwable"
  | 3 => .array (.object "java/lang/StackTraceElement")
  | 4 => .int
  | _ => .object "java/util/List"
abbrev wsJx000600 : List Cond := u_ws RJx00060 TJx00060 6
theorem nmJx00060 : ∀ a, a < 6 → ∀ b, b < 6 → a ≠ b → (TJx00060 a).2.1 ≠ (TJx00060 b).2.1 := by decide +kernel
theorem tyJx00060_ok : ∀ k, k < 6 → parseFieldDescriptor (TJx00060 k).2.2.1 = some (tyJx00060 k) := by decide +kernel
abbrev cJx00060_init_a7421 : ByteArray := prog_21_method_2_code
def yJx00060_init_a7421 : MethodName := ⟨RJx00060, "<init>", "(Ljava/lang/String;)V"⟩
def RJx9f9b0 : String := "java/lang/CharSequence"
def TJx9f9b0 : u_T := fun k => match k with
  | _ => ("", "", "", false)
def tyJx9f9b0 : Nat → FieldType := fun k => match k with
  | _ => .int
abbrev wsJx9f9b00 : List Cond := u_ws RJx9f9b0 TJx9f9b0 0
theorem nmJx9f9b0 : ∀ a, a < 0 → ∀ b, b < 0 → a ≠ b → (TJx9f9b0 a).2.1 ≠ (TJx9f9b0 b).2.1 := by decide +kernel
theorem tyJx9f9b0_ok : ∀ k, k < 0 → parseFieldDescriptor (TJx9f9b0 k).2.2.1 = some (tyJx9f9b0 k) := by decide +kernel
def RJ11 : String := "java/lang/Character"
def TJ11 : u_T := fun k => match k with
  | _ => ("", "", "", false)
def tyJ11 : Nat → FieldType := fun k => match k with
  | _ => .int
abbrev wsJ110 : List Cond := u_ws RJ11 TJ11 0
theorem nmJ11 : ∀ a, a < 0 → ∀ b, b < 0 → a ≠ b → (TJ11 a).2.1 ≠ (TJ11 b).2.1 := by decide +kernel
theorem tyJ11_ok : ∀ k, k < 0 → parseFieldDescriptor (TJ11 k).2.2.1 = some (tyJ11 k) := by decide +kernel
abbrev cJ11_isValidCodePoint_9a6ad : ByteArray := prog_23_method_11_code
def yJ11_isValidCodePoint_9a6ad : MethodName := ⟨RJ11, "isValidCodePoint", "(I)Z"⟩
abbrev cJ11_highSurrogate_5068e : ByteArray := prog_23_method_28_code
def yJ11_highSurrogate_5068e : MethodName := ⟨RJ11, "highSurrogate", "(I)C"⟩
abbrev cJ11_lowSurrogate_5068e : ByteArray := prog_23_method_29_code
def yJ11_lowSurrogate_5068e : MethodName := ⟨RJ11, "lowSurrogate", "(I)C"⟩
def RJx8e188 : String := "java/lang/Cloneable"
def TJx8e188 : u_T := fun k => match k with
  | _ => ("", "", "", false)
def tyJx8e188 : Nat → FieldType := fun k => match k with
  | _ => .int
abbrev wsJx8e1880 : List Cond := u_ws RJx8e188 TJx8e188 0
theorem nmJx8e188 : ∀ a, a < 0 → ∀ b, b < 0 → a ≠ b → (TJx8e188 a).2.1 ≠ (TJx8e188 b).2.1 := by decide +kernel
theorem tyJx8e188_ok : ∀ k, k < 0 → parseFieldDescriptor (TJx8e188 k).2.2.1 = some (tyJx8e188 k) := by decide +kernel
def RJxb160c : String := "java/lang/Comparable"
def TJxb160c : u_T := fun k => match k with
  | _ => ("", "", "", false)
def tyJxb160c : Nat → FieldType := fun k => match k with
  | _ => .int
abbrev wsJxb160c0 : List Cond := u_ws RJxb160c TJxb160c 0
theorem nmJxb160c : ∀ a, a < 0 → ∀ b, b < 0 → a ≠ b → (TJxb160c a).2.1 ≠ (TJxb160c b).2.1 := by decide +kernel
theorem tyJxb160c_ok : ∀ k, k < 0 → parseFieldDescriptor (TJxb160c k).2.2.1 = some (tyJxb160c k) := by decide +kernel
def RJxab1ab : String := "java/lang/Iterable"
def TJxab1ab : u_T := fun k => match k with
  | _ => ("", "", "", false)
def tyJxab1ab : Nat → FieldType := fun k => match k with
  | _ => .int
abbrev wsJxab1ab0 : List Cond := u_ws RJxab1ab TJxab1ab 0
theorem nmJxab1ab : ∀ a, a < 0 → ∀ b, b < 0 → a ≠ b → (TJxab1ab a).2.1 ≠ (TJxab1ab b).2.1 := by decide +kernel
theorem tyJxab1ab_ok : ∀ k, k < 0 → parseFieldDescriptor (TJxab1ab k).2.2.1 = some (tyJxab1ab k) := by decide +kernel
def RJ9 : String := "java/lang/Math"
def TJ9 : u_T := fun k => match k with
  | _ => ("", "", "", false)
def tyJ9 : Nat → FieldType := fun k => match k with
  | _ => .int
abbrev wsJ90 : List Cond := u_ws RJ9 TJ9 0
theorem nmJ9 : ∀ a, a < 0 → ∀ b, b < 0 → a ≠ b → (TJ9 a).2.1 ≠ (TJ9 b).2.1 := by decide +kernel
theorem tyJ9_ok : ∀ k, k < 0 → parseFieldDescriptor (TJ9 k).2.2.1 = some (tyJ9 k) := by decide +kernel
abbrev cJ9_abs_0f7a4 : ByteArray := prog_31_method_59_code
def yJ9_abs_0f7a4 : MethodName := ⟨RJ9, "abs", "(I)I"⟩
abbrev cJ9_max_7cf53 : ByteArray := prog_31_method_65_code
def yJ9_max_7cf53 : MethodName := ⟨RJ9, "max", "(II)I"⟩
abbrev cJ9_min_7cf53 : ByteArray := prog_31_method_69_code
def yJ9_min_7cf53 : MethodName := ⟨RJ9, "min", "(II)I"⟩
def RJ0 : String := "java/lang/String"
def TJ0 : u_T := fun k => match k with
  | 0 => ("java/lang/String", "value", "[B", true)
  | _ => ("java/lang/String", "coder", "B", true)
def tyJ0 : Nat → FieldType := fun k => match k with
  | 0 => .array .byte
  | _ => .byte
abbrev wsJ00 : List Cond := u_ws RJ0 TJ0 2
theorem nmJ0 : ∀ a, a < 2 → ∀ b, b < 2 → a ≠ b → (TJ0 a).2.1 ≠ (TJ0 b).2.1 := by decide +kernel
theorem tyJ0_ok : ∀ k, k < 2 → parseFieldDescriptor (TJ0 k).2.2.1 = some (tyJ0 k) := by decide +kernel
abbrev cJ0_length_8abf5 : ByteArray := prog_33_method_54_code
def yJ0_length_8abf5 : MethodName := ⟨RJ0, "length", "()I"⟩
abbrev cJ0_charAt_5068e : ByteArray := prog_33_method_56_code
def yJ0_charAt_5068e : MethodName := ⟨RJ0, "charAt", "(I)C"⟩
abbrev cJ0_indexOf_0f7a4 : ByteArray := prog_33_method_79_code
def yJ0_indexOf_0f7a4 : MethodName := ⟨RJ0, "indexOf", "(I)I"⟩
abbrev cJ0_indexOf_7cf53 : ByteArray := prog_33_method_80_code
def yJ0_indexOf_7cf53 : MethodName := ⟨RJ0, "indexOf", "(II)I"⟩
abbrev cJ0_coder_7d493 : ByteArray := prog_33_method_152_code
def yJ0_coder_7d493 : MethodName := ⟨RJ0, "coder", "()B"⟩
abbrev cJ0_isLatin1_aae02 : ByteArray := prog_33_method_154_code
def yJ0_isLatin1_aae02 : MethodName := ⟨RJ0, "isLatin1", "()Z"⟩
abbrev cJ0_checkIndex_df160 : ByteArray := prog_33_method_155_code
def yJ0_checkIndex_df160 : MethodName := ⟨RJ0, "checkIndex", "(II)V"⟩
abbrev cJ0_checkBoundsBeginEnd_23922 : ByteArray := prog_33_method_158_code
def yJ0_checkBoundsBeginEnd_23922 : MethodName := ⟨RJ0, "checkBoundsBeginEnd", "(III)V"⟩
def RJ1 : String := "java/lang/StringLatin1"
def TJ1 : u_T := fun k => match k with
  | _ => ("", "", "", false)
def tyJ1 : Nat → FieldType := fun k => match k with
  | _ => .int
abbrev wsJ10 : List Cond := u_ws RJ1 TJ1 0
theorem nmJ1 : ∀ a, a < 0 → ∀ b, b < 0 → a ≠ b → (TJ1 a).2.1 ≠ (TJ1 b).2.1 := by decide +kernel
theorem tyJ1_ok : ∀ k, k < 0 → parseFieldDescriptor (TJ1 k).2.2.1 = some (tyJ1 k) := by decide +kernel
abbrev cJ1_charAt_3b067 : ByteArray := prog_34_method_2_code
def yJ1_charAt_3b067 : MethodName := ⟨RJ1, "charAt", "([BI)C"⟩
abbrev cJ1_canEncode_9a6ad : ByteArray := prog_34_method_4_code
def yJ1_canEncode_9a6ad : MethodName := ⟨RJ1, "canEncode", "(I)Z"⟩
abbrev cJ1_indexOf_4cfef : ByteArray := prog_34_method_22_code
def yJ1_indexOf_4cfef : MethodName := ⟨RJ1, "indexOf", "([BIII)I"⟩
abbrev cJ1_indexOfChar_4cfef : ByteArray := prog_34_method_23_code
def yJ1_indexOfChar_4cfef : MethodName := ⟨RJ1, "indexOfChar", "([BIII)I"⟩
def RJ2 : String := "java/lang/StringUTF16"
def TJ2 : u_T := fun k => match k with
  | _ => ("", "", "", false)
def tyJ2 : Nat → FieldType := fun k => match k with
  | _ => .int
abbrev wsJ20 : List Cond := u_ws RJ2 TJ2 0
theorem nmJ2 : ∀ a, a < 0 → ∀ b, b < 0 → a ≠ b → (TJ2 a).2.1 ≠ (TJ2 b).2.1 := by decide +kernel
theorem tyJ2_ok : ∀ k, k < 0 → parseFieldDescriptor (TJ2 k).2.2.1 = some (tyJ2 k) := by decide +kernel
abbrev cJ2_getChar_3b067 : ByteArray := prog_35_method_5_code
def yJ2_getChar_3b067 : MethodName := ⟨RJ2, "getChar", "([BI)C"⟩
abbrev cJ2_length_9d52b : ByteArray := prog_35_method_6_code
def yJ2_length_9d52b : MethodName := ⟨RJ2, "length", "([B)I"⟩
abbrev cJ2_indexOf_4cfef : ByteArray := prog_35_method_40_code
def yJ2_indexOf_4cfef : MethodName := ⟨RJ2, "indexOf", "([BIII)I"⟩
abbrev cJ2_indexOfChar_4cfef : ByteArray := prog_35_method_47_code
def yJ2_indexOfChar_4cfef : MethodName := ⟨RJ2, "indexOfChar", "([BIII)I"⟩
abbrev cJ2_indexOfCharUnsafe_4cfef : ByteArray := prog_35_method_48_code
def yJ2_indexOfCharUnsafe_4cfef : MethodName := ⟨RJ2, "indexOfCharUnsafe", "([BIII)I"⟩
abbrev cJ2_indexOfSupplementary_4cfef : ByteArray := prog_35_method_49_code
def yJ2_indexOfSupplementary_4cfef : MethodName := ⟨RJ2, "indexOfSupplementary", "([BIII)I"⟩
abbrev cJ2_charAt_3b067 : ByteArray := prog_35_method_83_code
def yJ2_charAt_3b067 : MethodName := ⟨RJ2, "charAt", "([BI)C"⟩
abbrev cJ2_checkIndex_2214a : ByteArray := prog_35_method_91_code
def yJ2_checkIndex_2214a : MethodName := ⟨RJ2, "checkIndex", "(I[B)V"⟩
abbrev cJ2_checkBoundsBeginEnd_d044e : ByteArray := prog_35_method_93_code
def yJ2_checkBoundsBeginEnd_d044e : MethodName := ⟨RJ2, "checkBoundsBeginEnd", "(II[B)V"⟩
def RJ10 : String := "java/lang/System"
def TJ10 : u_T := fun k => match k with
  | _ => ("", "", "", false)
def tyJ10 : Nat → FieldType := fun k => match k with
  | _ => .int
abbrev wsJ100 : List Cond := u_ws RJ10 TJ10 0
theorem nmJ10 : ∀ a, a < 0 → ∀ b, b < 0 → a ≠ b → (TJ10 a).2.1 ≠ (TJ10 b).2.1 := by decide +kernel
theorem tyJ10_ok : ∀ k, k < 0 → parseFieldDescriptor (TJ10 k).2.2.1 = some (tyJ10 k) := by decide +kernel
def RJxfd54e : String := "java/lang/constant/Constable"
def TJxfd54e : u_T := fun k => match k with
  | _ => ("", "", "", false)
def tyJxfd54e : Nat → FieldType := fun k => match k with
  | _ => .int
abbrev wsJxfd54e0 : List Cond := u_ws RJxfd54e TJxfd54e 0
theorem nmJxfd54e : ∀ a, a < 0 → ∀ b, b < 0 → a ≠ b → (TJxfd54e a).2.1 ≠ (TJxfd54e b).2.1 := by decide +kernel
theorem tyJxfd54e_ok : ∀ k, k < 0 → parseFieldDescriptor (TJxfd54e k).2.2.1 = some (tyJxfd54e k) := by decide +kernel
def RJx3cf43 : String := "java/lang/constant/ConstantDesc"
def TJx3cf43 : u_T := fun k => match k with
  | _ => ("", "", "", false)
def tyJx3cf43 : Nat → FieldType := fun k => match k with
  | _ => .int
abbrev wsJx3cf430 : List Cond := u_ws RJx3cf43 TJx3cf43 0
theorem nmJx3cf43 : ∀ a, a < 0 → ∀ b, b < 0 → a ≠ b → (TJx3cf43 a).2.1 ≠ (TJx3cf43 b).2.1 := by decide +kernel
theorem tyJx3cf43_ok : ∀ k, k < 0 → parseFieldDescriptor (TJx3cf43 k).2.2.1 = some (tyJx3cf43 k) := by decide +kernel
def RJxa1e45 : String := "java/util/AbstractCollection"
def TJxa1e45 : u_T := fun k => match k with
  | _ => ("", "", "", false)
def tyJxa1e45 : Nat → FieldType := fun k => match k with
  | _ => .int
abbrev wsJxa1e450 : List Cond := u_ws RJxa1e45 TJxa1e45 0
theorem nmJxa1e45 : ∀ a, a < 0 → ∀ b, b < 0 → a ≠ b → (TJxa1e45 a).2.1 ≠ (TJxa1e45 b).2.1 := by decide +kernel
theorem tyJxa1e45_ok : ∀ k, k < 0 → parseFieldDescriptor (TJxa1e45 k).2.2.1 = some (tyJxa1e45 k) := by decide +kernel
abbrev cJxa1e45_init_da8c8 : ByteArray := prog_41_method_1_code
def yJxa1e45_init_da8c8 : MethodName := ⟨RJxa1e45, "<init>", "()V"⟩
def RJxc12de : String := "java/util/AbstractList"
def TJxc12de : u_T := fun k => match k with
  | _ => ("", "", "", false)
def tyJxc12de : Nat → FieldType := fun k => match k with
  | _ => .int
abbrev wsJxc12de0 : List Cond := u_ws RJxc12de TJxc12de 0
theorem nmJxc12de : ∀ a, a < 0 → ∀ b, b < 0 → a ≠ b → (TJxc12de a).2.1 ≠ (TJxc12de b).2.1 := by decide +kernel
theorem tyJxc12de_ok : ∀ k, k < 0 → parseFieldDescriptor (TJxc12de k).2.2.1 = some (tyJxc12de k) := by decide +kernel
abbrev cJxc12de_init_da8c8 : ByteArray := prog_42_method_1_code
def yJxc12de_init_da8c8 : MethodName := ⟨RJxc12de, "<init>", "()V"⟩
def RJx35411 : String := "java/util/ArrayList$Itr"
def TJx35411 : u_T := fun k => match k with
  | 0 => ("java/util/ArrayList$Itr", "cursor", "I", false)
  | 1 => ("java/util/ArrayList$Itr", "lastRet", "I", false)
  | 2 => ("java/util/ArrayList$Itr", "expectedModCount", "I", false)
  | _ => ("java/util/ArrayList$Itr", "this$0", "Ljava/util/ArrayList;", true)
def tyJx35411 : Nat → FieldType := fun k => match k with
  | 0 => .int
  | 1 => .int
  | 2 => .int
  | _ => .object "java/util/ArrayList"
abbrev wsJx354110 : List Cond := u_ws RJx35411 TJx35411 4
theorem nmJx35411 : ∀ a, a < 4 → ∀ b, b < 4 → a ≠ b → (TJx35411 a).2.1 ≠ (TJx35411 b).2.1 := by decide +kernel
theorem tyJx35411_ok : ∀ k, k < 4 → parseFieldDescriptor (TJx35411 k).2.2.1 = some (tyJx35411 k) := by decide +kernel
abbrev cJx35411_init_45d68 : ByteArray := prog_44_method_1_code
def yJx35411_init_45d68 : MethodName := ⟨RJx35411, "<init>", "(Ljava/util/ArrayList;)V"⟩
abbrev cJx35411_hasNext_aae02 : ByteArray := prog_44_method_2_code
def yJx35411_hasNext_aae02 : MethodName := ⟨RJx35411, "hasNext", "()Z"⟩
abbrev cJx35411_next_0502b : ByteArray := prog_44_method_3_code
def yJx35411_next_0502b : MethodName := ⟨RJx35411, "next", "()Ljava/lang/Object;"⟩
abbrev cJx35411_checkForComodification_da8c8 : ByteArray := prog_44_method_6_code
def yJx35411_checkForComodification_da8c8 : MethodName := ⟨RJx35411, "checkForComodification", "()V"⟩
def RJx4a65c : String := "java/util/ArrayList"
def TJx4a65c : u_T := fun k => match k with
  | 0 => ("java/util/AbstractList", "modCount", "I", false)
  | 1 => ("java/util/ArrayList", "elementData", "[Ljava/lang/Object;", false)
  | _ => ("java/util/ArrayList", "size", "I", false)
def tyJx4a65c : Nat → FieldType := fun k => match k with
  | 0 => .int
  | 1 => .array (.object "java/lang/Object")
  | _ => .int
abbrev wsJx4a65c0 : List Cond := u_ws RJx4a65c TJx4a65c 3
theorem nmJx4a65c : ∀ a, a < 3 → ∀ b, b < 3 → a ≠ b → (TJx4a65c a).2.1 ≠ (TJx4a65c b).2.1 := by decide +kernel
theorem tyJx4a65c_ok : ∀ k, k < 3 → parseFieldDescriptor (TJx4a65c k).2.2.1 = some (tyJx4a65c k) := by decide +kernel
abbrev cJx4a65c_init_da8c8 : ByteArray := prog_43_method_2_code
def yJx4a65c_init_da8c8 : MethodName := ⟨RJx4a65c, "<init>", "()V"⟩
abbrev cJx4a65c_grow_92f84 : ByteArray := prog_43_method_6_code
def yJx4a65c_grow_92f84 : MethodName := ⟨RJx4a65c, "grow", "(I)[Ljava/lang/Object;"⟩
abbrev cJx4a65c_grow_d5877 : ByteArray := prog_43_method_7_code
def yJx4a65c_grow_d5877 : MethodName := ⟨RJx4a65c, "grow", "()[Ljava/lang/Object;"⟩
abbrev cJx4a65c_size_8abf5 : ByteArray := prog_43_method_8_code
def yJx4a65c_size_8abf5 : MethodName := ⟨RJx4a65c, "size", "()I"⟩
abbrev cJx4a65c_elementData_915e3 : ByteArray := prog_43_method_18_code
def yJx4a65c_elementData_915e3 : MethodName := ⟨RJx4a65c, "elementData", "(I)Ljava/lang/Object;"⟩
abbrev cJx4a65c_get_915e3 : ByteArray := prog_43_method_20_code
def yJx4a65c_get_915e3 : MethodName := ⟨RJx4a65c, "get", "(I)Ljava/lang/Object;"⟩
abbrev cJx4a65c_add_72be8 : ByteArray := prog_43_method_24_code
def yJx4a65c_add_72be8 : MethodName := ⟨RJx4a65c, "add", "(Ljava/lang/Object;[Ljava/lang/Object;I)V"⟩
abbrev cJx4a65c_add_9ea2d : ByteArray := prog_43_method_25_code
def yJx4a65c_add_9ea2d : MethodName := ⟨RJx4a65c, "add", "(Ljava/lang/Object;)Z"⟩
abbrev cJx4a65c_iterator_32c93 : ByteArray := prog_43_method_55_code
def yJx4a65c_iterator_32c93 : MethodName := ⟨RJx4a65c, "iterator", "()Ljava/util/Iterator;"⟩
def RJ7 : String := "java/util/Arrays"
def TJ7 : u_T := fun k => match k with
  | _ => ("", "", "", false)
def tyJ7 : Nat → FieldType := fun k => match k with
  | _ => .int
abbrev wsJ70 : List Cond := u_ws RJ7 TJ7 0
theorem nmJ7 : ∀ a, a < 0 → ∀ b, b < 0 → a ≠ b → (TJ7 a).2.1 ≠ (TJ7 b).2.1 := by decide +kernel
theorem tyJ7_ok : ∀ k, k < 0 → parseFieldDescriptor (TJ7 k).2.2.1 = some (tyJ7 k) := by decide +kernel
abbrev cJ7_copyOf_1904c : ByteArray := prog_45_method_119_code
def yJ7_copyOf_1904c : MethodName := ⟨RJ7, "copyOf", "([Ljava/lang/Object;I)[Ljava/lang/Object;"⟩
abbrev cJ7_copyOf_6403c : ByteArray := prog_45_method_120_code
def yJ7_copyOf_6403c : MethodName := ⟨RJ7, "copyOf", "([Ljava/lang/Object;ILjava/lang/Class;)[Ljava/lang/Object;"⟩
def RJx5ef63 : String := "java/util/Collection"
def TJx5ef63 : u_T := fun k => match k with
  | _ => ("", "", "", false)
def tyJx5ef63 : Nat → FieldType := fun k => match k with
  | _ => .int
abbrev wsJx5ef630 : List Cond := u_ws RJx5ef63 TJx5ef63 0
theorem nmJx5ef63 : ∀ a, a < 0 → ∀ b, b < 0 → a ≠ b → (TJx5ef63 a).2.1 ≠ (TJx5ef63 b).2.1 := by decide +kernel
theorem tyJx5ef63_ok : ∀ k, k < 0 → parseFieldDescriptor (TJx5ef63 k).2.2.1 = some (tyJx5ef63 k) := by decide +kernel
def RJx4d0d8 : String := "java/util/Iterator"
def TJx4d0d8 : u_T := fun k => match k with
  | _ => ("", "", "", false)
def tyJx4d0d8 : Nat → FieldType := fun k => match k with
  | _ => .int
abbrev wsJx4d0d80 : List Cond := u_ws RJx4d0d8 TJx4d0d8 0
theorem nmJx4d0d8 : ∀ a, a < 0 → ∀ b, b < 0 → a ≠ b → (TJx4d0d8 a).2.1 ≠ (TJx4d0d8 b).2.1 := by decide +kernel
theorem tyJx4d0d8_ok : ∀ k, k < 0 → parseFieldDescriptor (TJx4d0d8 k).2.2.1 = some (tyJx4d0d8 k) := by decide +kernel
def RJxbd725 : String := "java/util/List"
def TJxbd725 : u_T := fun k => match k with
  | _ => ("", "", "", false)
def tyJxbd725 : Nat → FieldType := fun k => match k with
  | _ => .int
abbrev wsJxbd7250 : List Cond := u_ws RJxbd725 TJxbd725 0
theorem nmJxbd725 : ∀ a, a < 0 → ∀ b, b < 0 → a ≠ b → (TJxbd725 a).2.1 ≠ (TJxbd725 b).2.1 := by decide +kernel
theorem tyJxbd725_ok : ∀ k, k < 0 → parseFieldDescriptor (TJxbd725 k).2.2.1 = some (tyJxbd725 k) := by decide +kernel
def RJ15 : String := "java/util/Objects"
def TJ15 : u_T := fun k => match k with
  | _ => ("", "", "", false)
def tyJ15 : Nat → FieldType := fun k => match k with
  | _ => .int
abbrev wsJ150 : List Cond := u_ws RJ15 TJ15 0
theorem nmJ15 : ∀ a, a < 0 → ∀ b, b < 0 → a ≠ b → (TJ15 a).2.1 ≠ (TJ15 b).2.1 := by decide +kernel
theorem tyJ15_ok : ∀ k, k < 0 → parseFieldDescriptor (TJ15 k).2.2.1 = some (tyJ15 k) := by decide +kernel
abbrev cJ15_checkIndex_7cf53 : ByteArray := prog_49_method_17_code
def yJ15_checkIndex_7cf53 : MethodName := ⟨RJ15, "checkIndex", "(II)I"⟩
def RJxf0a74 : String := "java/util/RandomAccess"
def TJxf0a74 : u_T := fun k => match k with
  | _ => ("", "", "", false)
def tyJxf0a74 : Nat → FieldType := fun k => match k with
  | _ => .int
abbrev wsJxf0a740 : List Cond := u_ws RJxf0a74 TJxf0a74 0
theorem nmJxf0a74 : ∀ a, a < 0 → ∀ b, b < 0 → a ≠ b → (TJxf0a74 a).2.1 ≠ (TJxf0a74 b).2.1 := by decide +kernel
theorem tyJxf0a74_ok : ∀ k, k < 0 → parseFieldDescriptor (TJxf0a74 k).2.2.1 = some (tyJxf0a74 k) := by decide +kernel
def RJxa66e6 : String := "java/util/SequencedCollection"
def TJxa66e6 : u_T := fun k => match k with
  | _ => ("", "", "", false)
def tyJxa66e6 : Nat → FieldType := fun k => match k with
  | _ => .int
abbrev wsJxa66e60 : List Cond := u_ws RJxa66e6 TJxa66e6 0
theorem nmJxa66e6 : ∀ a, a < 0 → ∀ b, b < 0 → a ≠ b → (TJxa66e6 a).2.1 ≠ (TJxa66e6 b).2.1 := by decide +kernel
theorem tyJxa66e6_ok : ∀ k, k < 0 → parseFieldDescriptor (TJxa66e6 k).2.2.1 = some (tyJxa66e6 k) := by decide +kernel
def RJ8 : String := "jdk/internal/util/ArraysSupport"
def TJ8 : u_T := fun k => match k with
  | _ => ("", "", "", false)
def tyJ8 : Nat → FieldType := fun k => match k with
  | _ => .int
abbrev wsJ80 : List Cond := u_ws RJ8 TJ8 0
theorem nmJ8 : ∀ a, a < 0 → ∀ b, b < 0 → a ≠ b → (TJ8 a).2.1 ≠ (TJ8 b).2.1 := by decide +kernel
theorem tyJ8_ok : ∀ k, k < 0 → parseFieldDescriptor (TJ8 k).2.2.1 = some (tyJ8 k) := by decide +kernel
abbrev cJ8_newLength_cabcc : ByteArray := prog_52_method_27_code
def yJ8_newLength_cabcc : MethodName := ⟨RJ8, "newLength", "(III)I"⟩
abbrev cJ8_hugeLength_7cf53 : ByteArray := prog_52_method_28_code
def yJ8_hugeLength_7cf53 : MethodName := ⟨RJ8, "hugeLength", "(II)I"⟩
def RJ3 : String := "jdk/internal/util/Preconditions"
def TJ3 : u_T := fun k => match k with
  | _ => ("", "", "", false)
def tyJ3 : Nat → FieldType := fun k => match k with
  | _ => .int
abbrev wsJ30 : List Cond := u_ws RJ3 TJ3 0
theorem nmJ3 : ∀ a, a < 0 → ∀ b, b < 0 → a ≠ b → (TJ3 a).2.1 ≠ (TJ3 b).2.1 := by decide +kernel
theorem tyJ3_ok : ∀ k, k < 0 → parseFieldDescriptor (TJ3 k).2.2.1 = some (tyJ3 k) := by decide +kernel
abbrev cJ3_checkIndex_8e157 : ByteArray := prog_53_method_11_code
def yJ3_checkIndex_8e157 : MethodName := ⟨RJ3, "checkIndex", "(IILjava/util/function/BiFunction;)I"⟩
abbrev cJ3_checkFromToIndex_8c36e : ByteArray := prog_53_method_12_code
def yJ3_checkFromToIndex_8c36e : MethodName := ⟨RJ3, "checkFromToIndex", "(IIILjava/util/function/BiFunction;)I"⟩
def RL : String := "GraphlineLaw"
abbrev cL_go : ByteArray := method_3_code
def yL_go : MethodName := ⟨RL, "go", "(LGraphline;I[J)I"⟩
abbrev cL_belt : ByteArray := method_4_code
def yL_belt : MethodName := ⟨RL, "belt", "(LGraphline;CC[J)I"⟩
abbrev cL_on : ByteArray := method_5_code
def yL_on : MethodName := ⟨RL, "on", "(LGraphline;CZ[J)I"⟩
abbrev cL_runs : ByteArray := method_6_code
def yL_runs : MethodName := ⟨RL, "runs", "(LGraphline;C[J)I"⟩
abbrev cL_lot : ByteArray := method_7_code
def yL_lot : MethodName := ⟨RL, "lot", "(LGraphline;CIII[J)I"⟩
abbrev cL_kilos : ByteArray := method_8_code
def yL_kilos : MethodName := ⟨RL, "kilos", "(LGraphline;I[J)I"⟩
abbrev cL_mix : ByteArray := method_9_code
def yL_mix : MethodName := ⟨RL, "mix", "(LGraphline;IIIII[J)I"⟩
abbrev cL_mixture : ByteArray := method_10_code
def yL_mixture : MethodName := ⟨RL, "mixture", "(LGraphline;IC[J)I"⟩
abbrev cL_press : ByteArray := method_11_code
def yL_press : MethodName := ⟨RL, "press", "(LGraphline;III[J)I"⟩
abbrev cL_worn : ByteArray := method_12_code
def yL_worn : MethodName := ⟨RL, "worn", "(LGraphline;I[J)I"⟩
abbrev cL_renew : ByteArray := method_13_code
def yL_renew : MethodName := ⟨RL, "renew", "(LGraphline;I[J)I"⟩
abbrev cL_dry : ByteArray := method_14_code
def yL_dry : MethodName := ⟨RL, "dry", "(LGraphline;II[J)I"⟩
abbrev cL_fire : ByteArray := method_15_code
def yL_fire : MethodName := ⟨RL, "fire", "(LGraphline;IIII[J)I"⟩
abbrev cL_soak : ByteArray := method_16_code
def yL_soak : MethodName := ⟨RL, "soak", "(LGraphline;II[J)I"⟩
abbrev cL_batch : ByteArray := method_17_code
def yL_batch : MethodName := ⟨RL, "batch", "(LGraphline;IC[J)I"⟩
abbrev cL_draw : ByteArray := method_18_code
def yL_draw : MethodName := ⟨RL, "draw", "(LGraphline;I[J)I"⟩
abbrev cL_slats : ByteArray := method_19_code
def yL_slats : MethodName := ⟨RL, "slats", "(LGraphline;CIII[J)I"⟩
abbrev cL_season : ByteArray := method_20_code
def yL_season : MethodName := ⟨RL, "season", "(LGraphline;II[J)I"⟩
abbrev cL_groove : ByteArray := method_21_code
def yL_groove : MethodName := ⟨RL, "groove", "(LGraphline;II[J)I"⟩
abbrev cL_slat : ByteArray := method_22_code
def yL_slat : MethodName := ⟨RL, "slat", "(LGraphline;IC[J)I"⟩
abbrev cL_lay : ByteArray := method_23_code
def yL_lay : MethodName := ⟨RL, "lay", "(LGraphline;IICII[J)I"⟩
abbrev cL_coat : ByteArray := method_24_code
def yL_coat : MethodName := ⟨RL, "coat", "(LGraphline;II[J)I"⟩
abbrev cL_stamp : ByteArray := method_25_code
def yL_stamp : MethodName := ⟨RL, "stamp", "(LGraphline;I[J)I"⟩
abbrev cL_erase : ByteArray := method_26_code
def yL_erase : MethodName := ⟨RL, "erase", "(LGraphline;II[J)I"⟩
abbrev cL_run : ByteArray := method_27_code
def yL_run : MethodName := ⟨RL, "run", "(LGraphline;IC[J)I"⟩
abbrev cL_fall : ByteArray := method_28_code
def yL_fall : MethodName := ⟨RL, "fall", "(LGraphline;II[J)I"⟩
abbrev cL_sample : ByteArray := method_29_code
def yL_sample : MethodName := ⟨RL, "sample", "(LGraphline;II[J)I"⟩
abbrev cL_seed : ByteArray := method_30_code
def yL_seed : MethodName := ⟨RL, "seed", "(LGraphline;I[J)I"⟩
abbrev cL_gross : ByteArray := method_31_code
def yL_gross : MethodName := ⟨RL, "gross", "(LGraphline;I[J)I"⟩
abbrev cL_pack : ByteArray := method_32_code
def yL_pack : MethodName := ⟨RL, "pack", "(LGraphline;III[J)I"⟩
abbrev cL_order : ByteArray := method_33_code
def yL_order : MethodName := ⟨RL, "order", "(LGraphline;III[J)I"⟩
abbrev cL_ship : ByteArray := method_34_code
def yL_ship : MethodName := ⟨RL, "ship", "(LGraphline;II[J)I"⟩
abbrev cL_isLate : ByteArray := method_35_code
def yL_isLate : MethodName := ⟨RL, "isLate", "(LGraphline;I[J)I"⟩
abbrev cL_claim : ByteArray := method_36_code
def yL_claim : MethodName := ⟨RL, "claim", "(LGraphline;I[J)I"⟩
abbrev cL_parts : ByteArray := method_37_code
def yL_parts : MethodName := ⟨RL, "parts", "(LGraphline;I[J)I"⟩
abbrev cL_trace : ByteArray := method_38_code
def yL_trace : MethodName := ⟨RL, "trace", "(LGraphline;IIC[J)I"⟩
abbrev cL_brokenShare : ByteArray := method_39_code
def yL_brokenShare : MethodName := ⟨RL, "brokenShare", "(LGraphline;[D)I"⟩
abbrev cL_meanDarkness : ByteArray := method_40_code
def yL_meanDarkness : MethodName := ⟨RL, "meanDarkness", "(LGraphline;[D)I"⟩
abbrev cL_law : ByteArray := code
def yL_law : MethodName := ⟨RL, "law", "([I)Z"⟩
def wsJ0_checkIndex_df160 : List Cond := .code yJ0_checkIndex_df160 cJ0_checkIndex_df160 2 none :: ([.fieldLink RJ0 1053 "jdk/internal/util/Preconditions" "SIOOBE_FORMATTER" "Ljava/util/function/BiFunction;", .methodLink RJ0 1059 yJ3_checkIndex_8e157, .static yJ3_checkIndex_8e157, .initialized RJ3, .code yJ3_checkIndex_8e157 cJ3_checkIndex_8e157 3 (some .int)])
abbrev vwCl : List vw_C := [(RJ0, TJ0, 2), (RJx00060, TJx00060, 6), (RJx35411, TJx35411, 4), (RJx4a65c, TJx4a65c, 3), (RX0, TX0, 12), (RX1, TX1, 5), (RX2, TX2, 4), (RX3, TX3, 4), (RX4, TX4, 3), (RX5, TX5, 5), (RX6, TX6, 4), (RX7, TX7, 3), (RX8, TX8, 12), (RX9, TX9, 7), (RX10, TX10, 2), (RX11, TX11, 16), (RX12, TX12, 11), (RX13, TX13, 3), (RX14, TX14, 11), (RX15, TX15, 6), (RX16, TX16, 18)]
