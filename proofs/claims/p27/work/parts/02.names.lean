theorem vr_outer (c : ClassId) (N h0 : Nat) : ∀ i : Nat, Jvm.Free.Multi.outerC c N h0 i = arrV c N (fun j => va_rf (if j < i then some (h0 + 1 + j) else none))
  | 0 => by
    show ({ cls := c, slots := Array.replicate N .null, vm := .none } : Cell) = _
    rw [arrV_new]
    refine congrArg (arrV c N) (funext fun j => ?_)
    simp [va_rf]
  | i + 1 => by
    show (Jvm.Free.Multi.outerC c N h0 i).setSlot i (.ref (h0 + 1 + i)) = _
    rw [vr_outer c N h0 i, arrV_store]
    refine congrArg (arrV c N) (funext fun j => ?_)
    by_cases e : j = i
    · subst e
      simp [updV, va_rf]
    · by_cases h : j < i
      · simp [updV, e, h, Nat.lt_succ_of_lt h]
      · simp [updV, e, h, show ¬ j < i + 1 by omega]
def RX0 : String := "BeamKeepers$Bearings"
def TX0 : u_T := fun k => match k with
  | 0 => ("BeamKeepers$Bearings", "winds", "[[I", true)
  | 1 => ("BeamKeepers$Bearings", "distances", "[[I", true)
  | _ => ("BeamKeepers$Bearings", "nearest", "[I", true)
def tyX0 : Nat → FieldType := fun k => match k with
  | 0 => .array (.array .int)
  | 1 => .array (.array .int)
  | _ => .array .int
theorem nmX0 : ∀ a, a < 3 → ∀ b, b < 3 → a ≠ b → (TX0 a).2.1 ≠ (TX0 b).2.1 := by decide +kernel
theorem tyX0_ok : ∀ k, k < 3 → parseFieldDescriptor (TX0 k).2.2.1 = some (tyX0 k) := by decide +kernel
abbrev cX0_init : ByteArray := prog_2_method_1_code
def yX0_init : MethodName := ⟨RX0, "<init>", "()V"⟩
abbrev cX0_windOf : ByteArray := prog_2_method_2_code
def yX0_windOf : MethodName := ⟨RX0, "windOf", "(II)I"⟩
def RX1 : String := "BeamKeepers$History"
def TX1 : u_T := fun k => match k with
  | 0 => ("BeamKeepers$History", "states", "[LBeamKeepers$State;", true)
  | _ => ("BeamKeepers$History", "size", "I", false)
def tyX1 : Nat → FieldType := fun k => match k with
  | 0 => .array (.object "BeamKeepers$State")
  | _ => .int
theorem nmX1 : ∀ a, a < 2 → ∀ b, b < 2 → a ≠ b → (TX1 a).2.1 ≠ (TX1 b).2.1 := by decide +kernel
theorem tyX1_ok : ∀ k, k < 2 → parseFieldDescriptor (TX1 k).2.2.1 = some (tyX1 k) := by decide +kernel
abbrev cX1_init : ByteArray := prog_3_method_1_code
def yX1_init : MethodName := ⟨RX1, "<init>", "(LBeamKeepers$Bearings;)V"⟩
abbrev cX1_record : ByteArray := prog_3_method_2_code
def yX1_record : MethodName := ⟨RX1, "record", "(LBeamKeepers$State;)V"⟩
abbrev cX1_dropOldest : ByteArray := prog_3_method_3_code
def yX1_dropOldest : MethodName := ⟨RX1, "dropOldest", "()V"⟩
abbrev cX1_takeBack : ByteArray := prog_3_method_4_code
def yX1_takeBack : MethodName := ⟨RX1, "takeBack", "(LBeamKeepers$State;)I"⟩
def RX2 : String := "BeamKeepers$Keeper"
def TX2 : u_T := fun k => match k with
  | 0 => ("BeamKeepers$Keeper", "coins", "I", false)
  | 1 => ("BeamKeepers$Keeper", "debt", "I", false)
  | 2 => ("BeamKeepers$Keeper", "cards", "I", false)
  | 3 => ("BeamKeepers$Keeper", "wrecks", "I", false)
  | _ => ("BeamKeepers$Keeper", "paid", "I", false)
def tyX2 : Nat → FieldType := fun k => match k with
  | 0 => .int
  | 1 => .int
  | 2 => .int
  | 3 => .int
  | _ => .int
theorem nmX2 : ∀ a, a < 5 → ∀ b, b < 5 → a ≠ b → (TX2 a).2.1 ≠ (TX2 b).2.1 := by decide +kernel
theorem tyX2_ok : ∀ k, k < 5 → parseFieldDescriptor (TX2 k).2.2.1 = some (tyX2 k) := by decide +kernel
abbrev cX2_init : ByteArray := prog_4_method_1_code
def yX2_init : MethodName := ⟨RX2, "<init>", "()V"⟩
abbrev cX2_copyFrom : ByteArray := prog_4_method_2_code
def yX2_copyFrom : MethodName := ⟨RX2, "copyFrom", "(LBeamKeepers$Keeper;)V"⟩
abbrev cX2_told : ByteArray := prog_4_method_3_code
def yX2_told : MethodName := ⟨RX2, "told", "(I)I"⟩
abbrev cX2_oweWreck : ByteArray := prog_4_method_4_code
def yX2_oweWreck : MethodName := ⟨RX2, "oweWreck", "(I)V"⟩
abbrev cX2_earn : ByteArray := prog_4_method_5_code
def yX2_earn : MethodName := ⟨RX2, "earn", "(I)V"⟩
def RX3 : String := "BeamKeepers$Light"
def TX3 : u_T := fun k => match k with
  | 0 => ("BeamKeepers$Light", "ownCell", "I", true)
  | 1 => ("BeamKeepers$Light", "winds", "[I", true)
  | 2 => ("BeamKeepers$Light", "distances", "[I", true)
  | 3 => ("BeamKeepers$Light", "start", "I", false)
  | 4 => ("BeamKeepers$Light", "pace", "I", false)
  | 5 => ("BeamKeepers$Light", "range", "I", false)
  | 6 => ("BeamKeepers$Light", "dark", "I", false)
  | _ => ("BeamKeepers$Light", "fog", "I", false)
def tyX3 : Nat → FieldType := fun k => match k with
  | 0 => .int
  | 1 => .array .int
  | 2 => .array .int
  | 3 => .int
  | 4 => .int
  | 5 => .int
  | 6 => .int
  | _ => .int
theorem nmX3 : ∀ a, a < 8 → ∀ b, b < 8 → a ≠ b → (TX3 a).2.1 ≠ (TX3 b).2.1 := by decide +kernel
theorem tyX3_ok : ∀ k, k < 8 → parseFieldDescriptor (TX3 k).2.2.1 = some (tyX3 k) := by decide +kernel
abbrev cX3_init : ByteArray := prog_5_method_1_code
def yX3_init : MethodName := ⟨RX3, "<init>", "(ILBeamKeepers$Bearings;)V"⟩
abbrev cX3_copyFrom : ByteArray := prog_5_method_2_code
def yX3_copyFrom : MethodName := ⟨RX3, "copyFrom", "(LBeamKeepers$Light;)V"⟩
abbrev cX3_told : ByteArray := prog_5_method_3_code
def yX3_told : MethodName := ⟨RX3, "told", "(II)I"⟩
abbrev cX3_set : ByteArray := prog_5_method_4_code
def yX3_set : MethodName := ⟨RX3, "set", "(II)V"⟩
abbrev cX3_turnDark : ByteArray := prog_5_method_5_code
def yX3_turnDark : MethodName := ⟨RX3, "turnDark", "(I)V"⟩
abbrev cX3_layCard : ByteArray := prog_5_method_6_code
def yX3_layCard : MethodName := ⟨RX3, "layCard", "()V"⟩
abbrev cX3_thinFog : ByteArray := prog_5_method_7_code
def yX3_thinFog : MethodName := ⟨RX3, "thinFog", "()V"⟩
abbrev cX3_beamWind : ByteArray := prog_5_method_8_code
def yX3_beamWind : MethodName := ⟨RX3, "beamWind", "(I)I"⟩
abbrev cX3_isDark : ByteArray := prog_5_method_9_code
def yX3_isDark : MethodName := ⟨RX3, "isDark", "(I)Z"⟩
abbrev cX3_reach : ByteArray := prog_5_method_10_code
def yX3_reach : MethodName := ⟨RX3, "reach", "(I)I"⟩
abbrev cX3_lightsCell : ByteArray := prog_5_method_11_code
def yX3_lightsCell : MethodName := ⟨RX3, "lightsCell", "(III)Z"⟩
abbrev cX3_meetsOnWalk : ByteArray := prog_5_method_12_code
def yX3_meetsOnWalk : MethodName := ⟨RX3, "meetsOnWalk", "(II)Z"⟩
abbrev cX3_cellOnRing : ByteArray := prog_5_method_13_code
def yX3_cellOnRing : MethodName := ⟨RX3, "cellOnRing", "(II)I"⟩
abbrev cX3_eastOnRing : ByteArray := prog_5_method_14_code
def yX3_eastOnRing : MethodName := ⟨RX3, "eastOnRing", "(II)I"⟩
abbrev cX3_litCells : ByteArray := prog_5_method_15_code
def yX3_litCells : MethodName := ⟨RX3, "litCells", "(I)I"⟩
abbrev cX3_whyDark : ByteArray := prog_5_method_16_code
def yX3_whyDark : MethodName := ⟨RX3, "whyDark", "(II)I"⟩
def RX4 : String := "BeamKeepers$Part"
def TX4 : u_T := fun k => match k with
  | 0 => ("BeamKeepers$Part", "kind", "C", false)
  | 1 => ("BeamKeepers$Part", "number", "I", false)
  | 2 => ("BeamKeepers$Part", "cell", "I", false)
  | 3 => ("BeamKeepers$Part", "harbour", "I", false)
  | _ => ("BeamKeepers$Part", "wind", "I", false)
def tyX4 : Nat → FieldType := fun k => match k with
  | 0 => .char
  | 1 => .int
  | 2 => .int
  | 3 => .int
  | _ => .int
theorem nmX4 : ∀ a, a < 5 → ∀ b, b < 5 → a ≠ b → (TX4 a).2.1 ≠ (TX4 b).2.1 := by decide +kernel
theorem tyX4_ok : ∀ k, k < 5 → parseFieldDescriptor (TX4 k).2.2.1 = some (tyX4 k) := by decide +kernel
abbrev cX4_init : ByteArray := prog_6_method_1_code
def yX4_init : MethodName := ⟨RX4, "<init>", "()V"⟩
def RX5 : String := "BeamKeepers$Ship"
def TX5 : u_T := fun k => match k with
  | 0 => ("BeamKeepers$Ship", "worth", "I", false)
  | 1 => ("BeamKeepers$Ship", "cell", "I", false)
  | 2 => ("BeamKeepers$Ship", "harbour", "I", false)
  | 3 => ("BeamKeepers$Ship", "condition", "I", false)
  | 4 => ("BeamKeepers$Ship", "waited", "I", false)
  | _ => ("BeamKeepers$Ship", "hasGone", "Z", false)
def tyX5 : Nat → FieldType := fun k => match k with
  | 0 => .int
  | 1 => .int
  | 2 => .int
  | 3 => .int
  | 4 => .int
  | _ => .boolean
theorem nmX5 : ∀ a, a < 6 → ∀ b, b < 6 → a ≠ b → (TX5 a).2.1 ≠ (TX5 b).2.1 := by decide +kernel
theorem tyX5_ok : ∀ k, k < 6 → parseFieldDescriptor (TX5 k).2.2.1 = some (tyX5 k) := by decide +kernel
abbrev cX5_init : ByteArray := prog_7_method_1_code
def yX5_init : MethodName := ⟨RX5, "<init>", "()V"⟩
abbrev cX5_copyFrom : ByteArray := prog_7_method_2_code
def yX5_copyFrom : MethodName := ⟨RX5, "copyFrom", "(LBeamKeepers$Ship;)V"⟩
abbrev cX5_begin : ByteArray := prog_7_method_3_code
def yX5_begin : MethodName := ⟨RX5, "begin", "(III)V"⟩
abbrev cX5_told : ByteArray := prog_7_method_4_code
def yX5_told : MethodName := ⟨RX5, "told", "(I)I"⟩
abbrev cX5_isAtSeaIn : ByteArray := prog_7_method_5_code
def yX5_isAtSeaIn : MethodName := ⟨RX5, "isAtSeaIn", "(I)Z"⟩
abbrev cX5_nextCell : ByteArray := prog_7_method_6_code
def yX5_nextCell : MethodName := ⟨RX5, "nextCell", "()I"⟩
abbrev cX5_comeTo : ByteArray := prog_7_method_7_code
def yX5_comeTo : MethodName := ⟨RX5, "comeTo", "(I)V"⟩
abbrev cX5_breakIn : ByteArray := prog_7_method_8_code
def yX5_breakIn : MethodName := ⟨RX5, "breakIn", "(I)V"⟩
def RX6 : String := "BeamKeepers$State"
def TX6 : u_T := fun k => match k with
  | 0 => ("BeamKeepers$State", "bearings", "LBeamKeepers$Bearings;", true)
  | 1 => ("BeamKeepers$State", "rockRows", "[I", true)
  | 2 => ("BeamKeepers$State", "lights", "[LBeamKeepers$Light;", true)
  | 3 => ("BeamKeepers$State", "keepers", "[LBeamKeepers$Keeper;", true)
  | 4 => ("BeamKeepers$State", "ships", "[LBeamKeepers$Ship;", true)
  | 5 => ("BeamKeepers$State", "shipCount", "I", false)
  | 6 => ("BeamKeepers$State", "wage", "I", false)
  | _ => ("BeamKeepers$State", "hour", "I", false)
def tyX6 : Nat → FieldType := fun k => match k with
  | 0 => .object "BeamKeepers$Bearings"
  | 1 => .array .int
  | 2 => .array (.object "BeamKeepers$Light")
  | 3 => .array (.object "BeamKeepers$Keeper")
  | 4 => .array (.object "BeamKeepers$Ship")
  | 5 => .int
  | 6 => .int
  | _ => .int
theorem nmX6 : ∀ a, a < 8 → ∀ b, b < 8 → a ≠ b → (TX6 a).2.1 ≠ (TX6 b).2.1 := by decide +kernel
theorem tyX6_ok : ∀ k, k < 8 → parseFieldDescriptor (TX6 k).2.2.1 = some (tyX6 k) := by decide +kernel
abbrev cX6_init : ByteArray := prog_8_method_1_code
def yX6_init : MethodName := ⟨RX6, "<init>", "(LBeamKeepers$Bearings;)V"⟩
abbrev cX6_copyFrom : ByteArray := prog_8_method_2_code
def yX6_copyFrom : MethodName := ⟨RX6, "copyFrom", "(LBeamKeepers$State;)V"⟩
abbrev cX6_hasRock : ByteArray := prog_8_method_3_code
def yX6_hasRock : MethodName := ⟨RX6, "hasRock", "(I)Z"⟩
abbrev cX6_rocks : ByteArray := prog_8_method_4_code
def yX6_rocks : MethodName := ⟨RX6, "rocks", "()I"⟩
abbrev cX6_rockError : ByteArray := prog_8_method_5_code
def yX6_rockError : MethodName := ⟨RX6, "rockError", "(I)I"⟩
abbrev cX6_turnRock : ByteArray := prog_8_method_6_code
def yX6_turnRock : MethodName := ⟨RX6, "turnRock", "(I)V"⟩
abbrev cX6_shipError : ByteArray := prog_8_method_7_code
def yX6_shipError : MethodName := ⟨RX6, "shipError", "(III)I"⟩
abbrev cX6_addShip : ByteArray := prog_8_method_8_code
def yX6_addShip : MethodName := ⟨RX6, "addShip", "(III)I"⟩
abbrev cX6_shipAtSeaIn : ByteArray := prog_8_method_9_code
def yX6_shipAtSeaIn : MethodName := ⟨RX6, "shipAtSeaIn", "(I)I"⟩
abbrev cX6_shipsThatAre : ByteArray := prog_8_method_10_code
def yX6_shipsThatAre : MethodName := ⟨RX6, "shipsThatAre", "(I)I"⟩
abbrev cX6_worthHome : ByteArray := prog_8_method_11_code
def yX6_worthHome : MethodName := ⟨RX6, "worthHome", "()I"⟩
abbrev cX6_placeOf : ByteArray := prog_8_method_12_code
def yX6_placeOf : MethodName := ⟨RX6, "placeOf", "(I)I"⟩
abbrev cX6_canLayCard : ByteArray := prog_8_method_13_code
def yX6_canLayCard : MethodName := ⟨RX6, "canLayCard", "(II)Z"⟩
abbrev cX6_debts : ByteArray := prog_8_method_14_code
def yX6_debts : MethodName := ⟨RX6, "debts", "()I"⟩
abbrev cX6_paid : ByteArray := prog_8_method_15_code
def yX6_paid : MethodName := ⟨RX6, "paid", "()I"⟩
abbrev cX6_litBy : ByteArray := prog_8_method_16_code
def yX6_litBy : MethodName := ⟨RX6, "litBy", "(III)I"⟩
abbrev cX6_litCells : ByteArray := prog_8_method_17_code
def yX6_litCells : MethodName := ⟨RX6, "litCells", "(Z)I"⟩
abbrev cX6_passError : ByteArray := prog_8_method_18_code
def yX6_passError : MethodName := ⟨RX6, "passError", "(I)I"⟩
abbrev cX6_passHours : ByteArray := prog_8_method_19_code
def yX6_passHours : MethodName := ⟨RX6, "passHours", "(I)I"⟩
abbrev cX6_nextToGo : ByteArray := prog_8_method_20_code
def yX6_nextToGo : MethodName := ⟨RX6, "nextToGo", "()LBeamKeepers$Ship;"⟩
abbrev cX6_goesToWreck : ByteArray := prog_8_method_21_code
def yX6_goesToWreck : MethodName := ⟨RX6, "goesToWreck", "(LBeamKeepers$Ship;)Z"⟩
abbrev cX6_oweWreck : ByteArray := prog_8_method_22_code
def yX6_oweWreck : MethodName := ⟨RX6, "oweWreck", "(II)V"⟩
abbrev cX6_doPart : ByteArray := prog_8_method_23_code
def yX6_doPart : MethodName := ⟨RX6, "doPart", "(LBeamKeepers$Part;)I"⟩
def RX7 : String := "BeamKeepers$Text"
def TX7 : u_T := fun k => match k with
  | 0 => ("BeamKeepers$Text", "characters", "[C", true)
  | 1 => ("BeamKeepers$Text", "length", "I", false)
  | 2 => ("BeamKeepers$Text", "parts", "[LBeamKeepers$Part;", true)
  | 3 => ("BeamKeepers$Text", "partCount", "I", false)
  | _ => ("BeamKeepers$Text", "place", "I", false)
def tyX7 : Nat → FieldType := fun k => match k with
  | 0 => .array .char
  | 1 => .int
  | 2 => .array (.object "BeamKeepers$Part")
  | 3 => .int
  | _ => .int
theorem nmX7 : ∀ a, a < 5 → ∀ b, b < 5 → a ≠ b → (TX7 a).2.1 ≠ (TX7 b).2.1 := by decide +kernel
theorem tyX7_ok : ∀ k, k < 5 → parseFieldDescriptor (TX7 k).2.2.1 = some (tyX7 k) := by decide +kernel
abbrev cX7_init : ByteArray := prog_9_method_1_code
def yX7_init : MethodName := ⟨RX7, "<init>", "()V"⟩
abbrev cX7_append : ByteArray := prog_9_method_2_code
def yX7_append : MethodName := ⟨RX7, "append", "(C)I"⟩
abbrev cX7_read : ByteArray := prog_9_method_3_code
def yX7_read : MethodName := ⟨RX7, "read", "()I"⟩
abbrev cX7_readPart : ByteArray := prog_9_method_4_code
def yX7_readPart : MethodName := ⟨RX7, "readPart", "(LBeamKeepers$Part;)Z"⟩
abbrev cX7_readShip : ByteArray := prog_9_method_5_code
def yX7_readShip : MethodName := ⟨RX7, "readShip", "(LBeamKeepers$Part;)Z"⟩
abbrev cX7_signAhead : ByteArray := prog_9_method_6_code
def yX7_signAhead : MethodName := ⟨RX7, "signAhead", "()C"⟩
abbrev cX7_readSign : ByteArray := prog_9_method_7_code
def yX7_readSign : MethodName := ⟨RX7, "readSign", "(C)Z"⟩
abbrev cX7_readCell : ByteArray := prog_9_method_8_code
def yX7_readCell : MethodName := ⟨RX7, "readCell", "()I"⟩
abbrev cX7_readNumber : ByteArray := prog_9_method_9_code
def yX7_readNumber : MethodName := ⟨RX7, "readNumber", "(I)I"⟩
abbrev cX7_readDigit : ByteArray := prog_9_method_10_code
def yX7_readDigit : MethodName := ⟨RX7, "readDigit", "(II)I"⟩
def RX8 : String := "BeamKeepers"
def TX8 : u_T := fun k => match k with
  | 0 => ("BeamKeepers", "bearings", "LBeamKeepers$Bearings;", true)
  | 1 => ("BeamKeepers", "state", "LBeamKeepers$State;", true)
  | 2 => ("BeamKeepers", "trial", "LBeamKeepers$State;", true)
  | 3 => ("BeamKeepers", "snapshot", "LBeamKeepers$State;", true)
  | 4 => ("BeamKeepers", "hasSnapshot", "Z", false)
  | 5 => ("BeamKeepers", "history", "LBeamKeepers$History;", true)
  | _ => ("BeamKeepers", "text", "LBeamKeepers$Text;", true)
def tyX8 : Nat → FieldType := fun k => match k with
  | 0 => .object "BeamKeepers$Bearings"
  | 1 => .object "BeamKeepers$State"
  | 2 => .object "BeamKeepers$State"
  | 3 => .object "BeamKeepers$State"
  | 4 => .boolean
  | 5 => .object "BeamKeepers$History"
  | _ => .object "BeamKeepers$Text"
theorem nmX8 : ∀ a, a < 7 → ∀ b, b < 7 → a ≠ b → (TX8 a).2.1 ≠ (TX8 b).2.1 := by decide +kernel
theorem tyX8_ok : ∀ k, k < 7 → parseFieldDescriptor (TX8 k).2.2.1 = some (tyX8 k) := by decide +kernel
abbrev cX8_init : ByteArray := prog_1_method_1_code
def yX8_init : MethodName := ⟨RX8, "<init>", "()V"⟩
abbrev cX8_rock : ByteArray := prog_1_method_2_code
def yX8_rock : MethodName := ⟨RX8, "rock", "(I)I"⟩
abbrev cX8_light : ByteArray := prog_1_method_3_code
def yX8_light : MethodName := ⟨RX8, "light", "(III)I"⟩
abbrev cX8_ship : ByteArray := prog_1_method_4_code
def yX8_ship : MethodName := ⟨RX8, "ship", "(III)I"⟩
abbrev cX8_doAll : ByteArray := prog_1_method_5_code
def yX8_doAll : MethodName := ⟨RX8, "doAll", "()I"⟩
abbrev cX8_card : ByteArray := prog_1_method_6_code
def yX8_card : MethodName := ⟨RX8, "card", "(II)I"⟩
abbrev cX8_pass : ByteArray := prog_1_method_7_code
def yX8_pass : MethodName := ⟨RX8, "pass", "(I)I"⟩
abbrev cX8_wage : ByteArray := prog_1_method_8_code
def yX8_wage : MethodName := ⟨RX8, "wage", "(I)I"⟩
abbrev cX8_type : ByteArray := prog_1_method_9_code
def yX8_type : MethodName := ⟨RX8, "type", "(C)I"⟩
abbrev cX8_clearText : ByteArray := prog_1_method_10_code
def yX8_clearText : MethodName := ⟨RX8, "clearText", "()I"⟩
abbrev cX8_fault : ByteArray := prog_1_method_11_code
def yX8_fault : MethodName := ⟨RX8, "fault", "()I"⟩
abbrev cX8_undo : ByteArray := prog_1_method_12_code
def yX8_undo : MethodName := ⟨RX8, "undo", "()I"⟩
abbrev cX8_keep : ByteArray := prog_1_method_13_code
def yX8_keep : MethodName := ⟨RX8, "keep", "()I"⟩
abbrev cX8_restore : ByteArray := prog_1_method_14_code
def yX8_restore : MethodName := ⟨RX8, "restore", "()I"⟩
abbrev cX8_cellOf : ByteArray := prog_1_method_15_code
def yX8_cellOf : MethodName := ⟨RX8, "cellOf", "(II)I"⟩
abbrev cX8_lightOf : ByteArray := prog_1_method_16_code
def yX8_lightOf : MethodName := ⟨RX8, "lightOf", "(II)I"⟩
abbrev cX8_keeperOf : ByteArray := prog_1_method_17_code
def yX8_keeperOf : MethodName := ⟨RX8, "keeperOf", "(II)I"⟩
abbrev cX8_shipOf : ByteArray := prog_1_method_18_code
def yX8_shipOf : MethodName := ⟨RX8, "shipOf", "(II)I"⟩
abbrev cX8_isLit : ByteArray := prog_1_method_19_code
def yX8_isLit : MethodName := ⟨RX8, "isLit", "(IIII)I"⟩
abbrev cX8_why : ByteArray := prog_1_method_20_code
def yX8_why : MethodName := ⟨RX8, "why", "(II)I"⟩
abbrev cX8_count : ByteArray := prog_1_method_21_code
def yX8_count : MethodName := ⟨RX8, "count", "(I)I"⟩
abbrev cX8_share : ByteArray := prog_1_method_22_code
def yX8_share : MethodName := ⟨RX8, "share", "(I)F"⟩
abbrev cX8_litIn : ByteArray := prog_1_method_23_code
def yX8_litIn : MethodName := ⟨RX8, "litIn", "(I)I"⟩
abbrev cX8_ifPassed : ByteArray := prog_1_method_24_code
def yX8_ifPassed : MethodName := ⟨RX8, "ifPassed", "(I)I"⟩
abbrev cX8_bestCard : ByteArray := prog_1_method_25_code
def yX8_bestCard : MethodName := ⟨RX8, "bestCard", "(I)I"⟩
abbrev cX8_worthWreckedInTrial : ByteArray := prog_1_method_26_code
def yX8_worthWreckedInTrial : MethodName := ⟨RX8, "worthWreckedInTrial", "()I"⟩
abbrev cX8_isWreckedInTrial : ByteArray := prog_1_method_27_code
def yX8_isWreckedInTrial : MethodName := ⟨RX8, "isWreckedInTrial", "(I)Z"⟩
abbrev cX8_isCell : ByteArray := prog_1_method_28_code
def yX8_isCell : MethodName := ⟨RX8, "isCell", "(I)Z"⟩
abbrev cX8_isLight : ByteArray := prog_1_method_29_code
def yX8_isLight : MethodName := ⟨RX8, "isLight", "(I)Z"⟩
abbrev cX8_isShip : ByteArray := prog_1_method_30_code
def yX8_isShip : MethodName := ⟨RX8, "isShip", "(I)Z"⟩
abbrev cX8_isSetting : ByteArray := prog_1_method_31_code
def yX8_isSetting : MethodName := ⟨RX8, "isSetting", "(II)Z"⟩
abbrev cX8_distanceBetween : ByteArray := prog_1_method_32_code
def yX8_distanceBetween : MethodName := ⟨RX8, "distanceBetween", "(II)I"⟩
def RX9 : String := "BeamKeepersModel"
def TX9 : u_T := fun k => match k with
  | _ => ("", "", "", false)
def tyX9 : Nat → FieldType := fun k => match k with
  | _ => .int
theorem nmX9 : ∀ a, a < 0 → ∀ b, b < 0 → a ≠ b → (TX9 a).2.1 ≠ (TX9 b).2.1 := by decide +kernel
theorem tyX9_ok : ∀ k, k < 0 → parseFieldDescriptor (TX9 k).2.2.1 = some (tyX9 k) := by decide +kernel
def RJ6 : String := "java/lang/Integer"
def TJ6 : u_T := fun k => match k with
  | _ => ("", "", "", false)
def tyJ6 : Nat → FieldType := fun k => match k with
  | _ => .int
theorem nmJ6 : ∀ a, a < 0 → ∀ b, b < 0 → a ≠ b → (TJ6 a).2.1 ≠ (TJ6 b).2.1 := by decide +kernel
theorem tyJ6_ok : ∀ k, k < 0 → parseFieldDescriptor (TJ6 k).2.2.1 = some (tyJ6 k) := by decide +kernel
abbrev cJ6_compare_7cf53 : ByteArray := prog_12_method_40_code
def yJ6_compare_7cf53 : MethodName := ⟨RJ6, "compare", "(II)I"⟩
abbrev cJ6_bitCount_0f7a4 : ByteArray := prog_12_method_49_code
def yJ6_bitCount_0f7a4 : MethodName := ⟨RJ6, "bitCount", "(I)I"⟩
def RJ9 : String := "java/lang/Math"
def TJ9 : u_T := fun k => match k with
  | _ => ("", "", "", false)
def tyJ9 : Nat → FieldType := fun k => match k with
  | _ => .int
theorem nmJ9 : ∀ a, a < 0 → ∀ b, b < 0 → a ≠ b → (TJ9 a).2.1 ≠ (TJ9 b).2.1 := by decide +kernel
theorem tyJ9_ok : ∀ k, k < 0 → parseFieldDescriptor (TJ9 k).2.2.1 = some (tyJ9 k) := by decide +kernel
abbrev cJ9_floorMod_7cf53 : ByteArray := prog_13_method_50_code
def yJ9_floorMod_7cf53 : MethodName := ⟨RJ9, "floorMod", "(II)I"⟩
abbrev cJ9_abs_0f7a4 : ByteArray := prog_13_method_59_code
def yJ9_abs_0f7a4 : MethodName := ⟨RJ9, "abs", "(I)I"⟩
abbrev cJ9_max_7cf53 : ByteArray := prog_13_method_65_code
def yJ9_max_7cf53 : MethodName := ⟨RJ9, "max", "(II)I"⟩
abbrev cJ9_min_7cf53 : ByteArray := prog_13_method_69_code
def yJ9_min_7cf53 : MethodName := ⟨RJ9, "min", "(II)I"⟩
def RJ10 : String := "java/lang/System"
def TJ10 : u_T := fun k => match k with
  | _ => ("", "", "", false)
def tyJ10 : Nat → FieldType := fun k => match k with
  | _ => .int
theorem nmJ10 : ∀ a, a < 0 → ∀ b, b < 0 → a ≠ b → (TJ10 a).2.1 ≠ (TJ10 b).2.1 := by decide +kernel
theorem tyJ10_ok : ∀ k, k < 0 → parseFieldDescriptor (TJ10 k).2.2.1 = some (tyJ10 k) := by decide +kernel
def RL : String := "BeamKeepersLaw"
abbrev cL_cell : ByteArray := method_2_code
def yL_cell : MethodName := ⟨RL, "cell", "([II)I"⟩
abbrev cL_acts : ByteArray := method_3_code
def yL_acts : MethodName := ⟨RL, "acts", "(LBeamKeepers;I)I"⟩
abbrev cL_hangs : ByteArray := method_4_code
def yL_hangs : MethodName := ⟨RL, "hangs", "(LBeamKeepers;)Z"⟩
abbrev cL_same : ByteArray := method_5_code
def yL_same : MethodName := ⟨RL, "same", "(LBeamKeepers;LBeamKeepers;)Z"⟩
abbrev cL_refuses : ByteArray := method_6_code
def yL_refuses : MethodName := ⟨RL, "refuses", "(LBeamKeepers;I)Z"⟩
abbrev cL_law : ByteArray := code
def yL_law : MethodName := ⟨RL, "law", "([I)Z"⟩
abbrev vwCl : List vw_C := [(RX0, TX0, 3), (RX1, TX1, 2), (RX2, TX2, 5), (RX3, TX3, 8), (RX4, TX4, 5), (RX5, TX5, 6), (RX6, TX6, 8), (RX7, TX7, 5), (RX8, TX8, 7)]
