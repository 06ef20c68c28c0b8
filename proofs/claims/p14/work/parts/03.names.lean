/-! ===== BEGIN printed: names, fields, word lists, decode rows ===== -/
def RX0 : String := "HotelOfBells$Dream"
def TX0 : u_T := fun k => match k with
  | 0 => ("HotelOfBells$Dream", "moment", "LHotelOfBells$Moment;", true)
  | 1 => ("HotelOfBells$Dream", "guest", "LHotelOfBells$Guest;", true)
  | _ => ("HotelOfBells$Dream", "deeper", "LHotelOfBells$Dream;", true)
def tyX0 : Nat → FieldType := fun k => match k with
  | 0 => .object "HotelOfBells$Moment"
  | 1 => .object "HotelOfBells$Guest"
  | _ => .object "HotelOfBells$Dream"
abbrev wsX00 : List Cond := u_ws RX0 TX0 3
theorem nmX0 : ∀ a, a < 3 → ∀ b, b < 3 → a ≠ b → (TX0 a).2.1 ≠ (TX0 b).2.1 := by decide +kernel
theorem tyX0_ok : ∀ k, k < 3 → parseFieldDescriptor (TX0 k).2.2.1 = some (tyX0 k) := by decide +kernel
abbrev cX0_init : ByteArray := prog_2_method_1_code
def yX0_init : MethodName := ⟨RX0, "<init>", "(LHotelOfBells$Dream;)V"⟩
def RX1 : String := "HotelOfBells$Floor"
def TX1 : u_T := fun k => match k with
  | 0 => ("HotelOfBells$Floor", "rooms", "I", true)
  | 1 => ("HotelOfBells$Floor", "tune", "I", false)
  | 2 => ("HotelOfBells$Floor", "span", "I", false)
  | _ => ("HotelOfBells$Floor", "step", "I", false)
def tyX1 : Nat → FieldType := fun k => match k with
  | 0 => .int
  | 1 => .int
  | 2 => .int
  | _ => .int
abbrev wsX10 : List Cond := u_ws RX1 TX1 4
theorem nmX1 : ∀ a, a < 4 → ∀ b, b < 4 → a ≠ b → (TX1 a).2.1 ≠ (TX1 b).2.1 := by decide +kernel
theorem tyX1_ok : ∀ k, k < 4 → parseFieldDescriptor (TX1 k).2.2.1 = some (tyX1 k) := by decide +kernel
abbrev cX1_init : ByteArray := prog_3_method_1_code
def yX1_init : MethodName := ⟨RX1, "<init>", "(I)V"⟩
abbrev cX1_hearsItsTune : ByteArray := prog_3_method_2_code
def yX1_hearsItsTune : MethodName := ⟨RX1, "hearsItsTune", "(I)Z"⟩
abbrev cX1_nextTurn : ByteArray := prog_3_method_3_code
def yX1_nextTurn : MethodName := ⟨RX1, "nextTurn", "(I)I"⟩
abbrev cX1_tonesHeard : ByteArray := prog_3_method_4_code
def yX1_tonesHeard : MethodName := ⟨RX1, "tonesHeard", "(I)I"⟩
def RX2 : String := "HotelOfBells$Guest"
def TX2 : u_T := fun k => match k with
  | 0 => ("HotelOfBells$Guest", "onFloor", "I", false)
  | 1 => ("HotelOfBells$Guest", "inRoom", "I", false)
  | 2 => ("HotelOfBells$Guest", "inLift", "I", false)
  | 3 => ("HotelOfBells$Guest", "wantedFloor", "I", false)
  | 4 => ("HotelOfBells$Guest", "wantedRoom", "I", false)
  | _ => ("HotelOfBells$Guest", "waited", "I", false)
def tyX2 : Nat → FieldType := fun k => match k with
  | 0 => .int
  | 1 => .int
  | 2 => .int
  | 3 => .int
  | 4 => .int
  | _ => .int
abbrev wsX20 : List Cond := u_ws RX2 TX2 6
theorem nmX2 : ∀ a, a < 6 → ∀ b, b < 6 → a ≠ b → (TX2 a).2.1 ≠ (TX2 b).2.1 := by decide +kernel
theorem tyX2_ok : ∀ k, k < 6 → parseFieldDescriptor (TX2 k).2.2.1 = some (tyX2 k) := by decide +kernel
abbrev cX2_init : ByteArray := prog_4_method_1_code
def yX2_init : MethodName := ⟨RX2, "<init>", "(II)V"⟩
abbrev cX2_isHome : ByteArray := prog_4_method_2_code
def yX2_isHome : MethodName := ⟨RX2, "isHome", "()Z"⟩
abbrev cX2_stepOut : ByteArray := prog_4_method_3_code
def yX2_stepOut : MethodName := ⟨RX2, "stepOut", "()V"⟩
abbrev cX2_stepInto : ByteArray := prog_4_method_4_code
def yX2_stepInto : MethodName := ⟨RX2, "stepInto", "(I)V"⟩
abbrev cX2_becomeLike : ByteArray := prog_4_method_5_code
def yX2_becomeLike : MethodName := ⟨RX2, "becomeLike", "(LHotelOfBells$Guest;)V"⟩
def RX3 : String := "HotelOfBells$Moment"
def TX3 : u_T := fun k => match k with
  | 0 => ("HotelOfBells$Moment", "heard", "I", false)
  | 1 => ("HotelOfBells$Moment", "turns", "[I", true)
  | 2 => ("HotelOfBells$Moment", "heights", "[I", true)
  | _ => ("HotelOfBells$Moment", "falling", "[Z", true)
def tyX3 : Nat → FieldType := fun k => match k with
  | 0 => .int
  | 1 => .array .int
  | 2 => .array .int
  | _ => .array .boolean
abbrev wsX30 : List Cond := u_ws RX3 TX3 4
theorem nmX3 : ∀ a, a < 4 → ∀ b, b < 4 → a ≠ b → (TX3 a).2.1 ≠ (TX3 b).2.1 := by decide +kernel
theorem tyX3_ok : ∀ k, k < 4 → parseFieldDescriptor (TX3 k).2.2.1 = some (tyX3 k) := by decide +kernel
abbrev cX3_init : ByteArray := prog_5_method_1_code
def yX3_init : MethodName := ⟨RX3, "<init>", "()V"⟩
abbrev cX3_turnOf : ByteArray := prog_5_method_2_code
def yX3_turnOf : MethodName := ⟨RX3, "turnOf", "(I)I"⟩
abbrev cX3_setTurn : ByteArray := prog_5_method_3_code
def yX3_setTurn : MethodName := ⟨RX3, "setTurn", "(II)V"⟩
abbrev cX3_heightOf : ByteArray := prog_5_method_4_code
def yX3_heightOf : MethodName := ⟨RX3, "heightOf", "(I)I"⟩
abbrev cX3_isRising : ByteArray := prog_5_method_5_code
def yX3_isRising : MethodName := ⟨RX3, "isRising", "(I)Z"⟩
abbrev cX3_moveLift : ByteArray := prog_5_method_6_code
def yX3_moveLift : MethodName := ⟨RX3, "moveLift", "(II)V"⟩
abbrev cX3_becomeLike : ByteArray := prog_5_method_7_code
def yX3_becomeLike : MethodName := ⟨RX3, "becomeLike", "(LHotelOfBells$Moment;)V"⟩
def RX4 : String := "HotelOfBells$Shaft"
def TX4 : u_T := fun k => match k with
  | _ => ("HotelOfBells$Shaft", "doors", "[I", true)
def tyX4 : Nat → FieldType := fun k => match k with
  | _ => .array .int
abbrev wsX40 : List Cond := u_ws RX4 TX4 1
theorem nmX4 : ∀ a, a < 1 → ∀ b, b < 1 → a ≠ b → (TX4 a).2.1 ≠ (TX4 b).2.1 := by decide +kernel
theorem tyX4_ok : ∀ k, k < 1 → parseFieldDescriptor (TX4 k).2.2.1 = some (tyX4 k) := by decide +kernel
abbrev cX4_init : ByteArray := prog_6_method_1_code
def yX4_init : MethodName := ⟨RX4, "<init>", "()V"⟩
abbrev cX4_doorOn : ByteArray := prog_6_method_2_code
def yX4_doorOn : MethodName := ⟨RX4, "doorOn", "(I)I"⟩
abbrev cX4_putDoor : ByteArray := prog_6_method_3_code
def yX4_putDoor : MethodName := ⟨RX4, "putDoor", "(II)V"⟩
def RX5 : String := "HotelOfBells"
def TX5 : u_T := fun k => match k with
  | 0 => ("HotelOfBells", "floors", "Ljava/util/ArrayList;", true)
  | 1 => ("HotelOfBells", "shafts", "Ljava/util/ArrayList;", true)
  | 2 => ("HotelOfBells", "guests", "Ljava/util/ArrayList;", true)
  | 3 => ("HotelOfBells", "now", "LHotelOfBells$Moment;", true)
  | 4 => ("HotelOfBells", "dream", "LHotelOfBells$Dream;", true)
  | 5 => ("HotelOfBells", "paper", "[B", true)
  | 6 => ("HotelOfBells", "paperLength", "I", false)
  | 7 => ("HotelOfBells", "bells", "I", false)
  | _ => ("HotelOfBells", "turnsByBells", "I", false)
def tyX5 : Nat → FieldType := fun k => match k with
  | 0 => .object "java/util/ArrayList"
  | 1 => .object "java/util/ArrayList"
  | 2 => .object "java/util/ArrayList"
  | 3 => .object "HotelOfBells$Moment"
  | 4 => .object "HotelOfBells$Dream"
  | 5 => .array .byte
  | 6 => .int
  | 7 => .int
  | _ => .int
abbrev wsX50 : List Cond := u_ws RX5 TX5 9
theorem nmX5 : ∀ a, a < 9 → ∀ b, b < 9 → a ≠ b → (TX5 a).2.1 ≠ (TX5 b).2.1 := by decide +kernel
theorem tyX5_ok : ∀ k, k < 9 → parseFieldDescriptor (TX5 k).2.2.1 = some (tyX5 k) := by decide +kernel
abbrev cX5_init : ByteArray := prog_1_method_1_code
def yX5_init : MethodName := ⟨RX5, "<init>", "()V"⟩
abbrev cX5_addFloor : ByteArray := prog_1_method_2_code
def yX5_addFloor : MethodName := ⟨RX5, "addFloor", "(I)I"⟩
abbrev cX5_setTune : ByteArray := prog_1_method_3_code
def yX5_setTune : MethodName := ⟨RX5, "setTune", "(III)I"⟩
abbrev cX5_addLift : ByteArray := prog_1_method_4_code
def yX5_addLift : MethodName := ⟨RX5, "addLift", "()I"⟩
abbrev cX5_setDoor : ByteArray := prog_1_method_5_code
def yX5_setDoor : MethodName := ⟨RX5, "setDoor", "(III)I"⟩
abbrev cX5_addGuest : ByteArray := prog_1_method_6_code
def yX5_addGuest : MethodName := ⟨RX5, "addGuest", "(II)I"⟩
abbrev cX5_want : ByteArray := prog_1_method_7_code
def yX5_want : MethodName := ⟨RX5, "want", "(III)Z"⟩
abbrev cX5_floor : ByteArray := prog_1_method_8_code
def yX5_floor : MethodName := ⟨RX5, "floor", "(II)I"⟩
abbrev cX5_place : ByteArray := prog_1_method_9_code
def yX5_place : MethodName := ⟨RX5, "place", "(II)I"⟩
abbrev cX5_lift : ByteArray := prog_1_method_10_code
def yX5_lift : MethodName := ⟨RX5, "lift", "(II)I"⟩
abbrev cX5_guest : ByteArray := prog_1_method_11_code
def yX5_guest : MethodName := ⟨RX5, "guest", "(II)I"⟩
abbrev cX5_count : ByteArray := prog_1_method_12_code
def yX5_count : MethodName := ⟨RX5, "count", "(I)I"⟩
abbrev cX5_ring : ByteArray := prog_1_method_13_code
def yX5_ring : MethodName := ⟨RX5, "ring", "(I)I"⟩
abbrev cX5_play : ByteArray := prog_1_method_14_code
def yX5_play : MethodName := ⟨RX5, "play", "(I)I"⟩
abbrev cX5_foresee : ByteArray := prog_1_method_15_code
def yX5_foresee : MethodName := ⟨RX5, "foresee", "(II)I"⟩
abbrev cX5_advise : ByteArray := prog_1_method_16_code
def yX5_advise : MethodName := ⟨RX5, "advise", "(II)I"⟩
abbrev cX5_wouldTurn : ByteArray := prog_1_method_17_code
def yX5_wouldTurn : MethodName := ⟨RX5, "wouldTurn", "(I)I"⟩
abbrev cX5_write : ByteArray := prog_1_method_18_code
def yX5_write : MethodName := ⟨RX5, "write", "()I"⟩
abbrev cX5_byteAt : ByteArray := prog_1_method_19_code
def yX5_byteAt : MethodName := ⟨RX5, "byteAt", "(I)I"⟩
abbrev cX5_home : ByteArray := prog_1_method_20_code
def yX5_home : MethodName := ⟨RX5, "home", "()D"⟩
abbrev cX5_digest : ByteArray := prog_1_method_21_code
def yX5_digest : MethodName := ⟨RX5, "digest", "()J"⟩
abbrev cX5_isFloor : ByteArray := prog_1_method_22_code
def yX5_isFloor : MethodName := ⟨RX5, "isFloor", "(I)Z"⟩
abbrev cX5_isRoom : ByteArray := prog_1_method_23_code
def yX5_isRoom : MethodName := ⟨RX5, "isRoom", "(II)Z"⟩
abbrev cX5_isLift : ByteArray := prog_1_method_24_code
def yX5_isLift : MethodName := ⟨RX5, "isLift", "(I)Z"⟩
abbrev cX5_isGuest : ByteArray := prog_1_method_25_code
def yX5_isGuest : MethodName := ⟨RX5, "isGuest", "(I)Z"⟩
abbrev cX5_isTone : ByteArray := prog_1_method_26_code
def yX5_isTone : MethodName := ⟨RX5, "isTone", "(I)Z"⟩
abbrev cX5_spanOf : ByteArray := prog_1_method_27_code
def yX5_spanOf : MethodName := ⟨RX5, "spanOf", "(I)I"⟩
abbrev cX5_toneAt : ByteArray := prog_1_method_28_code
def yX5_toneAt : MethodName := ⟨RX5, "toneAt", "(II)I"⟩
abbrev cX5_heardWith : ByteArray := prog_1_method_29_code
def yX5_heardWith : MethodName := ⟨RX5, "heardWith", "(II)I"⟩
abbrev cX5_remainder : ByteArray := prog_1_method_30_code
def yX5_remainder : MethodName := ⟨RX5, "remainder", "(II)I"⟩
abbrev cX5_toll : ByteArray := prog_1_method_31_code
def yX5_toll : MethodName := ⟨RX5, "toll", "(I)I"⟩
abbrev cX5_strike : ByteArray := prog_1_method_32_code
def yX5_strike : MethodName := ⟨RX5, "strike", "(LHotelOfBells$Moment;I)I"⟩
abbrev cX5_act : ByteArray := prog_1_method_33_code
def yX5_act : MethodName := ⟨RX5, "act", "(LHotelOfBells$Guest;LHotelOfBells$Moment;)Z"⟩
abbrev cX5_reachesWanted : ByteArray := prog_1_method_34_code
def yX5_reachesWanted : MethodName := ⟨RX5, "reachesWanted", "(LHotelOfBells$Guest;LHotelOfBells$Moment;)Z"⟩
abbrev cX5_liftBefore : ByteArray := prog_1_method_35_code
def yX5_liftBefore : MethodName := ⟨RX5, "liftBefore", "(IILHotelOfBells$Moment;)I"⟩
abbrev cX5_placeOf : ByteArray := prog_1_method_36_code
def yX5_placeOf : MethodName := ⟨RX5, "placeOf", "(IILHotelOfBells$Moment;)I"⟩
abbrev cX5_leastRow : ByteArray := prog_1_method_37_code
def yX5_leastRow : MethodName := ⟨RX5, "leastRow", "(LHotelOfBells$Dream;III)I"⟩
abbrev cX5_leastRowWith : ByteArray := prog_1_method_38_code
def yX5_leastRowWith : MethodName := ⟨RX5, "leastRowWith", "(LHotelOfBells$Dream;IIII)I"⟩
abbrev cX5_guestsOn : ByteArray := prog_1_method_39_code
def yX5_guestsOn : MethodName := ⟨RX5, "guestsOn", "(I)I"⟩
abbrev cX5_guestsIn : ByteArray := prog_1_method_40_code
def yX5_guestsIn : MethodName := ⟨RX5, "guestsIn", "(I)I"⟩
abbrev cX5_guestsAtHome : ByteArray := prog_1_method_41_code
def yX5_guestsAtHome : MethodName := ⟨RX5, "guestsAtHome", "()I"⟩
abbrev cX5_guestsRiding : ByteArray := prog_1_method_42_code
def yX5_guestsRiding : MethodName := ⟨RX5, "guestsRiding", "()I"⟩
abbrev cX5_putFloor : ByteArray := prog_1_method_43_code
def yX5_putFloor : MethodName := ⟨RX5, "putFloor", "(I)V"⟩
abbrev cX5_putLift : ByteArray := prog_1_method_44_code
def yX5_putLift : MethodName := ⟨RX5, "putLift", "(I)V"⟩
abbrev cX5_putGuest : ByteArray := prog_1_method_45_code
def yX5_putGuest : MethodName := ⟨RX5, "putGuest", "(I)V"⟩
abbrev cX5_putBehindBlank : ByteArray := prog_1_method_46_code
def yX5_putBehindBlank : MethodName := ⟨RX5, "putBehindBlank", "(I)V"⟩
abbrev cX5_putNumber : ByteArray := prog_1_method_47_code
def yX5_putNumber : MethodName := ⟨RX5, "putNumber", "(I)V"⟩
abbrev cX5_put : ByteArray := prog_1_method_48_code
def yX5_put : MethodName := ⟨RX5, "put", "(C)V"⟩
def RX6 : String := "HotelOfBellsModel"
def TX6 : u_T := fun k => match k with
  | 0 => ("HotelOfBellsModel", "thrown", "I", false)
  | 1 => ("HotelOfBellsModel", "floors", "I", false)
  | 2 => ("HotelOfBellsModel", "lifts", "I", false)
  | 3 => ("HotelOfBellsModel", "guests", "I", false)
  | 4 => ("HotelOfBellsModel", "row", "[I", false)
  | _ => ("HotelOfBellsModel", "paper", "Ljava/lang/StringBuilder;", true)
def tyX6 : Nat → FieldType := fun k => match k with
  | 0 => .int
  | 1 => .int
  | 2 => .int
  | 3 => .int
  | 4 => .array .int
  | _ => .object "java/lang/StringBuilder"
abbrev wsX60 : List Cond := u_ws RX6 TX6 6
theorem nmX6 : ∀ a, a < 6 → ∀ b, b < 6 → a ≠ b → (TX6 a).2.1 ≠ (TX6 b).2.1 := by decide +kernel
theorem tyX6_ok : ∀ k, k < 6 → parseFieldDescriptor (TX6 k).2.2.1 = some (tyX6 k) := by decide +kernel
abbrev cX6_init : ByteArray := prog_8_method_1_code
def yX6_init : MethodName := ⟨RX6, "<init>", "()V"⟩
abbrev cX6_thrown : ByteArray := prog_8_method_2_code
def yX6_thrown : MethodName := ⟨RX6, "thrown", "()I"⟩
abbrev cX6_fail : ByteArray := prog_8_method_3_code
def yX6_fail : MethodName := ⟨RX6, "fail", "(I)I"⟩
abbrev cX6_isIn : ByteArray := prog_8_method_4_code
def yX6_isIn : MethodName := ⟨RX6, "isIn", "(III)Z"⟩
abbrev cX6_fl : ByteArray := prog_8_method_5_code
def yX6_fl : MethodName := ⟨RX6, "fl", "(II)I"⟩
abbrev cX6_setFl : ByteArray := prog_8_method_6_code
def yX6_setFl : MethodName := ⟨RX6, "setFl", "(III)V"⟩
abbrev cX6_li : ByteArray := prog_8_method_7_code
def yX6_li : MethodName := ⟨RX6, "li", "(II)I"⟩
abbrev cX6_setLi : ByteArray := prog_8_method_8_code
def yX6_setLi : MethodName := ⟨RX6, "setLi", "(III)V"⟩
abbrev cX6_gu : ByteArray := prog_8_method_9_code
def yX6_gu : MethodName := ⟨RX6, "gu", "(II)I"⟩
abbrev cX6_setGu : ByteArray := prog_8_method_10_code
def yX6_setGu : MethodName := ⟨RX6, "setGu", "(III)V"⟩
abbrev cX6_isFloor : ByteArray := prog_8_method_11_code
def yX6_isFloor : MethodName := ⟨RX6, "isFloor", "(I)Z"⟩
abbrev cX6_isLift : ByteArray := prog_8_method_12_code
def yX6_isLift : MethodName := ⟨RX6, "isLift", "(I)Z"⟩
abbrev cX6_isGuest : ByteArray := prog_8_method_13_code
def yX6_isGuest : MethodName := ⟨RX6, "isGuest", "(I)Z"⟩
abbrev cX6_isRoom : ByteArray := prog_8_method_14_code
def yX6_isRoom : MethodName := ⟨RX6, "isRoom", "(II)Z"⟩
abbrev cX6_digits : ByteArray := prog_8_method_15_code
def yX6_digits : MethodName := ⟨RX6, "digits", "(I)I"⟩
abbrev cX6_power : ByteArray := prog_8_method_16_code
def yX6_power : MethodName := ⟨RX6, "power", "(I)I"⟩
abbrev cX6_addFloor : ByteArray := prog_8_method_17_code
def yX6_addFloor : MethodName := ⟨RX6, "addFloor", "(I)I"⟩
abbrev cX6_setTune : ByteArray := prog_8_method_18_code
def yX6_setTune : MethodName := ⟨RX6, "setTune", "(III)I"⟩
abbrev cX6_addLift : ByteArray := prog_8_method_19_code
def yX6_addLift : MethodName := ⟨RX6, "addLift", "()I"⟩
abbrev cX6_door : ByteArray := prog_8_method_20_code
def yX6_door : MethodName := ⟨RX6, "door", "(II)I"⟩
abbrev cX6_setDoor : ByteArray := prog_8_method_21_code
def yX6_setDoor : MethodName := ⟨RX6, "setDoor", "(III)I"⟩
abbrev cX6_addGuest : ByteArray := prog_8_method_22_code
def yX6_addGuest : MethodName := ⟨RX6, "addGuest", "(II)I"⟩
abbrev cX6_isHome : ByteArray := prog_8_method_23_code
def yX6_isHome : MethodName := ⟨RX6, "isHome", "(I)Z"⟩
abbrev cX6_want : ByteArray := prog_8_method_24_code
def yX6_want : MethodName := ⟨RX6, "want", "(III)Z"⟩
abbrev cX6_latest : ByteArray := prog_8_method_25_code
def yX6_latest : MethodName := ⟨RX6, "latest", "(I)I"⟩
abbrev cX6_begun : ByteArray := prog_8_method_26_code
def yX6_begun : MethodName := ⟨RX6, "begun", "(I)I"⟩
abbrev cX6_floorTold : ByteArray := prog_8_method_27_code
def yX6_floorTold : MethodName := ⟨RX6, "floorTold", "(II)I"⟩
abbrev cX6_floor : ByteArray := prog_8_method_28_code
def yX6_floor : MethodName := ⟨RX6, "floor", "(II)I"⟩
abbrev cX6_placeOf : ByteArray := prog_8_method_29_code
def yX6_placeOf : MethodName := ⟨RX6, "placeOf", "(II)I"⟩
abbrev cX6_place : ByteArray := prog_8_method_30_code
def yX6_place : MethodName := ⟨RX6, "place", "(II)I"⟩
abbrev cX6_liftTold : ByteArray := prog_8_method_31_code
def yX6_liftTold : MethodName := ⟨RX6, "liftTold", "(II)I"⟩
abbrev cX6_lift : ByteArray := prog_8_method_32_code
def yX6_lift : MethodName := ⟨RX6, "lift", "(II)I"⟩
abbrev cX6_guestTold : ByteArray := prog_8_method_33_code
def yX6_guestTold : MethodName := ⟨RX6, "guestTold", "(II)I"⟩
abbrev cX6_guest : ByteArray := prog_8_method_34_code
def yX6_guest : MethodName := ⟨RX6, "guest", "(II)I"⟩
abbrev cX6_counted : ByteArray := prog_8_method_35_code
def yX6_counted : MethodName := ⟨RX6, "counted", "(I)I"⟩
abbrev cX6_count : ByteArray := prog_8_method_36_code
def yX6_count : MethodName := ⟨RX6, "count", "(I)I"⟩
abbrev cX6_goOn : ByteArray := prog_8_method_37_code
def yX6_goOn : MethodName := ⟨RX6, "goOn", "(I)V"⟩
abbrev cX6_act : ByteArray := prog_8_method_38_code
def yX6_act : MethodName := ⟨RX6, "act", "(I)Z"⟩
abbrev cX6_ringOne : ByteArray := prog_8_method_39_code
def yX6_ringOne : MethodName := ⟨RX6, "ringOne", "(I)I"⟩
abbrev cX6_ring : ByteArray := prog_8_method_40_code
def yX6_ring : MethodName := ⟨RX6, "ring", "(I)I"⟩
abbrev cX6_play : ByteArray := prog_8_method_41_code
def yX6_play : MethodName := ⟨RX6, "play", "(I)I"⟩
abbrev cX6_homeBy : ByteArray := prog_8_method_42_code
def yX6_homeBy : MethodName := ⟨RX6, "homeBy", "(II)I"⟩
abbrev cX6_foresee : ByteArray := prog_8_method_43_code
def yX6_foresee : MethodName := ⟨RX6, "foresee", "(II)I"⟩
abbrev cX6_advise : ByteArray := prog_8_method_44_code
def yX6_advise : MethodName := ⟨RX6, "advise", "(II)I"⟩
abbrev cX6_wouldTurn : ByteArray := prog_8_method_45_code
def yX6_wouldTurn : MethodName := ⟨RX6, "wouldTurn", "(I)I"⟩
abbrev cX6_write : ByteArray := prog_8_method_46_code
def yX6_write : MethodName := ⟨RX6, "write", "()I"⟩
abbrev cX6_byteAt : ByteArray := prog_8_method_47_code
def yX6_byteAt : MethodName := ⟨RX6, "byteAt", "(I)I"⟩
abbrev cX6_home : ByteArray := prog_8_method_48_code
def yX6_home : MethodName := ⟨RX6, "home", "()D"⟩
abbrev cX6_digest : ByteArray := prog_8_method_49_code
def yX6_digest : MethodName := ⟨RX6, "digest", "()J"⟩
def RJx145de : String := "java/io/Serializable"
def TJx145de : u_T := fun k => match k with
  | _ => ("", "", "", false)
def tyJx145de : Nat → FieldType := fun k => match k with
  | _ => .int
abbrev wsJx145de0 : List Cond := u_ws RJx145de TJx145de 0
theorem nmJx145de : ∀ a, a < 0 → ∀ b, b < 0 → a ≠ b → (TJx145de a).2.1 ≠ (TJx145de b).2.1 := by decide +kernel
theorem tyJx145de_ok : ∀ k, k < 0 → parseFieldDescriptor (TJx145de k).2.2.1 = some (tyJx145de k) := by decide +kernel
def RJ5 : String := "java/lang/AbstractStringBuilder"
def TJ5 : u_T := fun k => match k with
  | _ => ("", "", "", false)
def tyJ5 : Nat → FieldType := fun k => match k with
  | _ => .int
abbrev wsJ50 : List Cond := u_ws RJ5 TJ5 0
theorem nmJ5 : ∀ a, a < 0 → ∀ b, b < 0 → a ≠ b → (TJ5 a).2.1 ≠ (TJ5 b).2.1 := by decide +kernel
theorem tyJ5_ok : ∀ k, k < 0 → parseFieldDescriptor (TJ5 k).2.2.1 = some (tyJ5 k) := by decide +kernel
abbrev cJ5_init_d00df : ByteArray := prog_10_method_2_code
def yJ5_init_d00df : MethodName := ⟨RJ5, "<init>", "(I)V"⟩
abbrev cJ5_length_8abf5 : ByteArray := prog_10_method_6_code
def yJ5_length_8abf5 : MethodName := ⟨RJ5, "length", "()I"⟩
abbrev cJ5_ensureCapacityInternal_d00df : ByteArray := prog_10_method_9_code
def yJ5_ensureCapacityInternal_d00df : MethodName := ⟨RJ5, "ensureCapacityInternal", "(I)V"⟩
abbrev cJ5_newCapacity_0f7a4 : ByteArray := prog_10_method_10_code
def yJ5_newCapacity_0f7a4 : MethodName := ⟨RJ5, "newCapacity", "(I)I"⟩
abbrev cJ5_inflate_da8c8 : ByteArray := prog_10_method_11_code
def yJ5_inflate_da8c8 : MethodName := ⟨RJ5, "inflate", "()V"⟩
abbrev cJ5_setLength_d00df : ByteArray := prog_10_method_13_code
def yJ5_setLength_d00df : MethodName := ⟨RJ5, "setLength", "(I)V"⟩
abbrev cJ5_charAt_5068e : ByteArray := prog_10_method_14_code
def yJ5_charAt_5068e : MethodName := ⟨RJ5, "charAt", "(I)C"⟩
abbrev cJ5_append_cf1ce : ByteArray := prog_10_method_22_code
def yJ5_append_cf1ce : MethodName := ⟨RJ5, "append", "(Ljava/lang/String;)Ljava/lang/AbstractStringBuilder;"⟩
abbrev cJ5_appendNull_278bc : ByteArray := prog_10_method_26_code
def yJ5_appendNull_278bc : MethodName := ⟨RJ5, "appendNull", "()Ljava/lang/AbstractStringBuilder;"⟩
abbrev cJ5_append_3fe6f : ByteArray := prog_10_method_31_code
def yJ5_append_3fe6f : MethodName := ⟨RJ5, "append", "(C)Ljava/lang/AbstractStringBuilder;"⟩
abbrev cJ5_append_c97b9 : ByteArray := prog_10_method_32_code
def yJ5_append_c97b9 : MethodName := ⟨RJ5, "append", "(I)Ljava/lang/AbstractStringBuilder;"⟩
abbrev cJ5_getValue_6d5f1 : ByteArray := prog_10_method_64_code
def yJ5_getValue_6d5f1 : MethodName := ⟨RJ5, "getValue", "()[B"⟩
abbrev cJ5_isLatin1_aae02 : ByteArray := prog_10_method_68_code
def yJ5_isLatin1_aae02 : MethodName := ⟨RJ5, "isLatin1", "()Z"⟩
abbrev cJ5_inflateIfNeededFor_a7421 : ByteArray := prog_10_method_71_code
def yJ5_inflateIfNeededFor_a7421 : MethodName := ⟨RJ5, "inflateIfNeededFor", "(Ljava/lang/String;)V"⟩
abbrev cJ5_putStringAt_47b60 : ByteArray := prog_10_method_73_code
def yJ5_putStringAt_47b60 : MethodName := ⟨RJ5, "putStringAt", "(ILjava/lang/String;)V"⟩
def RJx2cfe8 : String := "java/lang/Appendable"
def TJx2cfe8 : u_T := fun k => match k with
  | _ => ("", "", "", false)
def tyJx2cfe8 : Nat → FieldType := fun k => match k with
  | _ => .int
abbrev wsJx2cfe80 : List Cond := u_ws RJx2cfe8 TJx2cfe8 0
theorem nmJx2cfe8 : ∀ a, a < 0 → ∀ b, b < 0 → a ≠ b → (TJx2cfe8 a).2.1 ≠ (TJx2cfe8 b).2.1 := by decide +kernel
theorem tyJx2cfe8_ok : ∀ k, k < 0 → parseFieldDescriptor (TJx2cfe8 k).2.2.1 = some (tyJx2cfe8 k) := by decide +kernel
def RJx00060 : String := "java/lang/ArrayIndexOutOfBoundsException"
def TJx00060 : u_T := fun k => match k with
  | 0 => ("java/lang/Throwable", "cause", "Ljava/lang/Throwable;", false)
  | 1 => ("java/lang/Throwable", "stackTrace", "[Ljava/lang/StackTraceElement;", false)
  | 2 => ("java/lang/Throwable", "suppressedExceptions", "Ljava/util/List;", false)
  | 3 => ("java/lang/Throwable", "detailMessage", "Ljava/lang/String;", false)
  | 4 => ("java/lang/Throwable", "backtrace", "Ljava/lang/Object;", false)
  | _ => ("java/lang/Throwable", "depth", "I", false)
def tyJx00060 : Nat → FieldType := fun k => match k with
  | 0 => .object "java/lang/Throwable"
  | 1 => .array (.object "java/lang/StackTraceElement")
  | 2 => .object "java/util/List"
  | 3 => .object "java/lang/String"
  | 4 => .object "java/lang/Object"
  | _ => .int
abbrev wsJx000600 : List Cond := u_ws RJx00060 TJx00060 6
theorem nmJx00060 : ∀ a, a < 6 → ∀ b, b < 6 → a ≠ b → (TJx00060 a).2.1 ≠ (TJx00060 b).2.1 := by decide +kernel
theorem tyJx00060_ok : ∀ k, k < 6 → parseFieldDescriptor (TJx00060 k).2.2.1 = some (tyJx00060 k) := by decide +kernel
abbrev cJx00060_init_d00df : ByteArray := prog_12_method_3_code
def yJx00060_init_d00df : MethodName := ⟨RJx00060, "<init>", "(I)V"⟩
def RJx9f9b0 : String := "java/lang/CharSequence"
def TJx9f9b0 : u_T := fun k => match k with
  | _ => ("", "", "", false)
def tyJx9f9b0 : Nat → FieldType := fun k => match k with
  | _ => .int
abbrev wsJx9f9b00 : List Cond := u_ws RJx9f9b0 TJx9f9b0 0
theorem nmJx9f9b0 : ∀ a, a < 0 → ∀ b, b < 0 → a ≠ b → (TJx9f9b0 a).2.1 ≠ (TJx9f9b0 b).2.1 := by decide +kernel
theorem tyJx9f9b0_ok : ∀ k, k < 0 → parseFieldDescriptor (TJx9f9b0 k).2.2.1 = some (tyJx9f9b0 k) := by decide +kernel
def RJx8e188 : String := "java/lang/Cloneable"
def TJx8e188 : u_T := fun k => match k with
  | _ => ("", "", "", false)
def tyJx8e188 : Nat → FieldType := fun k => match k with
  | _ => .int
abbrev wsJx8e1880 : List Cond := u_ws RJx8e188 TJx8e188 0
theorem nmJx8e188 : ∀ a, a < 0 → ∀ b, b < 0 → a ≠ b → (TJx8e188 a).2.1 ≠ (TJx8e188 b).2.1 := by decide +kernel
theorem tyJx8e188_ok : ∀ k, k < 0 → parseFieldDescriptor (TJx8e188 k).2.2.1 = some (tyJx8e188 k) := by decide +kernel
def RJxb160c : String := "java/lang/Comparable"
def TJxb160c : u_T := fun k => match k with
  | _ => ("", "", "", false)
def tyJxb160c : Nat → FieldType := fun k => match k with
  | _ => .int
abbrev wsJxb160c0 : List Cond := u_ws RJxb160c TJxb160c 0
theorem nmJxb160c : ∀ a, a < 0 → ∀ b, b < 0 → a ≠ b → (TJxb160c a).2.1 ≠ (TJxb160c b).2.1 := by decide +kernel
theorem tyJxb160c_ok : ∀ k, k < 0 → parseFieldDescriptor (TJxb160c k).2.2.1 = some (tyJxb160c k) := by decide +kernel
def RJ6 : String := "java/lang/Integer"
def TJ6 : u_T := fun k => match k with
  | _ => ("", "", "", false)
def tyJ6 : Nat → FieldType := fun k => match k with
  | _ => .int
abbrev wsJ60 : List Cond := u_ws RJ6 TJ6 0
theorem nmJ6 : ∀ a, a < 0 → ∀ b, b < 0 → a ≠ b → (TJ6 a).2.1 ≠ (TJ6 b).2.1 := by decide +kernel
theorem tyJ6_ok : ∀ k, k < 0 → parseFieldDescriptor (TJ6 k).2.2.1 = some (tyJ6 k) := by decide +kernel
abbrev cJ6_getChars_ba4f3 : ByteArray := prog_20_method_12_code
def yJ6_getChars_ba4f3 : MethodName := ⟨RJ6, "getChars", "(II[B)I"⟩
abbrev cJ6_stringSize_0f7a4 : ByteArray := prog_20_method_13_code
def yJ6_stringSize_0f7a4 : MethodName := ⟨RJ6, "stringSize", "(I)I"⟩
def RJxab1ab : String := "java/lang/Iterable"
def TJxab1ab : u_T := fun k => match k with
  | _ => ("", "", "", false)
def tyJxab1ab : Nat → FieldType := fun k => match k with
  | _ => .int
abbrev wsJxab1ab0 : List Cond := u_ws RJxab1ab TJxab1ab 0
theorem nmJxab1ab : ∀ a, a < 0 → ∀ b, b < 0 → a ≠ b → (TJxab1ab a).2.1 ≠ (TJxab1ab b).2.1 := by decide +kernel
theorem tyJxab1ab_ok : ∀ k, k < 0 → parseFieldDescriptor (TJxab1ab k).2.2.1 = some (tyJxab1ab k) := by decide +kernel
def RJ9 : String := "java/lang/Math"
def TJ9 : u_T := fun k => match k with
  | _ => ("", "", "", false)
def tyJ9 : Nat → FieldType := fun k => match k with
  | _ => .int
abbrev wsJ90 : List Cond := u_ws RJ9 TJ9 0
theorem nmJ9 : ∀ a, a < 0 → ∀ b, b < 0 → a ≠ b → (TJ9 a).2.1 ≠ (TJ9 b).2.1 := by decide +kernel
theorem tyJ9_ok : ∀ k, k < 0 → parseFieldDescriptor (TJ9 k).2.2.1 = some (tyJ9 k) := by decide +kernel
abbrev cJ9_max_7cf53 : ByteArray := prog_22_method_65_code
def yJ9_max_7cf53 : MethodName := ⟨RJ9, "max", "(II)I"⟩
abbrev cJ9_min_7cf53 : ByteArray := prog_22_method_69_code
def yJ9_min_7cf53 : MethodName := ⟨RJ9, "min", "(II)I"⟩
def RJxd2413 : String := "java/lang/Number"
def TJxd2413 : u_T := fun k => match k with
  | _ => ("", "", "", false)
def tyJxd2413 : Nat → FieldType := fun k => match k with
  | _ => .int
abbrev wsJxd24130 : List Cond := u_ws RJxd2413 TJxd2413 0
theorem nmJxd2413 : ∀ a, a < 0 → ∀ b, b < 0 → a ≠ b → (TJxd2413 a).2.1 ≠ (TJxd2413 b).2.1 := by decide +kernel
theorem tyJxd2413_ok : ∀ k, k < 0 → parseFieldDescriptor (TJxd2413 k).2.2.1 = some (tyJxd2413 k) := by decide +kernel
def RJ0 : String := "java/lang/String"
def TJ0 : u_T := fun k => match k with
  | 0 => ("java/lang/String", "value", "[B", true)
  | 1 => ("java/lang/String", "coder", "B", true)
  | 2 => ("java/lang/String", "hash", "I", false)
  | _ => ("java/lang/String", "hashIsZero", "Z", false)
def tyJ0 : Nat → FieldType := fun k => match k with
  | 0 => .array .byte
  | 1 => .byte
  | 2 => .int
  | _ => .boolean
abbrev wsJ00 : List Cond := u_ws RJ0 TJ0 4
theorem nmJ0 : ∀ a, a < 4 → ∀ b, b < 4 → a ≠ b → (TJ0 a).2.1 ≠ (TJ0 b).2.1 := by decide +kernel
theorem tyJ0_ok : ∀ k, k < 4 → parseFieldDescriptor (TJ0 k).2.2.1 = some (tyJ0 k) := by decide +kernel
abbrev cJ0_init_81219 : ByteArray := prog_25_method_53_code
def yJ0_init_81219 : MethodName := ⟨RJ0, "<init>", "(Ljava/lang/StringBuilder;)V"⟩
abbrev cJ0_length_8abf5 : ByteArray := prog_25_method_54_code
def yJ0_length_8abf5 : MethodName := ⟨RJ0, "length", "()I"⟩
abbrev cJ0_getBytes_840e7 : ByteArray := prog_25_method_147_code
def yJ0_getBytes_840e7 : MethodName := ⟨RJ0, "getBytes", "([BIB)V"⟩
abbrev cJ0_init_db425 : ByteArray := prog_25_method_150_code
def yJ0_init_db425 : MethodName := ⟨RJ0, "<init>", "(Ljava/lang/AbstractStringBuilder;Ljava/lang/Void;)V"⟩
abbrev cJ0_coder_7d493 : ByteArray := prog_25_method_152_code
def yJ0_coder_7d493 : MethodName := ⟨RJ0, "coder", "()B"⟩
abbrev cJ0_checkIndex_df160 : ByteArray := prog_25_method_155_code
def yJ0_checkIndex_df160 : MethodName := ⟨RJ0, "checkIndex", "(II)V"⟩
abbrev cJ0_checkBoundsOffCount_cabcc : ByteArray := prog_25_method_157_code
def yJ0_checkBoundsOffCount_cabcc : MethodName := ⟨RJ0, "checkBoundsOffCount", "(III)I"⟩
abbrev cJ0_checkBoundsBeginEnd_23922 : ByteArray := prog_25_method_158_code
def yJ0_checkBoundsBeginEnd_23922 : MethodName := ⟨RJ0, "checkBoundsBeginEnd", "(III)V"⟩
def RJ4 : String := "java/lang/StringBuilder"
def TJ4 : u_T := fun k => match k with
  | 0 => ("java/lang/AbstractStringBuilder", "value", "[B", false)
  | 1 => ("java/lang/AbstractStringBuilder", "coder", "B", false)
  | 2 => ("java/lang/AbstractStringBuilder", "maybeLatin1", "Z", false)
  | _ => ("java/lang/AbstractStringBuilder", "count", "I", false)
def tyJ4 : Nat → FieldType := fun k => match k with
  | 0 => .array .byte
  | 1 => .byte
  | 2 => .boolean
  | _ => .int
abbrev wsJ40 : List Cond := u_ws RJ4 TJ4 4
theorem nmJ4 : ∀ a, a < 4 → ∀ b, b < 4 → a ≠ b → (TJ4 a).2.1 ≠ (TJ4 b).2.1 := by decide +kernel
theorem tyJ4_ok : ∀ k, k < 4 → parseFieldDescriptor (TJ4 k).2.2.1 = some (tyJ4 k) := by decide +kernel
abbrev cJ4_init_da8c8 : ByteArray := prog_26_method_1_code
def yJ4_init_da8c8 : MethodName := ⟨RJ4, "<init>", "()V"⟩
abbrev cJ4_append_15ec4 : ByteArray := prog_26_method_7_code
def yJ4_append_15ec4 : MethodName := ⟨RJ4, "append", "(Ljava/lang/String;)Ljava/lang/StringBuilder;"⟩
abbrev cJ4_append_cf468 : ByteArray := prog_26_method_14_code
def yJ4_append_cf468 : MethodName := ⟨RJ4, "append", "(C)Ljava/lang/StringBuilder;"⟩
abbrev cJ4_append_bf812 : ByteArray := prog_26_method_15_code
def yJ4_append_bf812 : MethodName := ⟨RJ4, "append", "(I)Ljava/lang/StringBuilder;"⟩
abbrev cJ4_toString_0e30d : ByteArray := prog_26_method_42_code
def yJ4_toString_0e30d : MethodName := ⟨RJ4, "toString", "()Ljava/lang/String;"⟩
abbrev cJ4_charAt_5068e : ByteArray := prog_26_method_88_code
def yJ4_charAt_5068e : MethodName := ⟨RJ4, "charAt", "(I)C"⟩
abbrev cJ4_setLength_d00df : ByteArray := prog_26_method_89_code
def yJ4_setLength_d00df : MethodName := ⟨RJ4, "setLength", "(I)V"⟩
abbrev cJ4_length_8abf5 : ByteArray := prog_26_method_93_code
def yJ4_length_8abf5 : MethodName := ⟨RJ4, "length", "()I"⟩
def RJx7c733 : String := "java/lang/StringIndexOutOfBoundsException"
def TJx7c733 : u_T := fun k => match k with
  | 0 => ("java/lang/Throwable", "backtrace", "Ljava/lang/Object;", false)
  | 1 => ("java/lang/Throwable", "detailMessage", "Ljava/lang/String;", false)
  | 2 => ("java/lang/Throwable", "cause", "Ljava/lang/Throwable;", false)
  | 3 => ("java/lang/Throwable", "stackTrace", "[Ljava/lang/StackTraceElement;", false)
  | 4 => ("java/lang/Throwable", "depth", "I", false)
  | _ => ("java/lang/Throwable", "suppressedExceptions", "Ljava/util/List;", false)
def tyJx7c733 : Nat → FieldType := fun k => match k with
  | 0 => .object "java/lang/Object"
  | 1 => .object "java/lang/String"
  | 2 => .object "java/lang/Throwable"
  | 3 => .array (.object "java/lang/StackTraceElement")
  | 4 => .int
  | _ => .object "java/util/List"
abbrev wsJx7c7330 : List Cond := u_ws RJx7c733 TJx7c733 6
theorem nmJx7c733 : ∀ a, a < 6 → ∀ b, b < 6 → a ≠ b → (TJx7c733 a).2.1 ≠ (TJx7c733 b).2.1 := by decide +kernel
theorem tyJx7c733_ok : ∀ k, k < 6 → parseFieldDescriptor (TJx7c733 k).2.2.1 = some (tyJx7c733 k) := by decide +kernel
abbrev cJx7c733_init_d00df : ByteArray := prog_27_method_3_code
def yJx7c733_init_d00df : MethodName := ⟨RJx7c733, "<init>", "(I)V"⟩
def RJ1 : String := "java/lang/StringLatin1"
def TJ1 : u_T := fun k => match k with
  | _ => ("", "", "", false)
def tyJ1 : Nat → FieldType := fun k => match k with
  | _ => .int
abbrev wsJ10 : List Cond := u_ws RJ1 TJ1 0
theorem nmJ1 : ∀ a, a < 0 → ∀ b, b < 0 → a ≠ b → (TJ1 a).2.1 ≠ (TJ1 b).2.1 := by decide +kernel
theorem tyJ1_ok : ∀ k, k < 0 → parseFieldDescriptor (TJ1 k).2.2.1 = some (tyJ1 k) := by decide +kernel
abbrev cJ1_canEncode_fc78d : ByteArray := prog_28_method_3_code
def yJ1_canEncode_fc78d : MethodName := ⟨RJ1, "canEncode", "(C)Z"⟩
abbrev cJ1_fillNull_b72d1 : ByteArray := prog_28_method_48_code
def yJ1_fillNull_b72d1 : MethodName := ⟨RJ1, "fillNull", "([BII)V"⟩
abbrev cJ1_inflate_0e8fd : ByteArray := prog_28_method_50_code
def yJ1_inflate_0e8fd : MethodName := ⟨RJ1, "inflate", "([BI[BII)V"⟩
def RJ2 : String := "java/lang/StringUTF16"
def TJ2 : u_T := fun k => match k with
  | _ => ("", "", "", false)
def tyJ2 : Nat → FieldType := fun k => match k with
  | _ => .int
abbrev wsJ20 : List Cond := u_ws RJ2 TJ2 0
theorem nmJ2 : ∀ a, a < 0 → ∀ b, b < 0 → a ≠ b → (TJ2 a).2.1 ≠ (TJ2 b).2.1 := by decide +kernel
theorem tyJ2_ok : ∀ k, k < 0 → parseFieldDescriptor (TJ2 k).2.2.1 = some (tyJ2 k) := by decide +kernel
abbrev cJ2_newBytesFor_77867 : ByteArray := prog_29_method_2_code
def yJ2_newBytesFor_77867 : MethodName := ⟨RJ2, "newBytesFor", "(I)[B"⟩
abbrev cJ2_newBytesLength_0f7a4 : ByteArray := prog_29_method_3_code
def yJ2_newBytesLength_0f7a4 : MethodName := ⟨RJ2, "newBytesLength", "(I)I"⟩
abbrev cJ2_putChar_b72d1 : ByteArray := prog_29_method_4_code
def yJ2_putChar_b72d1 : MethodName := ⟨RJ2, "putChar", "([BII)V"⟩
abbrev cJ2_getChar_3b067 : ByteArray := prog_29_method_5_code
def yJ2_getChar_3b067 : MethodName := ⟨RJ2, "getChar", "([BI)C"⟩
abbrev cJ2_length_9d52b : ByteArray := prog_29_method_6_code
def yJ2_length_9d52b : MethodName := ⟨RJ2, "length", "([B)I"⟩
abbrev cJ2_coderFromArrayLen_85cad : ByteArray := prog_29_method_15_code
def yJ2_coderFromArrayLen_85cad : MethodName := ⟨RJ2, "coderFromArrayLen", "([BI)B"⟩
abbrev cJ2_compress_39247 : ByteArray := prog_29_method_17_code
def yJ2_compress_39247 : MethodName := ⟨RJ2, "compress", "([BII)[B"⟩
abbrev cJ2_compress_5af95 : ByteArray := prog_29_method_22_code
def yJ2_compress_5af95 : MethodName := ⟨RJ2, "compress", "([BI[BII)I"⟩
abbrev cJ2_fillNull_b72d1 : ByteArray := prog_29_method_70_code
def yJ2_fillNull_b72d1 : MethodName := ⟨RJ2, "fillNull", "([BII)V"⟩
abbrev cJ2_putCharSB_b72d1 : ByteArray := prog_29_method_71_code
def yJ2_putCharSB_b72d1 : MethodName := ⟨RJ2, "putCharSB", "([BII)V"⟩
abbrev cJ2_getChars_46870 : ByteArray := prog_29_method_77_code
def yJ2_getChars_46870 : MethodName := ⟨RJ2, "getChars", "(III[B)I"⟩
abbrev cJ2_putCharsAt_cd4e5 : ByteArray := prog_29_method_81_code
def yJ2_putCharsAt_cd4e5 : MethodName := ⟨RJ2, "putCharsAt", "([BICCCC)I"⟩
abbrev cJ2_inflate_0e8fd : ByteArray := prog_29_method_86_code
def yJ2_inflate_0e8fd : MethodName := ⟨RJ2, "inflate", "([BI[BII)V"⟩
abbrev cJ2_getChars_ba4f3 : ByteArray := prog_29_method_89_code
def yJ2_getChars_ba4f3 : MethodName := ⟨RJ2, "getChars", "(II[B)I"⟩
abbrev cJ2_checkIndex_2214a : ByteArray := prog_29_method_91_code
def yJ2_checkIndex_2214a : MethodName := ⟨RJ2, "checkIndex", "(I[B)V"⟩
abbrev cJ2_checkBoundsBeginEnd_d044e : ByteArray := prog_29_method_93_code
def yJ2_checkBoundsBeginEnd_d044e : MethodName := ⟨RJ2, "checkBoundsBeginEnd", "(II[B)V"⟩
abbrev cJ2_checkBoundsOffCount_d044e : ByteArray := prog_29_method_94_code
def yJ2_checkBoundsOffCount_d044e : MethodName := ⟨RJ2, "checkBoundsOffCount", "(II[B)V"⟩
def RJ10 : String := "java/lang/System"
def TJ10 : u_T := fun k => match k with
  | _ => ("", "", "", false)
def tyJ10 : Nat → FieldType := fun k => match k with
  | _ => .int
abbrev wsJ100 : List Cond := u_ws RJ10 TJ10 0
theorem nmJ10 : ∀ a, a < 0 → ∀ b, b < 0 → a ≠ b → (TJ10 a).2.1 ≠ (TJ10 b).2.1 := by decide +kernel
theorem tyJ10_ok : ∀ k, k < 0 → parseFieldDescriptor (TJ10 k).2.2.1 = some (tyJ10 k) := by decide +kernel
def RJxfd54e : String := "java/lang/constant/Constable"
def TJxfd54e : u_T := fun k => match k with
  | _ => ("", "", "", false)
def tyJxfd54e : Nat → FieldType := fun k => match k with
  | _ => .int
abbrev wsJxfd54e0 : List Cond := u_ws RJxfd54e TJxfd54e 0
theorem nmJxfd54e : ∀ a, a < 0 → ∀ b, b < 0 → a ≠ b → (TJxfd54e a).2.1 ≠ (TJxfd54e b).2.1 := by decide +kernel
theorem tyJxfd54e_ok : ∀ k, k < 0 → parseFieldDescriptor (TJxfd54e k).2.2.1 = some (tyJxfd54e k) := by decide +kernel
def RJx3cf43 : String := "java/lang/constant/ConstantDesc"
def TJx3cf43 : u_T := fun k => match k with
  | _ => ("", "", "", false)
def tyJx3cf43 : Nat → FieldType := fun k => match k with
  | _ => .int
abbrev wsJx3cf430 : List Cond := u_ws RJx3cf43 TJx3cf43 0
theorem nmJx3cf43 : ∀ a, a < 0 → ∀ b, b < 0 → a ≠ b → (TJx3cf43 a).2.1 ≠ (TJx3cf43 b).2.1 := by decide +kernel
theorem tyJx3cf43_ok : ∀ k, k < 0 → parseFieldDescriptor (TJx3cf43 k).2.2.1 = some (tyJx3cf43 k) := by decide +kernel
def RJxa1e45 : String := "java/util/AbstractCollection"
def TJxa1e45 : u_T := fun k => match k with
  | _ => ("", "", "", false)
def tyJxa1e45 : Nat → FieldType := fun k => match k with
  | _ => .int
abbrev wsJxa1e450 : List Cond := u_ws RJxa1e45 TJxa1e45 0
theorem nmJxa1e45 : ∀ a, a < 0 → ∀ b, b < 0 → a ≠ b → (TJxa1e45 a).2.1 ≠ (TJxa1e45 b).2.1 := by decide +kernel
theorem tyJxa1e45_ok : ∀ k, k < 0 → parseFieldDescriptor (TJxa1e45 k).2.2.1 = some (tyJxa1e45 k) := by decide +kernel
abbrev cJxa1e45_init_da8c8 : ByteArray := prog_34_method_1_code
def yJxa1e45_init_da8c8 : MethodName := ⟨RJxa1e45, "<init>", "()V"⟩
def RJxc12de : String := "java/util/AbstractList"
def TJxc12de : u_T := fun k => match k with
  | _ => ("", "", "", false)
def tyJxc12de : Nat → FieldType := fun k => match k with
  | _ => .int
abbrev wsJxc12de0 : List Cond := u_ws RJxc12de TJxc12de 0
theorem nmJxc12de : ∀ a, a < 0 → ∀ b, b < 0 → a ≠ b → (TJxc12de a).2.1 ≠ (TJxc12de b).2.1 := by decide +kernel
theorem tyJxc12de_ok : ∀ k, k < 0 → parseFieldDescriptor (TJxc12de k).2.2.1 = some (tyJxc12de k) := by decide +kernel
abbrev cJxc12de_init_da8c8 : ByteArray := prog_35_method_1_code
def yJxc12de_init_da8c8 : MethodName := ⟨RJxc12de, "<init>", "()V"⟩
def RJx4a65c : String := "java/util/ArrayList"
def TJx4a65c : u_T := fun k => match k with
  | 0 => ("java/util/AbstractList", "modCount", "I", false)
  | 1 => ("java/util/ArrayList", "elementData", "[Ljava/lang/Object;", false)
  | _ => ("java/util/ArrayList", "size", "I", false)
def tyJx4a65c : Nat → FieldType := fun k => match k with
  | 0 => .int
  | 1 => .array (.object "java/lang/Object")
  | _ => .int
abbrev wsJx4a65c0 : List Cond := u_ws RJx4a65c TJx4a65c 3
theorem nmJx4a65c : ∀ a, a < 3 → ∀ b, b < 3 → a ≠ b → (TJx4a65c a).2.1 ≠ (TJx4a65c b).2.1 := by decide +kernel
theorem tyJx4a65c_ok : ∀ k, k < 3 → parseFieldDescriptor (TJx4a65c k).2.2.1 = some (tyJx4a65c k) := by decide +kernel
abbrev cJx4a65c_init_da8c8 : ByteArray := prog_36_method_2_code
def yJx4a65c_init_da8c8 : MethodName := ⟨RJx4a65c, "<init>", "()V"⟩
abbrev cJx4a65c_grow_92f84 : ByteArray := prog_36_method_6_code
def yJx4a65c_grow_92f84 : MethodName := ⟨RJx4a65c, "grow", "(I)[Ljava/lang/Object;"⟩
abbrev cJx4a65c_grow_d5877 : ByteArray := prog_36_method_7_code
def yJx4a65c_grow_d5877 : MethodName := ⟨RJx4a65c, "grow", "()[Ljava/lang/Object;"⟩
abbrev cJx4a65c_size_8abf5 : ByteArray := prog_36_method_8_code
def yJx4a65c_size_8abf5 : MethodName := ⟨RJx4a65c, "size", "()I"⟩
abbrev cJx4a65c_elementData_915e3 : ByteArray := prog_36_method_18_code
def yJx4a65c_elementData_915e3 : MethodName := ⟨RJx4a65c, "elementData", "(I)Ljava/lang/Object;"⟩
abbrev cJx4a65c_get_915e3 : ByteArray := prog_36_method_20_code
def yJx4a65c_get_915e3 : MethodName := ⟨RJx4a65c, "get", "(I)Ljava/lang/Object;"⟩
abbrev cJx4a65c_add_72be8 : ByteArray := prog_36_method_24_code
def yJx4a65c_add_72be8 : MethodName := ⟨RJx4a65c, "add", "(Ljava/lang/Object;[Ljava/lang/Object;I)V"⟩
abbrev cJx4a65c_add_9ea2d : ByteArray := prog_36_method_25_code
def yJx4a65c_add_9ea2d : MethodName := ⟨RJx4a65c, "add", "(Ljava/lang/Object;)Z"⟩
def RJ7 : String := "java/util/Arrays"
def TJ7 : u_T := fun k => match k with
  | _ => ("", "", "", false)
def tyJ7 : Nat → FieldType := fun k => match k with
  | _ => .int
abbrev wsJ70 : List Cond := u_ws RJ7 TJ7 0
theorem nmJ7 : ∀ a, a < 0 → ∀ b, b < 0 → a ≠ b → (TJ7 a).2.1 ≠ (TJ7 b).2.1 := by decide +kernel
theorem tyJ7_ok : ∀ k, k < 0 → parseFieldDescriptor (TJ7 k).2.2.1 = some (tyJ7 k) := by decide +kernel
abbrev cJ7_rangeCheck_23922 : ByteArray := prog_37_method_30_code
def yJ7_rangeCheck_23922 : MethodName := ⟨RJ7, "rangeCheck", "(III)V"⟩
abbrev cJ7_fill_eb02e : ByteArray := prog_37_method_110_code
def yJ7_fill_eb02e : MethodName := ⟨RJ7, "fill", "([BIIB)V"⟩
abbrev cJ7_copyOf_1904c : ByteArray := prog_37_method_119_code
def yJ7_copyOf_1904c : MethodName := ⟨RJ7, "copyOf", "([Ljava/lang/Object;I)[Ljava/lang/Object;"⟩
abbrev cJ7_copyOf_6403c : ByteArray := prog_37_method_120_code
def yJ7_copyOf_6403c : MethodName := ⟨RJ7, "copyOf", "([Ljava/lang/Object;ILjava/lang/Class;)[Ljava/lang/Object;"⟩
abbrev cJ7_copyOf_9075b : ByteArray := prog_37_method_121_code
def yJ7_copyOf_9075b : MethodName := ⟨RJ7, "copyOf", "([BI)[B"⟩
abbrev cJ7_checkLength_df160 : ByteArray := prog_37_method_131_code
def yJ7_checkLength_df160 : MethodName := ⟨RJ7, "checkLength", "(II)V"⟩
abbrev cJ7_copyOfRange_39247 : ByteArray := prog_37_method_132_code
def yJ7_copyOfRange_39247 : MethodName := ⟨RJ7, "copyOfRange", "([BII)[B"⟩
abbrev cJ7_copyOfRangeByte_39247 : ByteArray := prog_37_method_133_code
def yJ7_copyOfRangeByte_39247 : MethodName := ⟨RJ7, "copyOfRangeByte", "([BII)[B"⟩
def RJx5ef63 : String := "java/util/Collection"
def TJx5ef63 : u_T := fun k => match k with
  | _ => ("", "", "", false)
def tyJx5ef63 : Nat → FieldType := fun k => match k with
  | _ => .int
abbrev wsJx5ef630 : List Cond := u_ws RJx5ef63 TJx5ef63 0
theorem nmJx5ef63 : ∀ a, a < 0 → ∀ b, b < 0 → a ≠ b → (TJx5ef63 a).2.1 ≠ (TJx5ef63 b).2.1 := by decide +kernel
theorem tyJx5ef63_ok : ∀ k, k < 0 → parseFieldDescriptor (TJx5ef63 k).2.2.1 = some (tyJx5ef63 k) := by decide +kernel
def RJxbd725 : String := "java/util/List"
def TJxbd725 : u_T := fun k => match k with
  | _ => ("", "", "", false)
def tyJxbd725 : Nat → FieldType := fun k => match k with
  | _ => .int
abbrev wsJxbd7250 : List Cond := u_ws RJxbd725 TJxbd725 0
theorem nmJxbd725 : ∀ a, a < 0 → ∀ b, b < 0 → a ≠ b → (TJxbd725 a).2.1 ≠ (TJxbd725 b).2.1 := by decide +kernel
theorem tyJxbd725_ok : ∀ k, k < 0 → parseFieldDescriptor (TJxbd725 k).2.2.1 = some (tyJxbd725 k) := by decide +kernel
def RJ15 : String := "java/util/Objects"
def TJ15 : u_T := fun k => match k with
  | _ => ("", "", "", false)
def tyJ15 : Nat → FieldType := fun k => match k with
  | _ => .int
abbrev wsJ150 : List Cond := u_ws RJ15 TJ15 0
theorem nmJ15 : ∀ a, a < 0 → ∀ b, b < 0 → a ≠ b → (TJ15 a).2.1 ≠ (TJ15 b).2.1 := by decide +kernel
theorem tyJ15_ok : ∀ k, k < 0 → parseFieldDescriptor (TJ15 k).2.2.1 = some (tyJ15 k) := by decide +kernel
abbrev cJ15_checkIndex_7cf53 : ByteArray := prog_40_method_17_code
def yJ15_checkIndex_7cf53 : MethodName := ⟨RJ15, "checkIndex", "(II)I"⟩
def RJxf0a74 : String := "java/util/RandomAccess"
def TJxf0a74 : u_T := fun k => match k with
  | _ => ("", "", "", false)
def tyJxf0a74 : Nat → FieldType := fun k => match k with
  | _ => .int
abbrev wsJxf0a740 : List Cond := u_ws RJxf0a74 TJxf0a74 0
theorem nmJxf0a74 : ∀ a, a < 0 → ∀ b, b < 0 → a ≠ b → (TJxf0a74 a).2.1 ≠ (TJxf0a74 b).2.1 := by decide +kernel
theorem tyJxf0a74_ok : ∀ k, k < 0 → parseFieldDescriptor (TJxf0a74 k).2.2.1 = some (tyJxf0a74 k) := by decide +kernel
def RJxa66e6 : String := "java/util/SequencedCollection"
def TJxa66e6 : u_T := fun k => match k with
  | _ => ("", "", "", false)
def tyJxa66e6 : Nat → FieldType := fun k => match k with
  | _ => .int
abbrev wsJxa66e60 : List Cond := u_ws RJxa66e6 TJxa66e6 0
theorem nmJxa66e6 : ∀ a, a < 0 → ∀ b, b < 0 → a ≠ b → (TJxa66e6 a).2.1 ≠ (TJxa66e6 b).2.1 := by decide +kernel
theorem tyJxa66e6_ok : ∀ k, k < 0 → parseFieldDescriptor (TJxa66e6 k).2.2.1 = some (tyJxa66e6 k) := by decide +kernel
def RJ8 : String := "jdk/internal/util/ArraysSupport"
def TJ8 : u_T := fun k => match k with
  | _ => ("", "", "", false)
def tyJ8 : Nat → FieldType := fun k => match k with
  | _ => .int
abbrev wsJ80 : List Cond := u_ws RJ8 TJ8 0
theorem nmJ8 : ∀ a, a < 0 → ∀ b, b < 0 → a ≠ b → (TJ8 a).2.1 ≠ (TJ8 b).2.1 := by decide +kernel
theorem tyJ8_ok : ∀ k, k < 0 → parseFieldDescriptor (TJ8 k).2.2.1 = some (tyJ8 k) := by decide +kernel
abbrev cJ8_newLength_cabcc : ByteArray := prog_43_method_27_code
def yJ8_newLength_cabcc : MethodName := ⟨RJ8, "newLength", "(III)I"⟩
abbrev cJ8_hugeLength_7cf53 : ByteArray := prog_43_method_28_code
def yJ8_hugeLength_7cf53 : MethodName := ⟨RJ8, "hugeLength", "(II)I"⟩
def RJ3 : String := "jdk/internal/util/Preconditions"
def TJ3 : u_T := fun k => match k with
  | _ => ("", "", "", false)
def tyJ3 : Nat → FieldType := fun k => match k with
  | _ => .int
abbrev wsJ30 : List Cond := u_ws RJ3 TJ3 0
theorem nmJ3 : ∀ a, a < 0 → ∀ b, b < 0 → a ≠ b → (TJ3 a).2.1 ≠ (TJ3 b).2.1 := by decide +kernel
theorem tyJ3_ok : ∀ k, k < 0 → parseFieldDescriptor (TJ3 k).2.2.1 = some (tyJ3 k) := by decide +kernel
abbrev cJ3_checkIndex_8e157 : ByteArray := prog_44_method_11_code
def yJ3_checkIndex_8e157 : MethodName := ⟨RJ3, "checkIndex", "(IILjava/util/function/BiFunction;)I"⟩
abbrev cJ3_checkFromToIndex_8c36e : ByteArray := prog_44_method_12_code
def yJ3_checkFromToIndex_8c36e : MethodName := ⟨RJ3, "checkFromToIndex", "(IIILjava/util/function/BiFunction;)I"⟩
abbrev cJ3_checkFromIndexSize_8c36e : ByteArray := prog_44_method_13_code
def yJ3_checkFromIndexSize_8c36e : MethodName := ⟨RJ3, "checkFromIndexSize", "(IIILjava/util/function/BiFunction;)I"⟩
def RL : String := "HotelOfBellsLaw"
abbrev cL_addFloor : ByteArray := method_3_code
def yL_addFloor : MethodName := ⟨RL, "addFloor", "(LHotelOfBells;I[J)I"⟩
abbrev cL_setTune : ByteArray := method_4_code
def yL_setTune : MethodName := ⟨RL, "setTune", "(LHotelOfBells;III[J)I"⟩
abbrev cL_addLift : ByteArray := method_5_code
def yL_addLift : MethodName := ⟨RL, "addLift", "(LHotelOfBells;[J)I"⟩
abbrev cL_setDoor : ByteArray := method_6_code
def yL_setDoor : MethodName := ⟨RL, "setDoor", "(LHotelOfBells;III[J)I"⟩
abbrev cL_addGuest : ByteArray := method_7_code
def yL_addGuest : MethodName := ⟨RL, "addGuest", "(LHotelOfBells;II[J)I"⟩
abbrev cL_want : ByteArray := method_8_code
def yL_want : MethodName := ⟨RL, "want", "(LHotelOfBells;III[J)I"⟩
abbrev cL_floor : ByteArray := method_9_code
def yL_floor : MethodName := ⟨RL, "floor", "(LHotelOfBells;II[J)I"⟩
abbrev cL_place : ByteArray := method_10_code
def yL_place : MethodName := ⟨RL, "place", "(LHotelOfBells;II[J)I"⟩
abbrev cL_lift : ByteArray := method_11_code
def yL_lift : MethodName := ⟨RL, "lift", "(LHotelOfBells;II[J)I"⟩
abbrev cL_guest : ByteArray := method_12_code
def yL_guest : MethodName := ⟨RL, "guest", "(LHotelOfBells;II[J)I"⟩
abbrev cL_count : ByteArray := method_13_code
def yL_count : MethodName := ⟨RL, "count", "(LHotelOfBells;I[J)I"⟩
abbrev cL_ring : ByteArray := method_14_code
def yL_ring : MethodName := ⟨RL, "ring", "(LHotelOfBells;I[J)I"⟩
abbrev cL_play : ByteArray := method_15_code
def yL_play : MethodName := ⟨RL, "play", "(LHotelOfBells;I[J)I"⟩
abbrev cL_foresee : ByteArray := method_16_code
def yL_foresee : MethodName := ⟨RL, "foresee", "(LHotelOfBells;II[J)I"⟩
abbrev cL_advise : ByteArray := method_17_code
def yL_advise : MethodName := ⟨RL, "advise", "(LHotelOfBells;II[J)I"⟩
abbrev cL_wouldTurn : ByteArray := method_18_code
def yL_wouldTurn : MethodName := ⟨RL, "wouldTurn", "(LHotelOfBells;I[J)I"⟩
abbrev cL_byteAt : ByteArray := method_19_code
def yL_byteAt : MethodName := ⟨RL, "byteAt", "(LHotelOfBells;I[J)I"⟩
abbrev cL_law : ByteArray := code
def yL_law : MethodName := ⟨RL, "law", "([I)Z"⟩
abbrev vwCl : List vw_C := [(RJ0, TJ0, 4), (RJ4, TJ4, 4), (RJx00060, TJx00060, 6), (RJx7c733, TJx7c733, 6), (RJx4a65c, TJx4a65c, 3), (RX0, TX0, 3), (RX1, TX1, 4), (RX2, TX2, 6), (RX3, TX3, 4), (RX4, TX4, 1), (RX5, TX5, 9), (RX6, TX6, 6)]
