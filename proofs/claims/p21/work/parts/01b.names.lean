/-! ===== BEGIN printed: names, fields, word lists, decode rows ===== -/
def RX0 : String := "HammerEggs$Juggler"
def TX0 : u_T := fun k => match k with
  | 0 => ("HammerEggs$Juggler", "pattern", "LHammerEggs$Pattern;", true)
  | 1 => ("HammerEggs$Juggler", "hands", "[I", true)
  | 2 => ("HammerEggs$Juggler", "skill", "I", false)
  | 3 => ("HammerEggs$Juggler", "bruises", "I", false)
  | _ => ("HammerEggs$Juggler", "caught", "I", false)
def tyX0 : Nat → FieldType := fun k => match k with
  | 0 => .object "HammerEggs$Pattern"
  | 1 => .array .int
  | 2 => .int
  | 3 => .int
  | _ => .int
abbrev wsX00 : List Cond := u_ws RX0 TX0 5
theorem nmX0 : ∀ a, a < 5 → ∀ b, b < 5 → a ≠ b → (TX0 a).2.1 ≠ (TX0 b).2.1 := by decide +kernel
theorem tyX0_ok : ∀ k, k < 5 → parseFieldDescriptor (TX0 k).2.2.1 = some (tyX0 k) := by decide +kernel
abbrev cX0_init : ByteArray := prog_2_method_1_code
def yX0_init : MethodName := ⟨RX0, "<init>", "()V"⟩
abbrev cX0_copyFrom : ByteArray := prog_2_method_2_code
def yX0_copyFrom : MethodName := ⟨RX0, "copyFrom", "(LHammerEggs$Juggler;)V"⟩
abbrev cX0_canCatch : ByteArray := prog_2_method_3_code
def yX0_canCatch : MethodName := ⟨RX0, "canCatch", "(II)Z"⟩
abbrev cX0_miss : ByteArray := prog_2_method_4_code
def yX0_miss : MethodName := ⟨RX0, "miss", "(LHammerEggs$Thing;)V"⟩
abbrev cX0_thingsHeld : ByteArray := prog_2_method_5_code
def yX0_thingsHeld : MethodName := ⟨RX0, "thingsHeld", "()I"⟩
def RX1 : String := "HammerEggs$Pattern"
def TX1 : u_T := fun k => match k with
  | 0 => ("HammerEggs$Pattern", "heights", "[I", true)
  | 1 => ("HammerEggs$Pattern", "receivers", "[I", true)
  | _ => ("HammerEggs$Pattern", "length", "I", false)
def tyX1 : Nat → FieldType := fun k => match k with
  | 0 => .array .int
  | 1 => .array .int
  | _ => .int
abbrev wsX10 : List Cond := u_ws RX1 TX1 3
theorem nmX1 : ∀ a, a < 3 → ∀ b, b < 3 → a ≠ b → (TX1 a).2.1 ≠ (TX1 b).2.1 := by decide +kernel
theorem tyX1_ok : ∀ k, k < 3 → parseFieldDescriptor (TX1 k).2.2.1 = some (tyX1 k) := by decide +kernel
abbrev cX1_init : ByteArray := prog_3_method_1_code
def yX1_init : MethodName := ⟨RX1, "<init>", "()V"⟩
abbrev cX1_write : ByteArray := prog_3_method_2_code
def yX1_write : MethodName := ⟨RX1, "write", "(III)V"⟩
abbrev cX1_copyFrom : ByteArray := prog_3_method_3_code
def yX1_copyFrom : MethodName := ⟨RX1, "copyFrom", "(LHammerEggs$Pattern;)V"⟩
abbrev cX1_placeIn : ByteArray := prog_3_method_4_code
def yX1_placeIn : MethodName := ⟨RX1, "placeIn", "(I)I"⟩
abbrev cX1_addTo : ByteArray := prog_3_method_9_code
def yX1_addTo : MethodName := ⟨RX1, "addTo", "(J)J"⟩
def RX2 : String := "HammerEggs$Ring"
def TX2 : u_T := fun k => match k with
  | 0 => ("HammerEggs$Ring", "jugglers", "[LHammerEggs$Juggler;", true)
  | 1 => ("HammerEggs$Ring", "things", "[LHammerEggs$Thing;", true)
  | 2 => ("HammerEggs$Ring", "jugglerCount", "I", false)
  | 3 => ("HammerEggs$Ring", "thingCount", "I", false)
  | _ => ("HammerEggs$Ring", "beat", "I", false)
def tyX2 : Nat → FieldType := fun k => match k with
  | 0 => .array (.object "HammerEggs$Juggler")
  | 1 => .array (.object "HammerEggs$Thing")
  | 2 => .int
  | 3 => .int
  | _ => .int
abbrev wsX20 : List Cond := u_ws RX2 TX2 5
theorem nmX2 : ∀ a, a < 5 → ∀ b, b < 5 → a ≠ b → (TX2 a).2.1 ≠ (TX2 b).2.1 := by decide +kernel
theorem tyX2_ok : ∀ k, k < 5 → parseFieldDescriptor (TX2 k).2.2.1 = some (tyX2 k) := by decide +kernel
abbrev cX2_init : ByteArray := prog_4_method_1_code
def yX2_init : MethodName := ⟨RX2, "<init>", "()V"⟩
abbrev cX2_copyFrom : ByteArray := prog_4_method_2_code
def yX2_copyFrom : MethodName := ⟨RX2, "copyFrom", "(LHammerEggs$Ring;)V"⟩
abbrev cX2_hasJuggler : ByteArray := prog_4_method_3_code
def yX2_hasJuggler : MethodName := ⟨RX2, "hasJuggler", "(I)Z"⟩
abbrev cX2_hasThing : ByteArray := prog_4_method_4_code
def yX2_hasThing : MethodName := ⟨RX2, "hasThing", "(I)Z"⟩
abbrev cX2_addJuggler : ByteArray := prog_4_method_5_code
def yX2_addJuggler : MethodName := ⟨RX2, "addJuggler", "(I)I"⟩
abbrev cX2_addThing : ByteArray := prog_4_method_6_code
def yX2_addThing : MethodName := ⟨RX2, "addThing", "(I)I"⟩
abbrev cX2_putIntoHand : ByteArray := prog_4_method_7_code
def yX2_putIntoHand : MethodName := ⟨RX2, "putIntoHand", "(III)V"⟩
abbrev cX2_play : ByteArray := prog_4_method_8_code
def yX2_play : MethodName := ⟨RX2, "play", "(I)I"⟩
abbrev cX2_playBeat : ByteArray := prog_4_method_9_code
def yX2_playBeat : MethodName := ⟨RX2, "playBeat", "()I"⟩
abbrev cX2_comeDown : ByteArray := prog_4_method_10_code
def yX2_comeDown : MethodName := ⟨RX2, "comeDown", "(I)I"⟩
abbrev cX2_throwFrom : ByteArray := prog_4_method_11_code
def yX2_throwFrom : MethodName := ⟨RX2, "throwFrom", "(LHammerEggs$Juggler;I)V"⟩
abbrev cX2_thingsIn : ByteArray := prog_4_method_12_code
def yX2_thingsIn : MethodName := ⟨RX2, "thingsIn", "(I)I"⟩
abbrev cX2_thingsFlyingTo : ByteArray := prog_4_method_13_code
def yX2_thingsFlyingTo : MethodName := ⟨RX2, "thingsFlyingTo", "(I)I"⟩
abbrev cX2_allThrown : ByteArray := prog_4_method_14_code
def yX2_allThrown : MethodName := ⟨RX2, "allThrown", "()I"⟩
abbrev cX2_allFell : ByteArray := prog_4_method_15_code
def yX2_allFell : MethodName := ⟨RX2, "allFell", "()I"⟩
abbrev cX2_allBruises : ByteArray := prog_4_method_16_code
def yX2_allBruises : MethodName := ⟨RX2, "allBruises", "()I"⟩
abbrev cX2_tellThing : ByteArray := prog_4_method_17_code
def yX2_tellThing : MethodName := ⟨RX2, "tellThing", "(II)I"⟩
abbrev cX2_tellJuggler : ByteArray := prog_4_method_18_code
def yX2_tellJuggler : MethodName := ⟨RX2, "tellJuggler", "(II)I"⟩
abbrev cX2_tellCount : ByteArray := prog_4_method_19_code
def yX2_tellCount : MethodName := ⟨RX2, "tellCount", "(I)I"⟩
def RX3 : String := "HammerEggs$Thing"
def TX3 : u_T := fun k => match k with
  | 0 => ("HammerEggs$Thing", "kind", "I", false)
  | 1 => ("HammerEggs$Thing", "state", "I", false)
  | 2 => ("HammerEggs$Thing", "juggler", "I", false)
  | 3 => ("HammerEggs$Thing", "hand", "I", false)
  | 4 => ("HammerEggs$Thing", "due", "I", false)
  | 5 => ("HammerEggs$Thing", "height", "I", false)
  | 6 => ("HammerEggs$Thing", "thrown", "I", false)
  | _ => ("HammerEggs$Thing", "fell", "I", false)
def tyX3 : Nat → FieldType := fun k => match k with
  | 0 => .int
  | 1 => .int
  | 2 => .int
  | 3 => .int
  | 4 => .int
  | 5 => .int
  | 6 => .int
  | _ => .int
abbrev wsX30 : List Cond := u_ws RX3 TX3 8
theorem nmX3 : ∀ a, a < 8 → ∀ b, b < 8 → a ≠ b → (TX3 a).2.1 ≠ (TX3 b).2.1 := by decide +kernel
theorem tyX3_ok : ∀ k, k < 8 → parseFieldDescriptor (TX3 k).2.2.1 = some (tyX3 k) := by decide +kernel
abbrev cX3_init : ByteArray := prog_5_method_1_code
def yX3_init : MethodName := ⟨RX3, "<init>", "()V"⟩
abbrev cX3_copyFrom : ByteArray := prog_5_method_2_code
def yX3_copyFrom : MethodName := ⟨RX3, "copyFrom", "(LHammerEggs$Thing;)V"⟩
abbrev cX3_comesDownIn : ByteArray := prog_5_method_3_code
def yX3_comesDownIn : MethodName := ⟨RX3, "comesDownIn", "(I)Z"⟩
abbrev cX3_beatsInAir : ByteArray := prog_5_method_4_code
def yX3_beatsInAir : MethodName := ⟨RX3, "beatsInAir", "(I)I"⟩
abbrev cX3_fly : ByteArray := prog_5_method_5_code
def yX3_fly : MethodName := ⟨RX3, "fly", "(III)V"⟩
abbrev cX3_fall : ByteArray := prog_5_method_6_code
def yX3_fall : MethodName := ⟨RX3, "fall", "()V"⟩
def RX4 : String := "HammerEggs"
def TX4 : u_T := fun k => match k with
  | 0 => ("HammerEggs", "now", "LHammerEggs$Ring;", true)
  | _ => ("HammerEggs", "trial", "LHammerEggs$Ring;", true)
def tyX4 : Nat → FieldType := fun k => match k with
  | 0 => .object "HammerEggs$Ring"
  | _ => .object "HammerEggs$Ring"
abbrev wsX40 : List Cond := u_ws RX4 TX4 2
theorem nmX4 : ∀ a, a < 2 → ∀ b, b < 2 → a ≠ b → (TX4 a).2.1 ≠ (TX4 b).2.1 := by decide +kernel
theorem tyX4_ok : ∀ k, k < 2 → parseFieldDescriptor (TX4 k).2.2.1 = some (tyX4 k) := by decide +kernel
abbrev cX4_init : ByteArray := prog_1_method_1_code
def yX4_init : MethodName := ⟨RX4, "<init>", "()V"⟩
abbrev cX4_come : ByteArray := prog_1_method_2_code
def yX4_come : MethodName := ⟨RX4, "come", "(I)I"⟩
abbrev cX4_setPattern : ByteArray := prog_1_method_3_code
def yX4_setPattern : MethodName := ⟨RX4, "setPattern", "(III)I"⟩
abbrev cX4_pass : ByteArray := prog_1_method_4_code
def yX4_pass : MethodName := ⟨RX4, "pass", "(III)I"⟩
abbrev cX4_written : ByteArray := prog_1_method_5_code
def yX4_written : MethodName := ⟨RX4, "written", "(III)I"⟩
abbrev cX4_make : ByteArray := prog_1_method_6_code
def yX4_make : MethodName := ⟨RX4, "make", "(I)I"⟩
abbrev cX4_give : ByteArray := prog_1_method_7_code
def yX4_give : MethodName := ⟨RX4, "give", "(III)I"⟩
abbrev cX4_thing : ByteArray := prog_1_method_8_code
def yX4_thing : MethodName := ⟨RX4, "thing", "(II)I"⟩
abbrev cX4_juggler : ByteArray := prog_1_method_9_code
def yX4_juggler : MethodName := ⟨RX4, "juggler", "(II)I"⟩
abbrev cX4_go : ByteArray := prog_1_method_13_code
def yX4_go : MethodName := ⟨RX4, "go", "(I)I"⟩
abbrev cX4_count : ByteArray := prog_1_method_14_code
def yX4_count : MethodName := ⟨RX4, "count", "(I)I"⟩
abbrev cX4_falls : ByteArray := prog_1_method_15_code
def yX4_falls : MethodName := ⟨RX4, "falls", "()I"⟩
abbrev cX4_foresee : ByteArray := prog_1_method_16_code
def yX4_foresee : MethodName := ⟨RX4, "foresee", "(II)I"⟩
abbrev cX4_advise : ByteArray := prog_1_method_17_code
def yX4_advise : MethodName := ⟨RX4, "advise", "(II)I"⟩
abbrev cX4_mean : ByteArray := prog_1_method_18_code
def yX4_mean : MethodName := ⟨RX4, "mean", "()D"⟩
abbrev cX4_digest : ByteArray := prog_1_method_19_code
def yX4_digest : MethodName := ⟨RX4, "digest", "()J"⟩
abbrev cX4_fallenWith : ByteArray := prog_1_method_20_code
def yX4_fallenWith : MethodName := ⟨RX4, "fallenWith", "(IIII)I"⟩
abbrev cX4_testJuggler : ByteArray := prog_1_method_21_code
def yX4_testJuggler : MethodName := ⟨RX4, "testJuggler", "(I)V"⟩
abbrev cX4_testPlace : ByteArray := prog_1_method_22_code
def yX4_testPlace : MethodName := ⟨RX4, "testPlace", "(II)V"⟩
abbrev cX4_testThing : ByteArray := prog_1_method_23_code
def yX4_testThing : MethodName := ⟨RX4, "testThing", "(I)V"⟩
abbrev cX4_testWhat : ByteArray := prog_1_method_24_code
def yX4_testWhat : MethodName := ⟨RX4, "testWhat", "(II)V"⟩
abbrev cX4_testBeats : ByteArray := prog_1_method_25_code
def yX4_testBeats : MethodName := ⟨RX4, "testBeats", "(II)V"⟩
abbrev cX4_powerOfTen : ByteArray := prog_1_method_26_code
def yX4_powerOfTen : MethodName := ⟨RX4, "powerOfTen", "(I)I"⟩
def RX5 : String := "HammerEggsModel$State"
def TX5 : u_T := fun k => match k with
  | _ => ("", "", "", false)
def tyX5 : Nat → FieldType := fun k => match k with
  | _ => .int
abbrev wsX50 : List Cond := u_ws RX5 TX5 0
theorem nmX5 : ∀ a, a < 0 → ∀ b, b < 0 → a ≠ b → (TX5 a).2.1 ≠ (TX5 b).2.1 := by decide +kernel
theorem tyX5_ok : ∀ k, k < 0 → parseFieldDescriptor (TX5 k).2.2.1 = some (tyX5 k) := by decide +kernel
def RX6 : String := "HammerEggsModel"
def TX6 : u_T := fun k => match k with
  | _ => ("", "", "", false)
def tyX6 : Nat → FieldType := fun k => match k with
  | _ => .int
abbrev wsX60 : List Cond := u_ws RX6 TX6 0
theorem nmX6 : ∀ a, a < 0 → ∀ b, b < 0 → a ≠ b → (TX6 a).2.1 ≠ (TX6 b).2.1 := by decide +kernel
theorem tyX6_ok : ∀ k, k < 0 → parseFieldDescriptor (TX6 k).2.2.1 = some (tyX6 k) := by decide +kernel
def RJ9 : String := "java/lang/Math"
def TJ9 : u_T := fun k => match k with
  | _ => ("", "", "", false)
def tyJ9 : Nat → FieldType := fun k => match k with
  | _ => .int
abbrev wsJ90 : List Cond := u_ws RJ9 TJ9 0
theorem nmJ9 : ∀ a, a < 0 → ∀ b, b < 0 → a ≠ b → (TJ9 a).2.1 ≠ (TJ9 b).2.1 := by decide +kernel
theorem tyJ9_ok : ∀ k, k < 0 → parseFieldDescriptor (TJ9 k).2.2.1 = some (tyJ9 k) := by decide +kernel
abbrev cJ9_floorMod_7cf53 : ByteArray := prog_13_method_50_code
def yJ9_floorMod_7cf53 : MethodName := ⟨RJ9, "floorMod", "(II)I"⟩
def RJ0 : String := "java/lang/String"
def TJ0 : u_T := fun k => match k with
  | _ => ("", "", "", false)
def tyJ0 : Nat → FieldType := fun k => match k with
  | _ => .int
abbrev wsJ00 : List Cond := u_ws RJ0 TJ0 0
theorem nmJ0 : ∀ a, a < 0 → ∀ b, b < 0 → a ≠ b → (TJ0 a).2.1 ≠ (TJ0 b).2.1 := by decide +kernel
theorem tyJ0_ok : ∀ k, k < 0 → parseFieldDescriptor (TJ0 k).2.2.1 = some (tyJ0 k) := by decide +kernel
def RL : String := "HammerEggsLaw"
abbrev cL_below : ByteArray := method_2_code
def yL_below : MethodName := ⟨RL, "below", "(II)I"⟩
abbrev cL_cell : ByteArray := method_3_code
def yL_cell : MethodName := ⟨RL, "cell", "([II)I"⟩
abbrev cL_heights : ByteArray := method_4_code
def yL_heights : MethodName := ⟨RL, "heights", "(II)I"⟩
abbrev cL_ring : ByteArray := method_5_code
def yL_ring : MethodName := ⟨RL, "ring", "([I)LHammerEggs;"⟩
abbrev cL_give : ByteArray := method_6_code
def yL_give : MethodName := ⟨RL, "give", "(LHammerEggs;III)I"⟩
abbrev cL_law : ByteArray := code
def yL_law : MethodName := ⟨RL, "law", "([I)Z"⟩
abbrev vwCl : List vw_C := [(RX0, TX0, 5), (RX1, TX1, 3), (RX2, TX2, 5), (RX3, TX3, 8), (RX4, TX4, 2)]
