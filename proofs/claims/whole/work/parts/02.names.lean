def RX0 : String := "ComesBack$Flight"
def RX1 : String := "ComesBack$Law"
def RX2 : String := "ComesBack$Park"
def RX3 : String := "ComesBack$Reader"
def RX4 : String := "ComesBack$Sheet"
def RX5 : String := "ComesBack$Stick"
def RX6 : String := "ComesBack$Toss"
def RX7 : String := "ComesBack"
def RX8 : String := "ComesBackModel"
def RJ6 : String := "java/lang/Integer"
def RJ9 : String := "java/lang/Math"
def RJ0 : String := "java/lang/String"
def RJ1 : String := "java/lang/StringLatin1"
def RJ2 : String := "java/lang/StringUTF16"
def RJ3 : String := "jdk/internal/util/Preconditions"
def RJ10 : String := "java/lang/System"
def RL : String := "ComesBackLaw"
def TX0 : u_T := fun k => match k with
  | 0 => ("ComesBack$Flight", "rows", "[[I", true)
  | 1 => ("ComesBack$Flight", "last", "I", false)
  | 2 => ("ComesBack$Flight", "toss", "LComesBack$Toss;", false)
  | 3 => ("ComesBack$Flight", "stick", "LComesBack$Stick;", false)
  | 4 => ("ComesBack$Flight", "law", "LComesBack$Law;", false)
  | 5 => ("ComesBack$Flight", "startWay", "I", false)
  | 6 => ("ComesBack$Flight", "startPace", "I", false)
  | 7 => ("ComesBack$Flight", "ground", "I", false)
  | 8 => ("ComesBack$Flight", "more", "I", false)
  | 9 => ("ComesBack$Flight", "mirrored", "Z", false)
  | 10 => ("ComesBack$Flight", "names", "[I", true)
  | 11 => ("ComesBack$Flight", "stack", "[I", true)
  | _ => ("ComesBack$Flight", "shares", "[I", true)
def tyX0 : Nat → FieldType := fun k => match k with
  | 0 => .array (.array .int)
  | 1 => .int
  | 2 => .object "ComesBack$Toss"
  | 3 => .object "ComesBack$Stick"
  | 4 => .object "ComesBack$Law"
  | 5 => .int
  | 6 => .int
  | 7 => .int
  | 8 => .int
  | 9 => .boolean
  | 10 => .array .int
  | 11 => .array .int
  | _ => .array .int
theorem nmX0 : ∀ a, a < 13 → ∀ b, b < 13 → a ≠ b → (TX0 a).2.1 ≠ (TX0 b).2.1 := by decide +kernel
theorem tyX0_ok : ∀ k, k < 13 → parseFieldDescriptor (TX0 k).2.2.1 = some (tyX0 k) := by decide +kernel
def TX1 : u_T := fun k => match k with
  | 0 => ("ComesBack$Law", "steps", "[I", true)
  | _ => ("ComesBack$Law", "starts", "[I", true)
def tyX1 : Nat → FieldType := fun k => match k with
  | 0 => .array .int
  | _ => .array .int
theorem nmX1 : ∀ a, a < 2 → ∀ b, b < 2 → a ≠ b → (TX1 a).2.1 ≠ (TX1 b).2.1 := by decide +kernel
theorem tyX1_ok : ∀ k, k < 2 → parseFieldDescriptor (TX1 k).2.2.1 = some (tyX1 k) := by decide +kernel
def TX2 : u_T := fun k => match k with
  | 0 => ("ComesBack$Park", "xs", "[I", true)
  | 1 => ("ComesBack$Park", "ys", "[I", true)
  | 2 => ("ComesBack$Park", "size", "I", false)
  | 3 => ("ComesBack$Park", "keptXs", "[I", true)
  | 4 => ("ComesBack$Park", "keptYs", "[I", true)
  | _ => ("ComesBack$Park", "keptSize", "I", false)
def tyX2 : Nat → FieldType := fun k => match k with
  | 0 => .array .int
  | 1 => .array .int
  | 2 => .int
  | 3 => .array .int
  | 4 => .array .int
  | _ => .int
theorem nmX2 : ∀ a, a < 6 → ∀ b, b < 6 → a ≠ b → (TX2 a).2.1 ≠ (TX2 b).2.1 := by decide +kernel
theorem tyX2_ok : ∀ k, k < 6 → parseFieldDescriptor (TX2 k).2.2.1 = some (tyX2 k) := by decide +kernel
def TX3 : u_T := fun k => match k with
  | 0 => ("ComesBack$Reader", "tape", "[B", true)
  | 1 => ("ComesBack$Reader", "size", "I", false)
  | 2 => ("ComesBack$Reader", "fault", "I", false)
  | 3 => ("ComesBack$Reader", "steps", "[I", true)
  | 4 => ("ComesBack$Reader", "stepCount", "I", false)
  | 5 => ("ComesBack$Reader", "at", "I", false)
  | 6 => ("ComesBack$Reader", "token", "I", false)
  | 7 => ("ComesBack$Reader", "place", "I", false)
  | _ => ("ComesBack$Reader", "number", "I", false)
def tyX3 : Nat → FieldType := fun k => match k with
  | 0 => .array .byte
  | 1 => .int
  | 2 => .int
  | 3 => .array .int
  | 4 => .int
  | 5 => .int
  | 6 => .int
  | 7 => .int
  | _ => .int
theorem nmX3 : ∀ a, a < 9 → ∀ b, b < 9 → a ≠ b → (TX3 a).2.1 ≠ (TX3 b).2.1 := by decide +kernel
theorem tyX3_ok : ∀ k, k < 9 → parseFieldDescriptor (TX3 k).2.2.1 = some (tyX3 k) := by decide +kernel
def TX4 : u_T := fun k => match k with
  | 0 => ("ComesBack$Sheet", "cells", "[I", true)
  | 1 => ("ComesBack$Sheet", "sort", "I", false)
  | _ => ("ComesBack$Sheet", "size", "I", false)
def tyX4 : Nat → FieldType := fun k => match k with
  | 0 => .array .int
  | 1 => .int
  | _ => .int
theorem nmX4 : ∀ a, a < 3 → ∀ b, b < 3 → a ≠ b → (TX4 a).2.1 ≠ (TX4 b).2.1 := by decide +kernel
theorem tyX4_ok : ∀ k, k < 3 → parseFieldDescriptor (TX4 k).2.2.1 = some (tyX4 k) := by decide +kernel
def TX5 : u_T := fun k => match k with
  | 0 => ("ComesBack$Stick", "number", "I", true)
  | 1 => ("ComesBack$Stick", "parts", "[[I", true)
  | 2 => ("ComesBack$Stick", "kept", "[[I", true)
  | 3 => ("ComesBack$Stick", "size", "I", false)
  | _ => ("ComesBack$Stick", "keptSize", "I", false)
def tyX5 : Nat → FieldType := fun k => match k with
  | 0 => .int
  | 1 => .array (.array .int)
  | 2 => .array (.array .int)
  | 3 => .int
  | _ => .int
theorem nmX5 : ∀ a, a < 5 → ∀ b, b < 5 → a ≠ b → (TX5 a).2.1 ≠ (TX5 b).2.1 := by decide +kernel
theorem tyX5_ok : ∀ k, k < 5 → parseFieldDescriptor (TX5 k).2.2.1 = some (tyX5 k) := by decide +kernel
def TX6 : u_T := fun k => match k with
  | 0 => ("ComesBack$Toss", "kind", "I", true)
  | 1 => ("ComesBack$Toss", "stick", "LComesBack$Stick;", true)
  | 2 => ("ComesBack$Toss", "way", "I", true)
  | 3 => ("ComesBack$Toss", "pace", "I", true)
  | 4 => ("ComesBack$Toss", "slant", "I", true)
  | 5 => ("ComesBack$Toss", "snap", "I", true)
  | 6 => ("ComesBack$Toss", "more", "I", true)
  | _ => ("ComesBack$Toss", "round", "Z", true)
def tyX6 : Nat → FieldType := fun k => match k with
  | 0 => .int
  | 1 => .object "ComesBack$Stick"
  | 2 => .int
  | 3 => .int
  | 4 => .int
  | 5 => .int
  | 6 => .int
  | _ => .boolean
theorem nmX6 : ∀ a, a < 8 → ∀ b, b < 8 → a ≠ b → (TX6 a).2.1 ≠ (TX6 b).2.1 := by decide +kernel
theorem tyX6_ok : ∀ k, k < 8 → parseFieldDescriptor (TX6 k).2.2.1 = some (tyX6 k) := by decide +kernel
def TX7 : u_T := fun k => match k with
  | 0 => ("ComesBack", "sticks", "[LComesBack$Stick;", true)
  | 1 => ("ComesBack", "tosses", "[LComesBack$Toss;", true)
  | 2 => ("ComesBack", "texts", "[LComesBack$Law;", true)
  | 3 => ("ComesBack", "sheets", "[LComesBack$Sheet;", true)
  | 4 => ("ComesBack", "park", "LComesBack$Park;", true)
  | 5 => ("ComesBack", "reader", "LComesBack$Reader;", true)
  | 6 => ("ComesBack", "flight", "LComesBack$Flight;", true)
  | 7 => ("ComesBack", "secondFlight", "LComesBack$Flight;", true)
  | 8 => ("ComesBack", "trial", "LComesBack$Stick;", true)
  | 9 => ("ComesBack", "stickCount", "I", false)
  | 10 => ("ComesBack", "tossCount", "I", false)
  | 11 => ("ComesBack", "textCount", "I", false)
  | 12 => ("ComesBack", "law", "I", false)
  | 13 => ("ComesBack", "ground", "I", false)
  | 14 => ("ComesBack", "more", "I", false)
  | 15 => ("ComesBack", "imageKept", "Z", false)
  | 16 => ("ComesBack", "keptGround", "I", false)
  | 17 => ("ComesBack", "keptMore", "I", false)
  | _ => ("ComesBack", "keptLaw", "I", false)
def tyX7 : Nat → FieldType := fun k => match k with
  | 0 => .array (.object "ComesBack$Stick")
  | 1 => .array (.object "ComesBack$Toss")
  | 2 => .array (.object "ComesBack$Law")
  | 3 => .array (.object "ComesBack$Sheet")
  | 4 => .object "ComesBack$Park"
  | 5 => .object "ComesBack$Reader"
  | 6 => .object "ComesBack$Flight"
  | 7 => .object "ComesBack$Flight"
  | 8 => .object "ComesBack$Stick"
  | 9 => .int
  | 10 => .int
  | 11 => .int
  | 12 => .int
  | 13 => .int
  | 14 => .int
  | 15 => .boolean
  | 16 => .int
  | 17 => .int
  | _ => .int
theorem nmX7 : ∀ a, a < 19 → ∀ b, b < 19 → a ≠ b → (TX7 a).2.1 ≠ (TX7 b).2.1 := by decide +kernel
theorem tyX7_ok : ∀ k, k < 19 → parseFieldDescriptor (TX7 k).2.2.1 = some (tyX7 k) := by decide +kernel
def TX8 : u_T := fun k => match k with
  | 0 => ("ComesBackModel", "east", "[I", true)
  | 1 => ("ComesBackModel", "sticks", "I", false)
  | 2 => ("ComesBackModel", "pieces", "[I", true)
  | 3 => ("ComesBackModel", "arm", "[I", true)
  | 4 => ("ComesBackModel", "far", "[I", true)
  | 5 => ("ComesBackModel", "lift", "[I", true)
  | 6 => ("ComesBackModel", "drag", "[I", true)
  | 7 => ("ComesBackModel", "weight", "[I", true)
  | 8 => ("ComesBackModel", "blows", "I", false)
  | 9 => ("ComesBackModel", "blowsMore", "I", false)
  | 10 => ("ComesBackModel", "throwMany", "I", false)
  | 11 => ("ComesBackModel", "kind", "[I", true)
  | 12 => ("ComesBackModel", "stickOf", "[I", true)
  | 13 => ("ComesBackModel", "wayOf", "[I", true)
  | 14 => ("ComesBackModel", "paceOf", "[I", true)
  | 15 => ("ComesBackModel", "slant", "[I", true)
  | 16 => ("ComesBackModel", "snap", "[I", true)
  | 17 => ("ComesBackModel", "more", "[I", true)
  | 18 => ("ComesBackModel", "people", "I", false)
  | 19 => ("ComesBackModel", "personX", "[I", true)
  | 20 => ("ComesBackModel", "personY", "[I", true)
  | 21 => ("ComesBackModel", "tape", "[I", true)
  | 22 => ("ComesBackModel", "taped", "I", false)
  | 23 => ("ComesBackModel", "codes", "[I", true)
  | 24 => ("ComesBackModel", "starts", "[I", true)
  | 25 => ("ComesBackModel", "texts", "I", false)
  | 26 => ("ComesBackModel", "rule", "I", false)
  | 27 => ("ComesBackModel", "hasImage", "Z", false)
  | 28 => ("ComesBackModel", "imageSticks", "I", false)
  | 29 => ("ComesBackModel", "imagePeople", "I", false)
  | 30 => ("ComesBackModel", "imageBlows", "I", false)
  | 31 => ("ComesBackModel", "imageBlowsMore", "I", false)
  | 32 => ("ComesBackModel", "imageRule", "I", false)
  | 33 => ("ComesBackModel", "imagePieces", "[I", true)
  | 34 => ("ComesBackModel", "imageLift", "[I", true)
  | 35 => ("ComesBackModel", "imageDrag", "[I", true)
  | 36 => ("ComesBackModel", "imageWeight", "[I", true)
  | 37 => ("ComesBackModel", "imageX", "[I", true)
  | 38 => ("ComesBackModel", "imageY", "[I", true)
  | 39 => ("ComesBackModel", "sheetSort", "[I", true)
  | 40 => ("ComesBackModel", "sheetSize", "[I", true)
  | 41 => ("ComesBackModel", "cells", "[I", true)
  | 42 => ("ComesBackModel", "at", "I", false)
  | 43 => ("ComesBackModel", "begun", "I", false)
  | 44 => ("ComesBackModel", "token", "I", false)
  | 45 => ("ComesBackModel", "value", "I", false)
  | 46 => ("ComesBackModel", "words", "[J", true)
  | 47 => ("ComesBackModel", "held", "[I", true)
  | 48 => ("ComesBackModel", "heldMany", "I", false)
  | 49 => ("ComesBackModel", "opens", "I", false)
  | 50 => ("ComesBackModel", "out", "I", false)
  | 51 => ("ComesBackModel", "stack", "[I", true)
  | 52 => ("ComesBackModel", "named", "[I", true)
  | 53 => ("ComesBackModel", "xs", "[I", true)
  | 54 => ("ComesBackModel", "ys", "[I", true)
  | 55 => ("ComesBackModel", "zs", "[I", true)
  | 56 => ("ComesBackModel", "ways", "[I", true)
  | 57 => ("ComesBackModel", "paces", "[I", true)
  | 58 => ("ComesBackModel", "spins", "[I", true)
  | 59 => ("ComesBackModel", "tilts", "[I", true)
  | 60 => ("ComesBackModel", "ticks", "I", false)
  | 61 => ("ComesBackModel", "kept", "[I", true)
  | 62 => ("ComesBackModel", "otherX", "[I", true)
  | 63 => ("ComesBackModel", "otherY", "[I", true)
  | _ => ("ComesBackModel", "otherZ", "[I", true)
def tyX8 : Nat → FieldType := fun k => match k with
  | 0 => .array .int
  | 1 => .int
  | 2 => .array .int
  | 3 => .array .int
  | 4 => .array .int
  | 5 => .array .int
  | 6 => .array .int
  | 7 => .array .int
  | 8 => .int
  | 9 => .int
  | 10 => .int
  | 11 => .array .int
  | 12 => .array .int
  | 13 => .array .int
  | 14 => .array .int
  | 15 => .array .int
  | 16 => .array .int
  | 17 => .array .int
  | 18 => .int
  | 19 => .array .int
  | 20 => .array .int
  | 21 => .array .int
  | 22 => .int
  | 23 => .array .int
  | 24 => .array .int
  | 25 => .int
  | 26 => .int
  | 27 => .boolean
  | 28 => .int
  | 29 => .int
  | 30 => .int
  | 31 => .int
  | 32 => .int
  | 33 => .array .int
  | 34 => .array .int
  | 35 => .array .int
  | 36 => .array .int
  | 37 => .array .int
  | 38 => .array .int
  | 39 => .array .int
  | 40 => .array .int
  | 41 => .array .int
  | 42 => .int
  | 43 => .int
  | 44 => .int
  | 45 => .int
  | 46 => .array .long
  | 47 => .array .int
  | 48 => .int
  | 49 => .int
  | 50 => .int
  | 51 => .array .int
  | 52 => .array .int
  | 53 => .array .int
  | 54 => .array .int
  | 55 => .array .int
  | 56 => .array .int
  | 57 => .array .int
  | 58 => .array .int
  | 59 => .array .int
  | 60 => .int
  | 61 => .array .int
  | 62 => .array .int
  | 63 => .array .int
  | _ => .array .int
theorem nmX8 : ∀ a, a < 65 → ∀ b, b < 65 → a ≠ b → (TX8 a).2.1 ≠ (TX8 b).2.1 := by decide +kernel
theorem tyX8_ok : ∀ k, k < 65 → parseFieldDescriptor (TX8 k).2.2.1 = some (tyX8 k) := by decide +kernel
abbrev vwCl : List vw_C := [(RX0, TX0, 13), (RX1, TX1, 2), (RX2, TX2, 6), (RX3, TX3, 9), (RX4, TX4, 3), (RX5, TX5, 5), (RX6, TX6, 8), (RX7, TX7, 19), (RX8, TX8, 65)]
abbrev cX0_init : ByteArray := prog_2_method_1_code
def yX0_init : MethodName := ⟨RX0, "<init>", "()V"⟩
abbrev cX0_aim : ByteArray := prog_2_method_2_code
def yX0_aim : MethodName := ⟨RX0, "aim", "(LComesBack$Toss;LComesBack$Law;II)V"⟩
abbrev cX0_go : ByteArray := prog_2_method_3_code
def yX0_go : MethodName := ⟨RX0, "go", "()V"⟩
abbrev cX0_begin : ByteArray := prog_2_method_4_code
def yX0_begin : MethodName := ⟨RX0, "begin", "()V"⟩
abbrev cX0_goesOn : ByteArray := prog_2_method_5_code
def yX0_goesOn : MethodName := ⟨RX0, "goesOn", "()Z"⟩
abbrev cX0_step : ByteArray := prog_2_method_6_code
def yX0_step : MethodName := ⟨RX0, "step", "()V"⟩
abbrev cX0_windAt : ByteArray := prog_2_method_7_code
def yX0_windAt : MethodName := ⟨RX0, "windAt", "(I)I"⟩
abbrev cX0_look : ByteArray := prog_2_method_8_code
def yX0_look : MethodName := ⟨RX0, "look", "(I)V"⟩
abbrev cX0_said : ByteArray := prog_2_method_9_code
def yX0_said : MethodName := ⟨RX0, "said", "(I)I"⟩
abbrev cX0_isDown : ByteArray := prog_2_method_10_code
def yX0_isDown : MethodName := ⟨RX0, "isDown", "()Z"⟩
abbrev cX0_farOff : ByteArray := prog_2_method_11_code
def yX0_farOff : MethodName := ⟨RX0, "farOff", "(I)I"⟩
abbrev cX0_returns : ByteArray := prog_2_method_12_code
def yX0_returns : MethodName := ⟨RX0, "returns", "(I)Z"⟩
abbrev cX0_farthestOff : ByteArray := prog_2_method_13_code
def yX0_farthestOff : MethodName := ⟨RX0, "farthestOff", "()I"⟩
abbrev cX0_greatest : ByteArray := prog_2_method_14_code
def yX0_greatest : MethodName := ⟨RX0, "greatest", "(I)I"⟩
abbrev cX0_smallest : ByteArray := prog_2_method_15_code
def yX0_smallest : MethodName := ⟨RX0, "smallest", "(I)I"⟩
abbrev cX0_firstWith : ByteArray := prog_2_method_16_code
def yX0_firstWith : MethodName := ⟨RX0, "firstWith", "(II)I"⟩
abbrev cX0_levelTicks : ByteArray := prog_2_method_17_code
def yX0_levelTicks : MethodName := ⟨RX0, "levelTicks", "()I"⟩
abbrev cX0_turnedInAll : ByteArray := prog_2_method_18_code
def yX0_turnedInAll : MethodName := ⟨RX0, "turnedInAll", "()I"⟩
abbrev cX0_lastClimb : ByteArray := prog_2_method_19_code
def yX0_lastClimb : MethodName := ⟨RX0, "lastClimb", "()I"⟩
abbrev cX0_deepestDrop : ByteArray := prog_2_method_20_code
def yX0_deepestDrop : MethodName := ⟨RX0, "deepestDrop", "()I"⟩
abbrev cX0_firstBeyond : ByteArray := prog_2_method_21_code
def yX0_firstBeyond : MethodName := ⟨RX0, "firstBeyond", "(II)I"⟩
abbrev cX0_apartAt : ByteArray := prog_2_method_22_code
def yX0_apartAt : MethodName := ⟨RX0, "apartAt", "(LComesBack$Flight;I)I"⟩
abbrev cX0_unlikeAt : ByteArray := prog_2_method_23_code
def yX0_unlikeAt : MethodName := ⟨RX0, "unlikeAt", "(LComesBack$Sheet;)I"⟩
abbrev cX1_init : ByteArray := prog_3_method_1_code
def yX1_init : MethodName := ⟨RX1, "<init>", "([I[I)V"⟩
abbrev cX1_isName : ByteArray := prog_3_method_2_code
def yX1_isName : MethodName := ⟨RX1, "isName", "(I)Z"⟩
abbrev cX1_say : ByteArray := prog_3_method_3_code
def yX1_say : MethodName := ⟨RX1, "say", "(I[I[I)I"⟩
abbrev cX1_altered : ByteArray := prog_3_method_4_code
def yX1_altered : MethodName := ⟨RX1, "altered", "(II)I"⟩
abbrev cX1_joined : ByteArray := prog_3_method_5_code
def yX1_joined : MethodName := ⟨RX1, "joined", "(III)I"⟩
abbrev cX2_init : ByteArray := prog_4_method_1_code
def yX2_init : MethodName := ⟨RX2, "<init>", "()V"⟩
abbrev cX2_isPlace : ByteArray := prog_4_method_2_code
def yX2_isPlace : MethodName := ⟨RX2, "isPlace", "(II)Z"⟩
abbrev cX2_add : ByteArray := prog_4_method_3_code
def yX2_add : MethodName := ⟨RX2, "add", "(II)Z"⟩
abbrev cX2_firstHit : ByteArray := prog_4_method_4_code
def yX2_firstHit : MethodName := ⟨RX2, "firstHit", "(LComesBack$Flight;)I"⟩
abbrev cX2_keep : ByteArray := prog_4_method_5_code
def yX2_keep : MethodName := ⟨RX2, "keep", "()V"⟩
abbrev cX2_restore : ByteArray := prog_4_method_6_code
def yX2_restore : MethodName := ⟨RX2, "restore", "()V"⟩
abbrev cX3_init : ByteArray := prog_5_method_1_code
def yX3_init : MethodName := ⟨RX3, "<init>", "()V"⟩
abbrev cX3_put : ByteArray := prog_5_method_2_code
def yX3_put : MethodName := ⟨RX3, "put", "(B)V"⟩
abbrev cX3_toLaw : ByteArray := prog_5_method_3_code
def yX3_toLaw : MethodName := ⟨RX3, "toLaw", "()LComesBack$Law;"⟩
abbrev cX3_expression : ByteArray := prog_5_method_4_code
def yX3_expression : MethodName := ⟨RX3, "expression", "(II)V"⟩
abbrev cX3_joins : ByteArray := prog_5_method_5_code
def yX3_joins : MethodName := ⟨RX3, "joins", "(I)Z"⟩
abbrev cX3_negation : ByteArray := prog_5_method_6_code
def yX3_negation : MethodName := ⟨RX3, "negation", "(I)V"⟩
abbrev cX3_single : ByteArray := prog_5_method_7_code
def yX3_single : MethodName := ⟨RX3, "single", "(I)V"⟩
abbrev cX3_demand : ByteArray := prog_5_method_8_code
def yX3_demand : MethodName := ⟨RX3, "demand", "(I)V"⟩
abbrev cX3_fail : ByteArray := prog_5_method_9_code
def yX3_fail : MethodName := ⟨RX3, "fail", "()V"⟩
abbrev cX3_emit : ByteArray := prog_5_method_10_code
def yX3_emit : MethodName := ⟨RX3, "emit", "(I)V"⟩
abbrev cX3_advance : ByteArray := prog_5_method_11_code
def yX3_advance : MethodName := ⟨RX3, "advance", "()V"⟩
abbrev cX3_isLetter : ByteArray := prog_5_method_12_code
def yX3_isLetter : MethodName := ⟨RX3, "isLetter", "(B)Z"⟩
abbrev cX3_isDigit : ByteArray := prog_5_method_13_code
def yX3_isDigit : MethodName := ⟨RX3, "isDigit", "(B)Z"⟩
abbrev cX3_signToken : ByteArray := prog_5_method_14_code
def yX3_signToken : MethodName := ⟨RX3, "signToken", "(B)I"⟩
abbrev cX3_wordToken : ByteArray := prog_5_method_15_code
def yX3_wordToken : MethodName := ⟨RX3, "wordToken", "()I"⟩
abbrev cX3_spells : ByteArray := prog_5_method_16_code
def yX3_spells : MethodName := ⟨RX3, "spells", "(Ljava/lang/String;)Z"⟩
abbrev cX4_init : ByteArray := prog_6_method_1_code
def yX4_init : MethodName := ⟨RX4, "<init>", "()V"⟩
abbrev cX4_become : ByteArray := prog_6_method_2_code
def yX4_become : MethodName := ⟨RX4, "become", "(II)V"⟩
abbrev cX4_narrowed : ByteArray := prog_6_method_3_code
def yX4_narrowed : MethodName := ⟨RX4, "narrowed", "(I)I"⟩
abbrev cX4_holds : ByteArray := prog_6_method_4_code
def yX4_holds : MethodName := ⟨RX4, "holds", "(II)Z"⟩
abbrev cX5_init : ByteArray := prog_7_method_1_code
def yX5_init : MethodName := ⟨RX5, "<init>", "(I)V"⟩
abbrev cX5_has : ByteArray := prog_7_method_2_code
def yX5_has : MethodName := ⟨RX5, "has", "(I)Z"⟩
abbrev cX5_sum : ByteArray := prog_7_method_3_code
def yX5_sum : MethodName := ⟨RX5, "sum", "(II)I"⟩
abbrev cX5_armsInUse : ByteArray := prog_7_method_4_code
def yX5_armsInUse : MethodName := ⟨RX5, "armsInUse", "()I"⟩
abbrev cX5_become : ByteArray := prog_7_method_5_code
def yX5_become : MethodName := ⟨RX5, "become", "(LComesBack$Stick;)V"⟩
abbrev cX5_keep : ByteArray := prog_7_method_6_code
def yX5_keep : MethodName := ⟨RX5, "keep", "()V"⟩
abbrev cX5_restore : ByteArray := prog_7_method_7_code
def yX5_restore : MethodName := ⟨RX5, "restore", "()V"⟩
abbrev cX6_init : ByteArray := prog_8_method_1_code
def yX6_init : MethodName := ⟨RX6, "<init>", "(ILComesBack$Stick;IIIII)V"⟩
abbrev cX6_isA : ByteArray := prog_8_method_2_code
def yX6_isA : MethodName := ⟨RX6, "isA", "(I)Z"⟩
abbrev cX6_isKind : ByteArray := prog_8_method_3_code
def yX6_isKind : MethodName := ⟨RX6, "isKind", "(II)Z"⟩
abbrev cX6_startHeight : ByteArray := prog_8_method_4_code
def yX6_startHeight : MethodName := ⟨RX6, "startHeight", "()I"⟩
abbrev cX6_up : ByteArray := prog_8_method_5_code
def yX6_up : MethodName := ⟨RX6, "up", "(II)I"⟩
abbrev cX6_turn : ByteArray := prog_8_method_6_code
def yX6_turn : MethodName := ⟨RX6, "turn", "(I)I"⟩
abbrev cX6_less : ByteArray := prog_8_method_7_code
def yX6_less : MethodName := ⟨RX6, "less", "(II)I"⟩
abbrev cX6_wayOff : ByteArray := prog_8_method_8_code
def yX6_wayOff : MethodName := ⟨RX6, "wayOff", "(I)I"⟩
abbrev cX6_paceOff : ByteArray := prog_8_method_9_code
def yX6_paceOff : MethodName := ⟨RX6, "paceOff", "(I)I"⟩
abbrev cX6_bound : ByteArray := prog_8_method_10_code
def yX6_bound : MethodName := ⟨RX6, "bound", "(III)I"⟩
abbrev cX7_init : ByteArray := prog_1_method_1_code
def yX7_init : MethodName := ⟨RX7, "<init>", "()V"⟩
abbrev cX7_stick : ByteArray := prog_1_method_2_code
def yX7_stick : MethodName := ⟨RX7, "stick", "()I"⟩
abbrev cX7_piece : ByteArray := prog_1_method_3_code
def yX7_piece : MethodName := ⟨RX7, "piece", "(IIIII)I"⟩
abbrev cX7_file : ByteArray := prog_1_method_4_code
def yX7_file : MethodName := ⟨RX7, "file", "(IIII)I"⟩
abbrev cX7_pieceTold : ByteArray := prog_1_method_5_code
def yX7_pieceTold : MethodName := ⟨RX7, "pieceTold", "(III)I"⟩
abbrev cX7_stickTold : ByteArray := prog_1_method_6_code
def yX7_stickTold : MethodName := ⟨RX7, "stickTold", "(II)I"⟩
abbrev cX7_wind : ByteArray := prog_1_method_7_code
def yX7_wind : MethodName := ⟨RX7, "wind", "(II)I"⟩
abbrev cX7_toss : ByteArray := prog_1_method_8_code
def yX7_toss : MethodName := ⟨RX7, "toss", "(IIIII)I"⟩
abbrev cX7_tossTold : ByteArray := prog_1_method_9_code
def yX7_tossTold : MethodName := ⟨RX7, "tossTold", "(II)I"⟩
abbrev cX7_count : ByteArray := prog_1_method_10_code
def yX7_count : MethodName := ⟨RX7, "count", "(I)I"⟩
abbrev cX7_feed : ByteArray := prog_1_method_11_code
def yX7_feed : MethodName := ⟨RX7, "feed", "(JI)I"⟩
abbrev cX7_text : ByteArray := prog_1_method_12_code
def yX7_text : MethodName := ⟨RX7, "text", "()I"⟩
abbrev cX7_force : ByteArray := prog_1_method_13_code
def yX7_force : MethodName := ⟨RX7, "force", "(I)I"⟩
abbrev cX7_tick : ByteArray := prog_1_method_14_code
def yX7_tick : MethodName := ⟨RX7, "tick", "(III)I"⟩
abbrev cX7_fly : ByteArray := prog_1_method_15_code
def yX7_fly : MethodName := ⟨RX7, "fly", "(II)I"⟩
abbrev cX7_comes : ByteArray := prog_1_method_16_code
def yX7_comes : MethodName := ⟨RX7, "comes", "(II)I"⟩
abbrev cX7_lies : ByteArray := prog_1_method_17_code
def yX7_lies : MethodName := ⟨RX7, "lies", "(I)I"⟩
abbrev cX7_hovers : ByteArray := prog_1_method_18_code
def yX7_hovers : MethodName := ⟨RX7, "hovers", "(I)I"⟩
abbrev cX7_circle : ByteArray := prog_1_method_19_code
def yX7_circle : MethodName := ⟨RX7, "circle", "(II)I"⟩
abbrev cX7_down : ByteArray := prog_1_method_20_code
def yX7_down : MethodName := ⟨RX7, "down", "(II)I"⟩
abbrev cX7_why : ByteArray := prog_1_method_21_code
def yX7_why : MethodName := ⟨RX7, "why", "(III)I"⟩
abbrev cX7_room : ByteArray := prog_1_method_22_code
def yX7_room : MethodName := ⟨RX7, "room", "(III)I"⟩
abbrev cX7_winds : ByteArray := prog_1_method_23_code
def yX7_winds : MethodName := ⟨RX7, "winds", "(II)I"⟩
abbrev cX7_paces : ByteArray := prog_1_method_24_code
def yX7_paces : MethodName := ⟨RX7, "paces", "(II)J"⟩
abbrev cX7_odds : ByteArray := prog_1_method_25_code
def yX7_odds : MethodName := ⟨RX7, "odds", "(IIIII)J"⟩
abbrev cX7_mean : ByteArray := prog_1_method_26_code
def yX7_mean : MethodName := ⟨RX7, "mean", "(IIII)J"⟩
abbrev cX7_best : ByteArray := prog_1_method_27_code
def yX7_best : MethodName := ⟨RX7, "best", "(II)I"⟩
abbrev cX7_least : ByteArray := prog_1_method_28_code
def yX7_least : MethodName := ⟨RX7, "least", "(II)I"⟩
abbrev cX7_mend : ByteArray := prog_1_method_29_code
def yX7_mend : MethodName := ⟨RX7, "mend", "(II)I"⟩
abbrev cX7_exchange : ByteArray := prog_1_method_30_code
def yX7_exchange : MethodName := ⟨RX7, "exchange", "(II)I"⟩
abbrev cX7_form : ByteArray := prog_1_method_31_code
def yX7_form : MethodName := ⟨RX7, "form", "(II)I"⟩
abbrev cX7_lead : ByteArray := prog_1_method_32_code
def yX7_lead : MethodName := ⟨RX7, "lead", "(II)I"⟩
abbrev cX7_judge : ByteArray := prog_1_method_33_code
def yX7_judge : MethodName := ⟨RX7, "judge", "(II)I"⟩
abbrev cX7_film : ByteArray := prog_1_method_34_code
def yX7_film : MethodName := ⟨RX7, "film", "(II)I"⟩
abbrev cX7_which : ByteArray := prog_1_method_35_code
def yX7_which : MethodName := ⟨RX7, "which", "(III)I"⟩
abbrev cX7_read : ByteArray := prog_1_method_36_code
def yX7_read : MethodName := ⟨RX7, "read", "(III)I"⟩
abbrev cX7_apart : ByteArray := prog_1_method_37_code
def yX7_apart : MethodName := ⟨RX7, "apart", "(III)J"⟩
abbrev cX7_person : ByteArray := prog_1_method_38_code
def yX7_person : MethodName := ⟨RX7, "person", "(II)I"⟩
abbrev cX7_walks : ByteArray := prog_1_method_39_code
def yX7_walks : MethodName := ⟨RX7, "walks", "(III)I"⟩
abbrev cX7_hit : ByteArray := prog_1_method_40_code
def yX7_hit : MethodName := ⟨RX7, "hit", "(I)I"⟩
abbrev cX7_hitOdds : ByteArray := prog_1_method_41_code
def yX7_hitOdds : MethodName := ⟨RX7, "hitOdds", "(IIII)J"⟩
abbrev cX7_near : ByteArray := prog_1_method_42_code
def yX7_near : MethodName := ⟨RX7, "near", "(III)I"⟩
abbrev cX7_mirror : ByteArray := prog_1_method_43_code
def yX7_mirror : MethodName := ⟨RX7, "mirror", "(II)I"⟩
abbrev cX7_drawn : ByteArray := prog_1_method_44_code
def yX7_drawn : MethodName := ⟨RX7, "drawn", "(IIII)I"⟩
abbrev cX7_want : ByteArray := prog_1_method_45_code
def yX7_want : MethodName := ⟨RX7, "want", "(II)I"⟩
abbrev cX7_image : ByteArray := prog_1_method_46_code
def yX7_image : MethodName := ⟨RX7, "image", "()I"⟩
abbrev cX7_back : ByteArray := prog_1_method_47_code
def yX7_back : MethodName := ⟨RX7, "back", "()I"⟩
abbrev cX7_sheet : ByteArray := prog_1_method_48_code
def yX7_sheet : MethodName := ⟨RX7, "sheet", "(III)I"⟩
abbrev cX7_cell : ByteArray := prog_1_method_49_code
def yX7_cell : MethodName := ⟨RX7, "cell", "(III)I"⟩
abbrev cX7_copy : ByteArray := prog_1_method_50_code
def yX7_copy : MethodName := ⟨RX7, "copy", "(IIIII)I"⟩
abbrev cX7_peopleBy : ByteArray := prog_1_method_51_code
def yX7_peopleBy : MethodName := ⟨RX7, "peopleBy", "(IIII)I"⟩
abbrev cX7_taken : ByteArray := prog_1_method_52_code
def yX7_taken : MethodName := ⟨RX7, "taken", "(II)I"⟩
abbrev cX7_within : ByteArray := prog_1_method_53_code
def yX7_within : MethodName := ⟨RX7, "within", "(III)Z"⟩
abbrev cX7_filedWell : ByteArray := prog_1_method_54_code
def yX7_filedWell : MethodName := ⟨RX7, "filedWell", "(II)Z"⟩
abbrev cX7_stickAt : ByteArray := prog_1_method_55_code
def yX7_stickAt : MethodName := ⟨RX7, "stickAt", "(I)LComesBack$Stick;"⟩
abbrev cX7_tossAt : ByteArray := prog_1_method_56_code
def yX7_tossAt : MethodName := ⟨RX7, "tossAt", "(I)LComesBack$Toss;"⟩
abbrev cX7_aim : ByteArray := prog_1_method_57_code
def yX7_aim : MethodName := ⟨RX7, "aim", "(LComesBack$Flight;LComesBack$Toss;)V"⟩
abbrev cX7_aimTrial : ByteArray := prog_1_method_58_code
def yX7_aimTrial : MethodName := ⟨RX7, "aimTrial", "(LComesBack$Toss;)V"⟩
abbrev cX7_flown : ByteArray := prog_1_method_59_code
def yX7_flown : MethodName := ⟨RX7, "flown", "(LComesBack$Toss;)LComesBack$Flight;"⟩
abbrev cX7_returnsAsAimed : ByteArray := prog_1_method_60_code
def yX7_returnsAsAimed : MethodName := ⟨RX7, "returnsAsAimed", "(I)Z"⟩
abbrev cX7_endAsAimed : ByteArray := prog_1_method_61_code
def yX7_endAsAimed : MethodName := ⟨RX7, "endAsAimed", "()I"⟩
abbrev cX7_isHand : ByteArray := prog_1_method_62_code
def yX7_isHand : MethodName := ⟨RX7, "isHand", "(II)Z"⟩
abbrev cX7_handSize : ByteArray := prog_1_method_63_code
def yX7_handSize : MethodName := ⟨RX7, "handSize", "(II)I"⟩
abbrev cX7_wander : ByteArray := prog_1_method_64_code
def yX7_wander : MethodName := ⟨RX7, "wander", "(LComesBack$Toss;III)V"⟩
abbrev cX7_lowestTerm : ByteArray := prog_1_method_65_code
def yX7_lowestTerm : MethodName := ⟨RX7, "lowestTerm", "(JJI)J"⟩
abbrev cX7_leastFiling : ByteArray := prog_1_method_66_code
def yX7_leastFiling : MethodName := ⟨RX7, "leastFiling", "(LComesBack$Toss;I)I"⟩
abbrev cX7_filmRefused : ByteArray := prog_1_method_67_code
def yX7_filmRefused : MethodName := ⟨RX7, "filmRefused", "(I)I"⟩
abbrev cX7_tossesThatFit : ByteArray := prog_1_method_68_code
def yX7_tossesThatFit : MethodName := ⟨RX7, "tossesThatFit", "(LComesBack$Sheet;)I"⟩
abbrev cX7_lawsThatFit : ByteArray := prog_1_method_69_code
def yX7_lawsThatFit : MethodName := ⟨RX7, "lawsThatFit", "(LComesBack$Toss;LComesBack$Sheet;)I"⟩
abbrev cX7_liftsThatFit : ByteArray := prog_1_method_70_code
def yX7_liftsThatFit : MethodName := ⟨RX7, "liftsThatFit", "(LComesBack$Toss;ILComesBack$Sheet;)I"⟩
abbrev cX8_init : ByteArray := prog_10_method_1_code
def yX8_init : MethodName := ⟨RX8, "<init>", "()V"⟩
abbrev cX8_first : ByteArray := prog_10_method_2_code
def yX8_first : MethodName := ⟨RX8, "first", "(IIIII)V"⟩
abbrev cX8_in : ByteArray := prog_10_method_4_code
def yX8_in : MethodName := ⟨RX8, "in", "(III)Z"⟩
abbrev cX8_isStick : ByteArray := prog_10_method_5_code
def yX8_isStick : MethodName := ⟨RX8, "isStick", "(I)Z"⟩
abbrev cX8_isPiece : ByteArray := prog_10_method_6_code
def yX8_isPiece : MethodName := ⟨RX8, "isPiece", "(II)Z"⟩
abbrev cX8_isThrow : ByteArray := prog_10_method_7_code
def yX8_isThrow : MethodName := ⟨RX8, "isThrow", "(I)Z"⟩
abbrev cX8_stick : ByteArray := prog_10_method_8_code
def yX8_stick : MethodName := ⟨RX8, "stick", "()I"⟩
abbrev cX8_piece : ByteArray := prog_10_method_9_code
def yX8_piece : MethodName := ⟨RX8, "piece", "(IIIII)I"⟩
abbrev cX8_file : ByteArray := prog_10_method_10_code
def yX8_file : MethodName := ⟨RX8, "file", "(IIII)I"⟩
abbrev cX8_pieceTold : ByteArray := prog_10_method_11_code
def yX8_pieceTold : MethodName := ⟨RX8, "pieceTold", "(III)I"⟩
abbrev cX8_sumOf : ByteArray := prog_10_method_12_code
def yX8_sumOf : MethodName := ⟨RX8, "sumOf", "(II)I"⟩
abbrev cX8_stickTold : ByteArray := prog_10_method_13_code
def yX8_stickTold : MethodName := ⟨RX8, "stickTold", "(II)I"⟩
abbrev cX8_wind : ByteArray := prog_10_method_14_code
def yX8_wind : MethodName := ⟨RX8, "wind", "(II)I"⟩
abbrev cX8_toss : ByteArray := prog_10_method_15_code
def yX8_toss : MethodName := ⟨RX8, "toss", "(IIIII)I"⟩
abbrev cX8_highOf : ByteArray := prog_10_method_16_code
def yX8_highOf : MethodName := ⟨RX8, "highOf", "(I)I"⟩
abbrev cX8_tossTold : ByteArray := prog_10_method_17_code
def yX8_tossTold : MethodName := ⟨RX8, "tossTold", "(II)I"⟩
abbrev cX8_count : ByteArray := prog_10_method_18_code
def yX8_count : MethodName := ⟨RX8, "count", "(I)I"⟩
abbrev cX8_feed : ByteArray := prog_10_method_19_code
def yX8_feed : MethodName := ⟨RX8, "feed", "(JI)I"⟩
abbrev cX8_letters : ByteArray := prog_10_method_20_code
def yX8_letters : MethodName := ⟨RX8, "letters", "()J"⟩
abbrev cX8_next : ByteArray := prog_10_method_21_code
def yX8_next : MethodName := ⟨RX8, "next", "()V"⟩
abbrev cX8_rank : ByteArray := prog_10_method_22_code
def yX8_rank : MethodName := ⟨RX8, "rank", "(I)I"⟩
abbrev cX8_puts : ByteArray := prog_10_method_23_code
def yX8_puts : MethodName := ⟨RX8, "puts", "(I)V"⟩
abbrev cX8_unwinds : ByteArray := prog_10_method_24_code
def yX8_unwinds : MethodName := ⟨RX8, "unwinds", "(I)V"⟩
abbrev cX8_holds : ByteArray := prog_10_method_25_code
def yX8_holds : MethodName := ⟨RX8, "holds", "(I)V"⟩
abbrev cX8_opensOne : ByteArray := prog_10_method_26_code
def yX8_opensOne : MethodName := ⟨RX8, "opensOne", "(I)Z"⟩
abbrev cX8_between : ByteArray := prog_10_method_27_code
def yX8_between : MethodName := ⟨RX8, "between", "(I)Z"⟩
abbrev cX8_signOf : ByteArray := prog_10_method_28_code
def yX8_signOf : MethodName := ⟨RX8, "signOf", "()I"⟩
abbrev cX8_eRead : ByteArray := prog_10_method_29_code
def yX8_eRead : MethodName := ⟨RX8, "eRead", "()Z"⟩
abbrev cX8_text : ByteArray := prog_10_method_30_code
def yX8_text : MethodName := ⟨RX8, "text", "()I"⟩
abbrev cX8_two : ByteArray := prog_10_method_31_code
def yX8_two : MethodName := ⟨RX8, "two", "(III)I"⟩
abbrev cX8_worth : ByteArray := prog_10_method_32_code
def yX8_worth : MethodName := ⟨RX8, "worth", "(I)I"⟩
abbrev cX8_force : ByteArray := prog_10_method_33_code
def yX8_force : MethodName := ⟨RX8, "force", "(I)I"⟩
abbrev cX8_windAt : ByteArray := prog_10_method_34_code
def yX8_windAt : MethodName := ⟨RX8, "windAt", "(I)I"⟩
abbrev cX8_says : ByteArray := prog_10_method_35_code
def yX8_says : MethodName := ⟨RX8, "says", "(III)I"⟩
abbrev cX8_within : ByteArray := prog_10_method_36_code
def yX8_within : MethodName := ⟨RX8, "within", "(III)I"⟩
abbrev cX8_upAt : ByteArray := prog_10_method_37_code
def yX8_upAt : MethodName := ⟨RX8, "upAt", "(II)I"⟩
abbrev cX8_turnAt : ByteArray := prog_10_method_38_code
def yX8_turnAt : MethodName := ⟨RX8, "turnAt", "(II)I"⟩
abbrev cX8_lessAt : ByteArray := prog_10_method_39_code
def yX8_lessAt : MethodName := ⟨RX8, "lessAt", "(II)I"⟩
abbrev cX8_goes : ByteArray := prog_10_method_40_code
def yX8_goes : MethodName := ⟨RX8, "goes", "(IIIZ)V"⟩
abbrev cX8_fliesAs : ByteArray := prog_10_method_41_code
def yX8_fliesAs : MethodName := ⟨RX8, "fliesAs", "(I)V"⟩
abbrev cX8_offAt : ByteArray := prog_10_method_42_code
def yX8_offAt : MethodName := ⟨RX8, "offAt", "(I)I"⟩
abbrev cX8_isBack : ByteArray := prog_10_method_43_code
def yX8_isBack : MethodName := ⟨RX8, "isBack", "(I)Z"⟩
abbrev cX8_tick : ByteArray := prog_10_method_44_code
def yX8_tick : MethodName := ⟨RX8, "tick", "(III)I"⟩
abbrev cX8_highest : ByteArray := prog_10_method_45_code
def yX8_highest : MethodName := ⟨RX8, "highest", "()I"⟩
abbrev cX8_fly : ByteArray := prog_10_method_46_code
def yX8_fly : MethodName := ⟨RX8, "fly", "(II)I"⟩
abbrev cX8_isNear : ByteArray := prog_10_method_47_code
def yX8_isNear : MethodName := ⟨RX8, "isNear", "(I)Z"⟩
abbrev cX8_comes : ByteArray := prog_10_method_48_code
def yX8_comes : MethodName := ⟨RX8, "comes", "(II)I"⟩
abbrev cX8_lies : ByteArray := prog_10_method_49_code
def yX8_lies : MethodName := ⟨RX8, "lies", "(I)I"⟩
abbrev cX8_hovers : ByteArray := prog_10_method_50_code
def yX8_hovers : MethodName := ⟨RX8, "hovers", "(I)I"⟩
abbrev cX8_circle : ByteArray := prog_10_method_51_code
def yX8_circle : MethodName := ⟨RX8, "circle", "(II)I"⟩
abbrev cX8_down : ByteArray := prog_10_method_52_code
def yX8_down : MethodName := ⟨RX8, "down", "(II)I"⟩
abbrev cX8_why : ByteArray := prog_10_method_53_code
def yX8_why : MethodName := ⟨RX8, "why", "(III)I"⟩
abbrev cX8_size : ByteArray := prog_10_method_54_code
def yX8_size : MethodName := ⟨RX8, "size", "(I)I"⟩
abbrev cX8_room : ByteArray := prog_10_method_55_code
def yX8_room : MethodName := ⟨RX8, "room", "(III)I"⟩
abbrev cX8_winds : ByteArray := prog_10_method_56_code
def yX8_winds : MethodName := ⟨RX8, "winds", "(II)I"⟩
abbrev cX8_paces : ByteArray := prog_10_method_57_code
def yX8_paces : MethodName := ⟨RX8, "paces", "(II)J"⟩
abbrev cX8_lowest : ByteArray := prog_10_method_58_code
def yX8_lowest : MethodName := ⟨RX8, "lowest", "(JJI)J"⟩
abbrev cX8_byHand : ByteArray := prog_10_method_59_code
def yX8_byHand : MethodName := ⟨RX8, "byHand", "(III)V"⟩
abbrev cX8_isHand : ByteArray := prog_10_method_60_code
def yX8_isHand : MethodName := ⟨RX8, "isHand", "(II)Z"⟩
abbrev cX8_odds : ByteArray := prog_10_method_61_code
def yX8_odds : MethodName := ⟨RX8, "odds", "(IIIII)J"⟩
abbrev cX8_mean : ByteArray := prog_10_method_62_code
def yX8_mean : MethodName := ⟨RX8, "mean", "(IIII)J"⟩
abbrev cX8_best : ByteArray := prog_10_method_63_code
def yX8_best : MethodName := ⟨RX8, "best", "(II)I"⟩
abbrev cX8_wouldBe : ByteArray := prog_10_method_64_code
def yX8_wouldBe : MethodName := ⟨RX8, "wouldBe", "(IIIII)Z"⟩
abbrev cX8_sets : ByteArray := prog_10_method_65_code
def yX8_sets : MethodName := ⟨RX8, "sets", "(III)V"⟩
abbrev cX8_leastOf : ByteArray := prog_10_method_66_code
def yX8_leastOf : MethodName := ⟨RX8, "leastOf", "(II)I"⟩
abbrev cX8_least : ByteArray := prog_10_method_67_code
def yX8_least : MethodName := ⟨RX8, "least", "(II)I"⟩
abbrev cX8_mend : ByteArray := prog_10_method_68_code
def yX8_mend : MethodName := ⟨RX8, "mend", "(II)I"⟩
abbrev cX8_exchange : ByteArray := prog_10_method_69_code
def yX8_exchange : MethodName := ⟨RX8, "exchange", "(II)I"⟩
abbrev cX8_form : ByteArray := prog_10_method_70_code
def yX8_form : MethodName := ⟨RX8, "form", "(II)I"⟩
abbrev cX8_lead : ByteArray := prog_10_method_71_code
def yX8_lead : MethodName := ⟨RX8, "lead", "(II)I"⟩
abbrev cX8_filmWrong : ByteArray := prog_10_method_72_code
def yX8_filmWrong : MethodName := ⟨RX8, "filmWrong", "(I)I"⟩
abbrev cX8_unlike : ByteArray := prog_10_method_73_code
def yX8_unlike : MethodName := ⟨RX8, "unlike", "(I)I"⟩
abbrev cX8_judge : ByteArray := prog_10_method_74_code
def yX8_judge : MethodName := ⟨RX8, "judge", "(II)I"⟩
abbrev cX8_film : ByteArray := prog_10_method_75_code
def yX8_film : MethodName := ⟨RX8, "film", "(II)I"⟩
abbrev cX8_which : ByteArray := prog_10_method_76_code
def yX8_which : MethodName := ⟨RX8, "which", "(III)I"⟩
abbrev cX8_readOf : ByteArray := prog_10_method_77_code
def yX8_readOf : MethodName := ⟨RX8, "readOf", "(III)I"⟩
abbrev cX8_read : ByteArray := prog_10_method_78_code
def yX8_read : MethodName := ⟨RX8, "read", "(III)I"⟩
abbrev cX8_apart : ByteArray := prog_10_method_79_code
def yX8_apart : MethodName := ⟨RX8, "apart", "(III)J"⟩
abbrev cX8_isSpot : ByteArray := prog_10_method_80_code
def yX8_isSpot : MethodName := ⟨RX8, "isSpot", "(II)Z"⟩
abbrev cX8_person : ByteArray := prog_10_method_81_code
def yX8_person : MethodName := ⟨RX8, "person", "(II)I"⟩
abbrev cX8_walks : ByteArray := prog_10_method_82_code
def yX8_walks : MethodName := ⟨RX8, "walks", "(III)I"⟩
abbrev cX8_hitNow : ByteArray := prog_10_method_83_code
def yX8_hitNow : MethodName := ⟨RX8, "hitNow", "()I"⟩
abbrev cX8_hit : ByteArray := prog_10_method_84_code
def yX8_hit : MethodName := ⟨RX8, "hit", "(I)I"⟩
abbrev cX8_hitOdds : ByteArray := prog_10_method_85_code
def yX8_hitOdds : MethodName := ⟨RX8, "hitOdds", "(IIII)J"⟩
abbrev cX8_near : ByteArray := prog_10_method_86_code
def yX8_near : MethodName := ⟨RX8, "near", "(III)I"⟩
abbrev cX8_mirror : ByteArray := prog_10_method_87_code
def yX8_mirror : MethodName := ⟨RX8, "mirror", "(II)I"⟩
abbrev cX8_drawn : ByteArray := prog_10_method_88_code
def yX8_drawn : MethodName := ⟨RX8, "drawn", "(IIII)I"⟩
abbrev cX8_want : ByteArray := prog_10_method_89_code
def yX8_want : MethodName := ⟨RX8, "want", "(II)I"⟩
abbrev cX8_image : ByteArray := prog_10_method_90_code
def yX8_image : MethodName := ⟨RX8, "image", "()I"⟩
abbrev cX8_back : ByteArray := prog_10_method_91_code
def yX8_back : MethodName := ⟨RX8, "back", "()I"⟩
abbrev cX8_sheet : ByteArray := prog_10_method_92_code
def yX8_sheet : MethodName := ⟨RX8, "sheet", "(III)I"⟩
abbrev cX8_cell : ByteArray := prog_10_method_93_code
def yX8_cell : MethodName := ⟨RX8, "cell", "(III)I"⟩
abbrev cX8_copy : ByteArray := prog_10_method_94_code
def yX8_copy : MethodName := ⟨RX8, "copy", "(IIIII)I"⟩
abbrev cX8_peopleBy : ByteArray := prog_10_method_95_code
def yX8_peopleBy : MethodName := ⟨RX8, "peopleBy", "(IIII)I"⟩
abbrev cX8_isUnder : ByteArray := prog_10_method_96_code
def yX8_isUnder : MethodName := ⟨RX8, "isUnder", "(II)Z"⟩
abbrev cX8_taken : ByteArray := prog_10_method_97_code
def yX8_taken : MethodName := ⟨RX8, "taken", "(II)I"⟩
abbrev cJ6_bitCount_0f7a4 : ByteArray := prog_11_method_49_code
def yJ6_bitCount_0f7a4 : MethodName := ⟨RJ6, "bitCount", "(I)I"⟩
abbrev cJ9_floorMod_7cf53 : ByteArray := prog_12_method_50_code
def yJ9_floorMod_7cf53 : MethodName := ⟨RJ9, "floorMod", "(II)I"⟩
abbrev cJ9_abs_0f7a4 : ByteArray := prog_12_method_59_code
def yJ9_abs_0f7a4 : MethodName := ⟨RJ9, "abs", "(I)I"⟩
abbrev cJ9_max_7cf53 : ByteArray := prog_12_method_65_code
def yJ9_max_7cf53 : MethodName := ⟨RJ9, "max", "(II)I"⟩
abbrev cJ9_min_7cf53 : ByteArray := prog_12_method_69_code
def yJ9_min_7cf53 : MethodName := ⟨RJ9, "min", "(II)I"⟩
abbrev cJ0_length_8abf5 : ByteArray := prog_13_method_54_code
def yJ0_length_8abf5 : MethodName := ⟨RJ0, "length", "()I"⟩
abbrev cJ0_charAt_5068e : ByteArray := prog_13_method_56_code
def yJ0_charAt_5068e : MethodName := ⟨RJ0, "charAt", "(I)C"⟩
abbrev cJ0_coder_7d493 : ByteArray := prog_13_method_152_code
def yJ0_coder_7d493 : MethodName := ⟨RJ0, "coder", "()B"⟩
abbrev cJ0_isLatin1_aae02 : ByteArray := prog_13_method_154_code
def yJ0_isLatin1_aae02 : MethodName := ⟨RJ0, "isLatin1", "()Z"⟩
abbrev cJ0_checkIndex_df160 : ByteArray := prog_13_method_155_code
def yJ0_checkIndex_df160 : MethodName := ⟨RJ0, "checkIndex", "(II)V"⟩
abbrev cJ1_charAt_3b067 : ByteArray := prog_14_method_2_code
def yJ1_charAt_3b067 : MethodName := ⟨RJ1, "charAt", "([BI)C"⟩
abbrev cJ2_getChar_3b067 : ByteArray := prog_15_method_5_code
def yJ2_getChar_3b067 : MethodName := ⟨RJ2, "getChar", "([BI)C"⟩
abbrev cJ2_length_9d52b : ByteArray := prog_15_method_6_code
def yJ2_length_9d52b : MethodName := ⟨RJ2, "length", "([B)I"⟩
abbrev cJ2_charAt_3b067 : ByteArray := prog_15_method_83_code
def yJ2_charAt_3b067 : MethodName := ⟨RJ2, "charAt", "([BI)C"⟩
abbrev cJ2_checkIndex_2214a : ByteArray := prog_15_method_91_code
def yJ2_checkIndex_2214a : MethodName := ⟨RJ2, "checkIndex", "(I[B)V"⟩
abbrev cJ3_checkIndex_8e157 : ByteArray := prog_17_method_11_code
def yJ3_checkIndex_8e157 : MethodName := ⟨RJ3, "checkIndex", "(IILjava/util/function/BiFunction;)I"⟩
abbrev cL_law : ByteArray := code
def yL_law : MethodName := ⟨RL, "law", "([I)Z"⟩
def q_ML_X0 : List (MethodName × ByteArray × Nat × Option FieldType × Nat) := [(yX0_init, cX0_init, 1, none, 164), (yX0_aim, cX0_aim, 5, none, 611), (yX0_go, cX0_go, 2, none, 615), (yX0_begin, cX0_begin, 2, none, 619), (yX0_goesOn, cX0_goesOn, 1, (some FieldType.boolean), 629), (yX0_step, cX0_step, 10, none, 637), (yX0_windAt, cX0_windAt, 2, (some FieldType.int), 645), (yX0_look, cX0_look, 2, none, 641), (yX0_said, cX0_said, 2, (some FieldType.int), 649), (yX0_isDown, cX0_isDown, 1, (some FieldType.boolean), 633), (yX0_farOff, cX0_farOff, 2, (some FieldType.int), 696), (yX0_returns, cX0_returns, 2, (some FieldType.boolean), 710), (yX0_farthestOff, cX0_farthestOff, 3, (some FieldType.int), 701), (yX0_greatest, cX0_greatest, 4, (some FieldType.int), 692), (yX0_smallest, cX0_smallest, 4, (some FieldType.int), 734), (yX0_firstWith, cX0_firstWith, 4, (some FieldType.int), 718), (yX0_levelTicks, cX0_levelTicks, 3, (some FieldType.int), 726), (yX0_turnedInAll, cX0_turnedInAll, 4, (some FieldType.int), 739), (yX0_lastClimb, cX0_lastClimb, 3, (some FieldType.int), 747), (yX0_deepestDrop, cX0_deepestDrop, 3, (some FieldType.int), 751), (yX0_firstBeyond, cX0_firstBeyond, 5, (some FieldType.int), 768), (yX0_apartAt, cX0_apartAt, 6, (some FieldType.int), 938), (yX0_unlikeAt, cX0_unlikeAt, 3, (some FieldType.int), 867)]
def q_ML_X1 : List (MethodName × ByteArray × Nat × Option FieldType × Nat) := [(yX1_init, cX1_init, 3, none, 393), (yX1_isName, cX1_isName, 1, (some FieldType.boolean), 381), (yX1_say, cX1_say, 7, (some FieldType.int), 653), (yX1_altered, cX1_altered, 2, (some FieldType.int), 657), (yX1_joined, cX1_joined, 3, (some FieldType.int), 660)]
def q_ML_X2 : List (MethodName × ByteArray × Nat × Option FieldType × Nat) := [(yX2_init, cX2_init, 1, none, 98), (yX2_isPlace, cX2_isPlace, 3, (some FieldType.boolean), 909), (yX2_add, cX2_add, 3, (some FieldType.boolean), 913), (yX2_firstHit, cX2_firstHit, 6, (some FieldType.int), 925), (yX2_keep, cX2_keep, 1, none, 967), (yX2_restore, cX2_restore, 1, none, 980)]
def q_ML_X3 : List (MethodName × ByteArray × Nat × Option FieldType × Nat) := [(yX3_init, cX3_init, 1, none, 127), (yX3_put, cX3_put, 2, none, 315), (yX3_toLaw, cX3_toLaw, 3, (some (FieldType.object "ComesBack$Law")), 319), (yX3_expression, cX3_expression, 5, none, 366), (yX3_joins, cX3_joins, 2, (some FieldType.boolean), 385), (yX3_negation, cX3_negation, 3, none, 370), (yX3_single, cX3_single, 2, none, 378), (yX3_demand, cX3_demand, 2, none, 358), (yX3_fail, cX3_fail, 1, none, 362), (yX3_emit, cX3_emit, 2, none, 374), (yX3_advance, cX3_advance, 1, none, 323), (yX3_isLetter, cX3_isLetter, 1, (some FieldType.boolean), 326), (yX3_isDigit, cX3_isDigit, 1, (some FieldType.boolean), 351), (yX3_signToken, cX3_signToken, 1, (some FieldType.int), 354), (yX3_wordToken, cX3_wordToken, 1, (some FieldType.int), 330), (yX3_spells, cX3_spells, 3, (some FieldType.boolean), 335)]
def q_ML_X4 : List (MethodName × ByteArray × Nat × Option FieldType × Nat) := [(yX4_init, cX4_init, 1, none, 246), (yX4_become, cX4_become, 4, none, 876), (yX4_narrowed, cX4_narrowed, 2, (some FieldType.int), 992), (yX4_holds, cX4_holds, 3, (some FieldType.boolean), 1000)]
def q_ML_X5 : List (MethodName × ByteArray × Nat × Option FieldType × Nat) := [(yX5_init, cX5_init, 2, none, 221), (yX5_has, cX5_has, 2, (some FieldType.boolean), 485), (yX5_sum, cX5_sum, 7, (some FieldType.int), 497), (yX5_armsInUse, cX5_armsInUse, 3, (some FieldType.int), 501), (yX5_become, cX5_become, 3, none, 838), (yX5_keep, cX5_keep, 2, none, 963), (yX5_restore, cX5_restore, 2, none, 976)]
def q_ML_X6 : List (MethodName × ByteArray × Nat × Option FieldType × Nat) := [(yX6_init, cX6_init, 8, none, 519), (yX6_isA, cX6_isA, 2, (some FieldType.boolean), 578), (yX6_isKind, cX6_isKind, 4, (some FieldType.boolean), 523), (yX6_startHeight, cX6_startHeight, 1, (some FieldType.int), 574), (yX6_up, cX6_up, 4, (some FieldType.int), 664), (yX6_turn, cX6_turn, 3, (some FieldType.int), 675), (yX6_less, cX6_less, 4, (some FieldType.int), 679), (yX6_wayOff, cX6_wayOff, 2, (some FieldType.int), 802), (yX6_paceOff, cX6_paceOff, 2, (some FieldType.int), 807), (yX6_bound, cX6_bound, 3, (some FieldType.int), 667)]
def q_ML_X7 : List (MethodName × ByteArray × Nat × Option FieldType × Nat) := [(yX7_init, cX7_init, 2, none, 82), (yX7_stick, cX7_stick, 1, (some FieldType.int), 463), (yX7_piece, cX7_piece, 10, (some FieldType.int), 467), (yX7_file, cX7_file, 7, (some FieldType.int), 481), (yX7_pieceTold, cX7_pieceTold, 5, (some FieldType.int), 489), (yX7_stickTold, cX7_stickTold, 4, (some FieldType.int), 493), (yX7_wind, cX7_wind, 4, (some FieldType.int), 511), (yX7_toss, cX7_toss, 11, (some FieldType.int), 515), (yX7_tossTold, cX7_tossTold, 4, (some FieldType.int), 566), (yX7_count, cX7_count, 2, (some FieldType.int), 582), (yX7_feed, cX7_feed, 5, (some FieldType.int), 586), (yX7_text, cX7_text, 2, (some FieldType.int), 590), (yX7_force, cX7_force, 3, (some FieldType.int), 594), (yX7_tick, cX7_tick, 6, (some FieldType.int), 598), (yX7_fly, cX7_fly, 5, (some FieldType.int), 688), (yX7_comes, cX7_comes, 4, (some FieldType.int), 706), (yX7_lies, cX7_lies, 3, (some FieldType.int), 714), (yX7_hovers, cX7_hovers, 3, (some FieldType.int), 722), (yX7_circle, cX7_circle, 5, (some FieldType.int), 730), (yX7_down, cX7_down, 5, (some FieldType.int), 743), (yX7_why, cX7_why, 6, (some FieldType.int), 755), (yX7_room, cX7_room, 5, (some FieldType.int), 764), (yX7_winds, cX7_winds, 6, (some FieldType.int), 775), (yX7_paces, cX7_paces, 7, (some FieldType.long), 783), (yX7_odds, cX7_odds, 10, (some FieldType.long), 788), (yX7_mean, cX7_mean, 10, (some FieldType.long), 814), (yX7_best, cX7_best, 9, (some FieldType.int), 822), (yX7_least, cX7_least, 4, (some FieldType.int), 826), (yX7_mend, cX7_mend, 5, (some FieldType.int), 843), (yX7_exchange, cX7_exchange, 9, (some FieldType.int), 847), (yX7_form, cX7_form, 6, (some FieldType.int), 851), (yX7_lead, cX7_lead, 9, (some FieldType.int), 855), (yX7_judge, cX7_judge, 5, (some FieldType.int), 859), (yX7_film, cX7_film, 8, (some FieldType.int), 871), (yX7_which, cX7_which, 6, (some FieldType.int), 880), (yX7_read, cX7_read, 6, (some FieldType.int), 892), (yX7_apart, cX7_apart, 9, (some FieldType.long), 900), (yX7_person, cX7_person, 3, (some FieldType.int), 905), (yX7_walks, cX7_walks, 4, (some FieldType.int), 917), (yX7_hit, cX7_hit, 3, (some FieldType.int), 921), (yX7_hitOdds, cX7_hitOdds, 9, (some FieldType.long), 930), (yX7_near, cX7_near, 11, (some FieldType.int), 934), (yX7_mirror, cX7_mirror, 5, (some FieldType.int), 942), (yX7_drawn, cX7_drawn, 10, (some FieldType.int), 947), (yX7_want, cX7_want, 9, (some FieldType.int), 955), (yX7_image, cX7_image, 2, (some FieldType.int), 959), (yX7_back, cX7_back, 2, (some FieldType.int), 972), (yX7_sheet, cX7_sheet, 4, (some FieldType.int), 984), (yX7_cell, cX7_cell, 5, (some FieldType.int), 988), (yX7_copy, cX7_copy, 8, (some FieldType.int), 996), (yX7_peopleBy, cX7_peopleBy, 12, (some FieldType.int), 1005), (yX7_taken, cX7_taken, 5, (some FieldType.int), 1010), (yX7_within, cX7_within, 3, (some FieldType.boolean), 474), (yX7_filedWell, cX7_filedWell, 2, (some FieldType.boolean), 477), (yX7_stickAt, cX7_stickAt, 2, (some (FieldType.object "ComesBack$Stick")), 471), (yX7_tossAt, cX7_tossAt, 2, (some (FieldType.object "ComesBack$Toss")), 570), (yX7_aim, cX7_aim, 3, none, 607), (yX7_aimTrial, cX7_aimTrial, 2, none, 834), (yX7_flown, cX7_flown, 2, (some (FieldType.object "ComesBack$Flight")), 603), (yX7_returnsAsAimed, cX7_returnsAsAimed, 2, (some FieldType.boolean), 779), (yX7_endAsAimed, cX7_endAsAimed, 1, (some FieldType.int), 818), (yX7_isHand, cX7_isHand, 2, (some FieldType.boolean), 791), (yX7_handSize, cX7_handSize, 2, (some FieldType.int), 794), (yX7_wander, cX7_wander, 6, none, 798), (yX7_lowestTerm, cX7_lowestTerm, 12, (some FieldType.long), 810), (yX7_leastFiling, cX7_leastFiling, 9, (some FieldType.int), 830), (yX7_filmRefused, cX7_filmRefused, 2, (some FieldType.int), 863), (yX7_tossesThatFit, cX7_tossesThatFit, 4, (some FieldType.int), 888), (yX7_lawsThatFit, cX7_lawsThatFit, 5, (some FieldType.int), 884), (yX7_liftsThatFit, cX7_liftsThatFit, 6, (some FieldType.int), 896)]
def q_ML_X8 : List (MethodName × ByteArray × Nat × Option FieldType × Nat) := [(yX8_init, cX8_init, 1, none, 1016), (yX8_first, cX8_first, 6, none, 1034), (yX8_in, cX8_in, 3, (some FieldType.boolean), 1249), (yX8_isStick, cX8_isStick, 2, (some FieldType.boolean), 1246), (yX8_isPiece, cX8_isPiece, 3, (some FieldType.boolean), 1257), (yX8_isThrow, cX8_isThrow, 2, (some FieldType.boolean), 1285), (yX8_stick, cX8_stick, 1, (some FieldType.int), 1238), (yX8_piece, cX8_piece, 8, (some FieldType.int), 1242), (yX8_file, cX8_file, 7, (some FieldType.int), 1253), (yX8_pieceTold, cX8_pieceTold, 5, (some FieldType.int), 1261), (yX8_sumOf, cX8_sumOf, 6, (some FieldType.int), 1269), (yX8_stickTold, cX8_stickTold, 3, (some FieldType.int), 1265), (yX8_wind, cX8_wind, 4, (some FieldType.int), 1273), (yX8_toss, cX8_toss, 7, (some FieldType.int), 1277), (yX8_highOf, cX8_highOf, 2, (some FieldType.int), 1289), (yX8_tossTold, cX8_tossTold, 3, (some FieldType.int), 1281), (yX8_count, cX8_count, 2, (some FieldType.int), 1293), (yX8_feed, cX8_feed, 5, (some FieldType.int), 1297), (yX8_letters, cX8_letters, 4, (some FieldType.long), 1310), (yX8_next, cX8_next, 5, none, 1306), (yX8_rank, cX8_rank, 1, (some FieldType.int), 1326), (yX8_puts, cX8_puts, 2, none, 1319), (yX8_unwinds, cX8_unwinds, 3, none, 1323), (yX8_holds, cX8_holds, 2, none, 1334), (yX8_opensOne, cX8_opensOne, 2, (some FieldType.boolean), 1330), (yX8_between, cX8_between, 2, (some FieldType.boolean), 1342), (yX8_signOf, cX8_signOf, 1, (some FieldType.int), 1338), (yX8_eRead, cX8_eRead, 4, (some FieldType.boolean), 1314), (yX8_text, cX8_text, 3, (some FieldType.int), 1302), (yX8_two, cX8_two, 3, (some FieldType.int), 1378), (yX8_worth, cX8_worth, 5, (some FieldType.int), 1375), (yX8_force, cX8_force, 3, (some FieldType.int), 1346), (yX8_windAt, cX8_windAt, 2, (some FieldType.int), 1371), (yX8_says, cX8_says, 6, (some FieldType.int), 1367), (yX8_within, cX8_within, 3, (some FieldType.int), 1381), (yX8_upAt, cX8_upAt, 4, (some FieldType.int), 1385), (yX8_turnAt, cX8_turnAt, 4, (some FieldType.int), 1363), (yX8_lessAt, cX8_lessAt, 4, (some FieldType.int), 1389), (yX8_goes, cX8_goes, 10, none, 1359), (yX8_fliesAs, cX8_fliesAs, 2, none, 1355), (yX8_offAt, cX8_offAt, 2, (some FieldType.int), 1397), (yX8_isBack, cX8_isBack, 2, (some FieldType.boolean), 1412), (yX8_tick, cX8_tick, 4, (some FieldType.int), 1350), (yX8_highest, cX8_highest, 3, (some FieldType.int), 1401), (yX8_fly, cX8_fly, 5, (some FieldType.int), 1393), (yX8_isNear, cX8_isNear, 1, (some FieldType.boolean), 1408), (yX8_comes, cX8_comes, 3, (some FieldType.int), 1405), (yX8_lies, cX8_lies, 3, (some FieldType.int), 1416), (yX8_hovers, cX8_hovers, 4, (some FieldType.int), 1420), (yX8_circle, cX8_circle, 8, (some FieldType.int), 1424), (yX8_down, cX8_down, 6, (some FieldType.int), 1428), (yX8_why, cX8_why, 4, (some FieldType.int), 1432), (yX8_size, cX8_size, 1, (some FieldType.int), 1439), (yX8_room, cX8_room, 5, (some FieldType.int), 1436), (yX8_winds, cX8_winds, 6, (some FieldType.int), 1443), (yX8_paces, cX8_paces, 6, (some FieldType.long), 1447), (yX8_lowest, cX8_lowest, 11, (some FieldType.long), 1463), (yX8_byHand, cX8_byHand, 4, none, 1459), (yX8_isHand, cX8_isHand, 2, (some FieldType.boolean), 1455), (yX8_odds, cX8_odds, 10, (some FieldType.long), 1452), (yX8_mean, cX8_mean, 9, (some FieldType.long), 1467), (yX8_best, cX8_best, 8, (some FieldType.int), 1471), (yX8_wouldBe, cX8_wouldBe, 7, (some FieldType.boolean), 1483), (yX8_sets, cX8_sets, 4, none, 1487), (yX8_leastOf, cX8_leastOf, 8, (some FieldType.int), 1479), (yX8_least, cX8_least, 3, (some FieldType.int), 1475), (yX8_mend, cX8_mend, 4, (some FieldType.int), 1491), (yX8_exchange, cX8_exchange, 8, (some FieldType.int), 1495), (yX8_form, cX8_form, 8, (some FieldType.int), 1499), (yX8_lead, cX8_lead, 6, (some FieldType.int), 1503), (yX8_filmWrong, cX8_filmWrong, 2, (some FieldType.int), 1511), (yX8_unlike, cX8_unlike, 3, (some FieldType.int), 1515), (yX8_judge, cX8_judge, 4, (some FieldType.int), 1507), (yX8_film, cX8_film, 5, (some FieldType.int), 1519), (yX8_which, cX8_which, 8, (some FieldType.int), 1523), (yX8_readOf, cX8_readOf, 8, (some FieldType.int), 1531), (yX8_read, cX8_read, 5, (some FieldType.int), 1527), (yX8_apart, cX8_apart, 11, (some FieldType.long), 1535), (yX8_isSpot, cX8_isSpot, 2, (some FieldType.boolean), 1542), (yX8_person, cX8_person, 3, (some FieldType.int), 1539), (yX8_walks, cX8_walks, 4, (some FieldType.int), 1546), (yX8_hitNow, cX8_hitNow, 3, (some FieldType.int), 1554), (yX8_hit, cX8_hit, 2, (some FieldType.int), 1550), (yX8_hitOdds, cX8_hitOdds, 9, (some FieldType.long), 1558), (yX8_near, cX8_near, 12, (some FieldType.int), 1562), (yX8_mirror, cX8_mirror, 3, (some FieldType.int), 1566), (yX8_drawn, cX8_drawn, 10, (some FieldType.int), 1570), (yX8_want, cX8_want, 7, (some FieldType.int), 1578), (yX8_image, cX8_image, 2, (some FieldType.int), 1582), (yX8_back, cX8_back, 2, (some FieldType.int), 1586), (yX8_sheet, cX8_sheet, 5, (some FieldType.int), 1590), (yX8_cell, cX8_cell, 4, (some FieldType.int), 1594), (yX8_copy, cX8_copy, 10, (some FieldType.int), 1598), (yX8_peopleBy, cX8_peopleBy, 9, (some FieldType.int), 1602), (yX8_isUnder, cX8_isUnder, 2, (some FieldType.boolean), 1610), (yX8_taken, cX8_taken, 3, (some FieldType.int), 1607)]
def q_ML_J6 : List (MethodName × ByteArray × Nat × Option FieldType × Nat) := [(yJ6_bitCount_0f7a4, cJ6_bitCount_0f7a4, 1, (some FieldType.int), 504)]
def q_ML_J9 : List (MethodName × ByteArray × Nat × Option FieldType × Nat) := [(yJ9_floorMod_7cf53, cJ9_floorMod_7cf53, 3, (some FieldType.int), 684), (yJ9_abs_0f7a4, cJ9_abs_0f7a4, 1, (some FieldType.int), 771), (yJ9_max_7cf53, cJ9_max_7cf53, 2, (some FieldType.int), 624), (yJ9_min_7cf53, cJ9_min_7cf53, 2, (some FieldType.int), 670)]
def q_ML_J0 : List (MethodName × ByteArray × Nat × Option FieldType × Nat) := [(yJ0_length_8abf5, cJ0_length_8abf5, 1, (some FieldType.int), 267), (yJ0_charAt_5068e, cJ0_charAt_5068e, 2, (some FieldType.char), 277), (yJ0_coder_7d493, cJ0_coder_7d493, 1, (some FieldType.byte), 271), (yJ0_isLatin1_aae02, cJ0_isLatin1_aae02, 1, (some FieldType.boolean), 281), (yJ0_checkIndex_df160, cJ0_checkIndex_df160, 2, none, 287)]
def q_ML_J1 : List (MethodName × ByteArray × Nat × Option FieldType × Nat) := [(yJ1_charAt_3b067, cJ1_charAt_3b067, 2, (some FieldType.char), 284)]
def q_ML_J2 : List (MethodName × ByteArray × Nat × Option FieldType × Nat) := [(yJ2_getChar_3b067, cJ2_getChar_3b067, 2, (some FieldType.char), 305), (yJ2_length_9d52b, cJ2_length_9d52b, 1, (some FieldType.int), 301), (yJ2_charAt_3b067, cJ2_charAt_3b067, 2, (some FieldType.char), 295), (yJ2_checkIndex_2214a, cJ2_checkIndex_2214a, 2, none, 298)]
def q_ML_J3 : List (MethodName × ByteArray × Nat × Option FieldType × Nat) := [(yJ3_checkIndex_8e157, cJ3_checkIndex_8e157, 3, (some FieldType.int), 292)]
def q_ML_L : List (MethodName × ByteArray × Nat × Option FieldType × Nat) := [(yL_law, cL_law, 4, (some .boolean), 0)]
def q_ML : Nat → List (MethodName × ByteArray × Nat × Option FieldType × Nat) := fun t => match t with
  | 0 => q_ML_X0
  | 1 => q_ML_X1
  | 2 => q_ML_X2
  | 3 => q_ML_X3
  | 4 => q_ML_X4
  | 5 => q_ML_X5
  | 6 => q_ML_X6
  | 7 => q_ML_X7
  | 8 => q_ML_X8
  | 9 => q_ML_J6
  | 10 => q_ML_J9
  | 11 => q_ML_J0
  | 12 => q_ML_J1
  | 13 => q_ML_J2
  | 14 => q_ML_J3
  | 16 => q_ML_L
  | _ => []
def q_md (M : Nat) : MethodName × ByteArray × Nat × Option FieldType × Nat := (q_ML (M / 1000)).getD (M % 1000) (⟨"", "", ""⟩, ⟨#[]⟩, 0, none, 0)
def q_cn : Nat → String := fun t => match t with
  | 0 => RX0
  | 1 => RX1
  | 2 => RX2
  | 3 => RX3
  | 4 => RX4
  | 5 => RX5
  | 6 => RX6
  | 7 => RX7
  | 8 => RX8
  | 9 => RJ6
  | 10 => RJ9
  | 11 => RJ0
  | 12 => RJ1
  | 13 => RJ2
  | 14 => RJ3
  | 15 => RJ10
  | 16 => RL
  | _ => ""
def q_fT : List (Nat × Nat × Nat × Nat × Nat) := [(2, 11, 2, 0, 100), (7, 321, 2, 0, 101), (2, 15, 2, 1, 102), (7, 324, 2, 1, 103), (2, 24, 2, 2, 104), (7, 164, 2, 2, 105), (2, 18, 2, 3, 106), (2, 21, 2, 4, 107), (2, 43, 2, 5, 108), (3, 9, 3, 0, 129), (7, 85, 3, 1, 130), (3, 17, 3, 1, 131), (3, 29, 3, 2, 132), (7, 168, 3, 2, 133), (3, 13, 3, 3, 134), (3, 26, 3, 4, 135), (3, 23, 3, 5, 136), (3, 62, 3, 6, 137), (3, 77, 3, 7, 138), (3, 74, 3, 8, 139), (0, 13, 0, 0, 168), (2, 33, 0, 0, 169), (7, 179, 0, 0, 170), (0, 78, 0, 1, 171), (2, 28, 0, 1, 172), (7, 176, 0, 1, 173), (0, 30, 0, 2, 174), (0, 40, 0, 3, 175), (7, 402, 0, 3, 176), (0, 41, 0, 4, 177), (7, 403, 0, 4, 178), (0, 49, 0, 5, 179), (7, 265, 0, 5, 180), (0, 55, 0, 6, 181), (7, 245, 0, 6, 182), (0, 58, 0, 7, 183), (7, 239, 0, 7, 184), (0, 61, 0, 8, 185), (0, 64, 0, 9, 186), (7, 341, 0, 9, 187), (0, 18, 0, 10, 188), (0, 24, 0, 11, 189), (0, 27, 0, 12, 190), (5, 17, 5, 0, 224), (7, 145, 5, 0, 225), (5, 11, 5, 1, 226), (7, 108, 5, 1, 227), (5, 14, 5, 2, 228), (5, 21, 5, 3, 229), (7, 107, 5, 3, 230), (5, 36, 5, 4, 231), (4, 9, 4, 0, 248), (0, 152, 4, 0, 249), (7, 295, 4, 0, 250), (4, 13, 4, 1, 251), (7, 375, 4, 1, 252), (4, 17, 4, 2, 253), (0, 147, 4, 2, 254), (7, 378, 4, 2, 255), (1, 7, 1, 0, 395), (1, 13, 1, 1, 396), (7, 11, 7, 0, 402), (7, 17, 7, 1, 403), (7, 23, 7, 2, 404), (7, 29, 7, 3, 405), (7, 36, 7, 4, 406), (7, 43, 7, 5, 407), (7, 50, 7, 6, 408), (7, 54, 7, 7, 409), (7, 60, 7, 8, 410), (7, 92, 7, 9, 411), (7, 129, 7, 10, 412), (7, 89, 7, 11, 413), (7, 165, 7, 12, 414), (7, 123, 7, 13, 415), (7, 126, 7, 14, 416), (7, 368, 7, 15, 417), (7, 359, 7, 16, 418), (7, 362, 7, 17, 419), (7, 365, 7, 18, 420), (6, 7, 6, 0, 526), (7, 139, 6, 0, 527), (6, 13, 6, 1, 528), (0, 34, 6, 1, 529), (7, 142, 6, 1, 530), (6, 17, 6, 2, 531), (0, 45, 6, 2, 532), (7, 148, 6, 2, 533), (6, 20, 6, 3, 534), (0, 52, 6, 3, 535), (7, 151, 6, 3, 536), (6, 23, 6, 4, 537), (0, 88, 6, 4, 538), (7, 154, 6, 4, 539), (6, 26, 6, 5, 540), (0, 85, 6, 5, 541), (7, 157, 6, 5, 542), (6, 29, 6, 6, 543), (7, 160, 6, 6, 544), (6, 36, 6, 7, 545), (8, 7, 8, 0, 1038), (8, 176, 8, 1, 1039), (8, 13, 8, 2, 1040), (8, 16, 8, 3, 1041), (8, 19, 8, 4, 1042), (8, 22, 8, 5, 1043), (8, 25, 8, 6, 1044), (8, 28, 8, 7, 1045), (8, 198, 8, 8, 1046), (8, 201, 8, 9, 1047), (8, 187, 8, 10, 1048), (8, 31, 8, 11, 1049), (8, 34, 8, 12, 1050), (8, 37, 8, 13, 1051), (8, 40, 8, 14, 1052), (8, 43, 8, 15, 1053), (8, 46, 8, 16, 1054), (8, 49, 8, 17, 1055), (8, 211, 8, 18, 1056), (8, 52, 8, 19, 1057), (8, 55, 8, 20, 1058), (8, 58, 8, 21, 1059), (8, 217, 8, 22, 1060), (8, 61, 8, 23, 1061), (8, 64, 8, 24, 1062), (8, 67, 8, 25, 1063), (8, 214, 8, 26, 1064), (8, 376, 8, 27, 1065), (8, 380, 8, 28, 1066), (8, 383, 8, 29, 1067), (8, 386, 8, 30, 1068), (8, 389, 8, 31, 1069), (8, 392, 8, 32, 1070), (8, 71, 8, 33, 1071), (8, 74, 8, 34, 1072), (8, 77, 8, 35, 1073), (8, 80, 8, 36, 1074), (8, 83, 8, 37, 1075), (8, 86, 8, 38, 1076), (8, 89, 8, 39, 1077), (8, 92, 8, 40, 1078), (8, 95, 8, 41, 1079), (8, 222, 8, 42, 1080), (8, 225, 8, 43, 1081), (8, 228, 8, 44, 1082), (8, 231, 8, 45, 1083), (8, 122, 8, 46, 1084), (8, 126, 8, 47, 1085), (8, 241, 8, 48, 1086), (8, 247, 8, 49, 1087), (8, 238, 8, 50, 1088), (8, 129, 8, 51, 1089), (8, 132, 8, 52, 1090), (8, 135, 8, 53, 1091), (8, 138, 8, 54, 1092), (8, 141, 8, 55, 1093), (8, 144, 8, 56, 1094), (8, 147, 8, 57, 1095), (8, 150, 8, 58, 1096), (8, 153, 8, 59, 1097), (8, 294, 8, 60, 1098), (8, 156, 8, 61, 1099), (8, 159, 8, 62, 1100), (8, 162, 8, 63, 1101), (8, 165, 8, 64, 1102)]
def q_sT : List (Nat × Nat × Nat × Nat) := [(11, 38, 2, 272), (11, 1053, 3, 288), (6, 40, 1, 524), (0, 125, 0, 680)]
def q_sF : List (Nat × Nat × Nat × Nat) := [(11, 9, 0, 1612), (11, 15, 1, 1613)]
def q_cT : List (Nat × Nat × Nat × Nat × Nat × Nat × Nat × Nat × Nat) := [(16, 9, 2, 7000, 0, 80, 81, 62, 0),
  (7, 1, 4, 0, 0, 83, 0, 0, 0),
  (7, 35, 3, 2000, 0, 96, 97, 63, 0),
  (2, 3, 4, 0, 0, 99, 0, 0, 0),
  (7, 42, 3, 3000, 0, 125, 126, 64, 0),
  (3, 1, 4, 0, 0, 128, 0, 0, 0),
  (7, 49, 3, 0, 0, 162, 163, 65, 0),
  (0, 3, 4, 0, 0, 165, 0, 0, 0),
  (7, 57, 2, 5000, 1, 219, 220, 66, 0),
  (5, 1, 4, 0, 0, 222, 0, 0, 0),
  (7, 64, 3, 4000, 0, 244, 245, 67, 0),
  (4, 1, 4, 0, 0, 247, 0, 0, 0),
  (7, 67, 1, 11000, 0, 264, 265, 68, 266),
  (11, 335, 1, 11002, 0, 268, 269, 68, 270),
  (7, 73, 1, 11001, 1, 274, 275, 68, 276),
  (11, 492, 1, 11003, 0, 278, 279, 68, 280),
  (11, 495, 0, 12000, 2, 282, 283, 69, 0),
  (12, 9, 0, 11004, 2, 285, 286, 68, 0),
  (11, 1059, 0, 14000, 3, 290, 291, 70, 0),
  (11, 498, 0, 13002, 2, 293, 294, 71, 0),
  (13, 67, 0, 13003, 2, 296, 297, 71, 0),
  (13, 48, 0, 13001, 1, 299, 300, 71, 0),
  (13, 414, 0, 11004, 2, 302, 286, 68, 0),
  (13, 71, 0, 13000, 2, 303, 304, 71, 0),
  (7, 77, 1, 3001, 1, 312, 313, 64, 314),
  (7, 81, 1, 3002, 0, 316, 317, 64, 318),
  (3, 32, 1, 3010, 0, 320, 322, 64, 0),
  (3, 80, 0, 3011, 1, 324, 325, 64, 0),
  (3, 84, 1, 3014, 0, 327, 329, 64, 1),
  (3, 97, 1, 3015, 1, 332, 334, 64, 2),
  (3, 123, 1, 11000, 0, 336, 265, 68, 266),
  (3, 128, 1, 11001, 1, 337, 275, 68, 276),
  (3, 88, 0, 3012, 1, 349, 350, 64, 0),
  (3, 91, 0, 3013, 1, 352, 353, 64, 0),
  (3, 35, 1, 3007, 1, 355, 357, 64, 3),
  (3, 68, 1, 3008, 0, 359, 361, 64, 4),
  (3, 39, 1, 3003, 2, 363, 365, 64, 5),
  (3, 52, 1, 3005, 1, 367, 369, 64, 6),
  (3, 65, 1, 3009, 1, 371, 373, 64, 7),
  (3, 55, 1, 3006, 1, 375, 377, 64, 8),
  (3, 71, 0, 1001, 1, 379, 380, 72, 0),
  (3, 58, 1, 3004, 1, 382, 384, 64, 9),
  (3, 43, 5, 0, 5, 386, 0, 0, 0),
  (3, 49, 2, 1000, 2, 391, 392, 72, 0),
  (1, 1, 4, 0, 0, 394, 0, 0, 0),
  (16, 13, 1, 7001, 0, 460, 461, 62, 462),
  (16, 18, 1, 7002, 5, 464, 465, 62, 466),
  (7, 95, 1, 7054, 1, 468, 470, 62, 10),
  (7, 99, 0, 7052, 3, 472, 473, 62, 0),
  (7, 103, 0, 7053, 2, 475, 476, 62, 0),
  (16, 23, 1, 7003, 4, 478, 479, 62, 480),
  (7, 112, 1, 5001, 1, 482, 483, 66, 484),
  (16, 28, 1, 7004, 3, 486, 487, 62, 488),
  (16, 33, 1, 7005, 2, 490, 491, 62, 492),
  (7, 116, 1, 5002, 2, 494, 495, 66, 496),
  (7, 120, 1, 5003, 0, 498, 499, 66, 500),
  (5, 24, 0, 9000, 1, 502, 503, 75, 0),
  (16, 38, 1, 7006, 2, 508, 509, 62, 510),
  (16, 42, 1, 7007, 5, 512, 513, 62, 514),
  (7, 132, 2, 6000, 7, 517, 518, 76, 0),
  (6, 1, 4, 0, 0, 520, 0, 0, 0),
  (6, 32, 0, 6002, 2, 521, 522, 76, 0),
  (16, 46, 1, 7008, 2, 563, 564, 62, 565),
  (7, 135, 1, 7055, 1, 567, 569, 62, 11),
  (7, 161, 1, 6003, 0, 571, 572, 76, 573),
  (6, 44, 1, 6001, 1, 575, 576, 76, 577),
  (16, 50, 1, 7009, 1, 579, 580, 62, 581),
  (16, 57, 1, 7010, 2, 583, 584, 62, 585),
  (16, 62, 1, 7011, 0, 587, 588, 62, 589),
  (16, 66, 1, 7012, 1, 591, 592, 62, 593),
  (16, 70, 1, 7013, 3, 595, 596, 62, 597),
  (7, 172, 1, 7058, 1, 600, 602, 62, 12),
  (7, 235, 1, 7056, 2, 604, 606, 62, 13),
  (7, 396, 1, 1, 4, 608, 609, 65, 610),
  (7, 331, 1, 2, 0, 612, 613, 65, 614),
  (0, 68, 1, 3, 0, 616, 618, 65, 14),
  (0, 81, 1, 6003, 0, 620, 572, 76, 573),
  (0, 93, 1, 5002, 2, 621, 495, 66, 496),
  (0, 97, 0, 10002, 2, 622, 623, 77, 0),
  (0, 102, 1, 5003, 0, 625, 499, 66, 500),
  (0, 71, 1, 4, 0, 626, 628, 65, 15),
  (0, 105, 1, 9, 0, 630, 631, 65, 632),
  (0, 75, 1, 5, 0, 634, 636, 65, 16),
  (0, 108, 1, 7, 1, 638, 639, 65, 640),
  (0, 128, 1, 6, 1, 642, 644, 65, 17),
  (0, 112, 1, 8, 1, 646, 647, 65, 648),
  (0, 134, 1, 1002, 3, 650, 651, 72, 652),
  (1, 16, 0, 1001, 1, 654, 380, 72, 0),
  (1, 20, 0, 1003, 2, 655, 656, 72, 0),
  (1, 24, 0, 1004, 3, 658, 659, 72, 0),
  (0, 116, 1, 6004, 2, 661, 662, 76, 663),
  (6, 48, 0, 6009, 3, 665, 666, 76, 0),
  (6, 61, 0, 10003, 2, 668, 669, 77, 0),
  (6, 52, 0, 10002, 2, 671, 623, 77, 0),
  (0, 119, 1, 6005, 1, 672, 673, 76, 674),
  (0, 122, 1, 6006, 2, 676, 677, 76, 678),
  (0, 131, 0, 10000, 2, 682, 683, 77, 0),
  (16, 74, 1, 7014, 2, 685, 686, 62, 687),
  (7, 182, 1, 13, 1, 689, 690, 65, 691),
  (7, 186, 1, 10, 1, 693, 694, 65, 695),
  (7, 189, 1, 9, 0, 697, 631, 65, 632),
  (7, 193, 1, 12, 0, 698, 699, 65, 700),
  (0, 138, 1, 10, 1, 702, 694, 65, 695),
  (16, 78, 1, 7015, 2, 703, 704, 62, 705),
  (7, 196, 1, 11, 1, 707, 708, 65, 709),
  (16, 82, 1, 7016, 1, 711, 712, 62, 713),
  (7, 199, 1, 15, 2, 715, 716, 65, 717),
  (16, 86, 1, 7017, 1, 719, 720, 62, 721),
  (7, 202, 1, 16, 0, 723, 724, 65, 725),
  (16, 90, 1, 7018, 2, 727, 728, 62, 729),
  (7, 205, 1, 14, 1, 731, 732, 65, 733),
  (0, 141, 0, 10003, 2, 735, 669, 77, 0),
  (7, 208, 1, 17, 0, 736, 737, 65, 738),
  (16, 94, 1, 7019, 2, 740, 741, 62, 742),
  (7, 211, 1, 18, 0, 744, 745, 65, 746),
  (7, 214, 1, 19, 0, 748, 749, 65, 750),
  (16, 98, 1, 7020, 3, 752, 753, 62, 754),
  (7, 217, 1, 7, 1, 756, 639, 65, 640),
  (7, 220, 1, 8, 1, 757, 647, 65, 648),
  (7, 223, 1, 6004, 2, 758, 662, 76, 663),
  (7, 226, 1, 6005, 1, 759, 673, 76, 674),
  (7, 229, 1, 6006, 2, 760, 677, 76, 678),
  (16, 102, 1, 7021, 3, 761, 762, 62, 763),
  (7, 232, 1, 20, 2, 765, 766, 65, 767),
  (0, 144, 0, 10001, 1, 769, 770, 77, 0),
  (16, 106, 1, 7022, 2, 772, 773, 62, 774),
  (7, 240, 1, 7059, 1, 776, 778, 62, 18),
  (16, 110, 1, 7023, 2, 780, 781, 62, 782),
  (16, 115, 1, 7024, 5, 785, 786, 62, 787),
  (7, 248, 0, 7061, 2, 789, 790, 62, 0),
  (7, 251, 0, 7062, 2, 792, 793, 62, 0),
  (7, 254, 1, 7063, 4, 795, 797, 62, 19),
  (7, 352, 1, 6007, 1, 799, 800, 76, 801),
  (6, 58, 0, 10000, 2, 803, 683, 77, 0),
  (7, 268, 1, 6008, 1, 804, 805, 76, 806),
  (7, 258, 0, 7064, 3, 808, 809, 62, 0),
  (16, 120, 1, 7025, 4, 811, 812, 62, 813),
  (7, 262, 1, 7060, 0, 815, 817, 62, 20),
  (16, 125, 1, 7026, 2, 819, 820, 62, 821),
  (16, 129, 1, 7027, 2, 823, 824, 62, 825),
  (7, 271, 1, 7065, 2, 827, 829, 62, 21),
  (7, 275, 1, 7057, 1, 831, 833, 62, 22),
  (7, 399, 1, 5004, 1, 835, 836, 66, 837),
  (5, 30, 5, 0, 5, 839, 0, 0, 0),
  (16, 133, 1, 7028, 2, 840, 841, 62, 842),
  (16, 137, 1, 7029, 2, 844, 845, 62, 846),
  (16, 141, 1, 7030, 2, 848, 849, 62, 850),
  (16, 145, 1, 7031, 2, 852, 853, 62, 854),
  (16, 149, 1, 7032, 2, 856, 857, 62, 858),
  (7, 279, 1, 7066, 1, 860, 862, 62, 23),
  (7, 282, 1, 22, 1, 864, 865, 65, 866),
  (16, 153, 1, 7033, 2, 868, 869, 62, 870),
  (7, 286, 0, 10003, 2, 872, 669, 77, 0),
  (7, 291, 1, 4001, 2, 873, 874, 67, 875),
  (16, 157, 1, 7034, 3, 877, 878, 62, 879),
  (7, 299, 1, 7068, 2, 881, 883, 62, 24),
  (7, 303, 1, 7067, 1, 885, 887, 62, 25),
  (16, 161, 1, 7035, 3, 889, 890, 62, 891),
  (7, 306, 1, 7069, 3, 893, 895, 62, 26),
  (16, 165, 1, 7036, 3, 897, 898, 62, 899),
  (7, 310, 0, 9000, 1, 901, 503, 75, 0),
  (16, 170, 1, 7037, 2, 902, 903, 62, 904),
  (7, 315, 1, 2001, 2, 906, 907, 63, 908),
  (7, 318, 1, 2002, 2, 910, 911, 63, 912),
  (16, 174, 1, 7038, 3, 914, 915, 62, 916),
  (16, 178, 1, 7039, 1, 918, 919, 62, 920),
  (7, 327, 1, 2003, 1, 922, 923, 63, 924),
  (2, 37, 0, 10001, 1, 926, 770, 77, 0),
  (16, 182, 1, 7040, 4, 927, 928, 62, 929),
  (16, 186, 1, 7041, 3, 931, 932, 62, 933),
  (7, 334, 1, 21, 2, 935, 936, 65, 937),
  (16, 190, 1, 7042, 2, 939, 940, 62, 941),
  (7, 338, 0, 10000, 2, 943, 683, 77, 0),
  (16, 194, 1, 7043, 4, 944, 945, 62, 946),
  (16, 198, 1, 7044, 2, 952, 953, 62, 954),
  (16, 202, 1, 7045, 0, 956, 957, 62, 958),
  (7, 355, 1, 5005, 0, 960, 961, 66, 962),
  (7, 358, 1, 2004, 0, 964, 965, 63, 966),
  (2, 46, 5, 0, 5, 968, 0, 0, 0),
  (16, 206, 1, 7046, 0, 969, 970, 62, 971),
  (7, 371, 1, 5006, 0, 973, 974, 66, 975),
  (7, 374, 1, 2005, 0, 977, 978, 63, 979),
  (16, 210, 1, 7047, 3, 981, 982, 62, 983),
  (16, 214, 1, 7048, 3, 985, 986, 62, 987),
  (7, 379, 1, 4002, 1, 989, 990, 67, 991),
  (16, 218, 1, 7049, 5, 993, 994, 62, 995),
  (7, 382, 1, 4003, 2, 997, 998, 67, 999),
  (7, 385, 5, 0, 5, 1001, 0, 0, 0),
  (16, 222, 1, 7050, 4, 1002, 1003, 62, 1004),
  (16, 226, 1, 7051, 2, 1007, 1008, 62, 1009),
  (7, 393, 1, 6001, 1, 1011, 576, 76, 577),
  (16, 12, 2, 8000, 0, 1014, 1015, 74, 0),
  (8, 1, 4, 0, 0, 1017, 0, 0, 0),
  (8, 169, 1, 8001, 5, 1031, 1033, 74, 27),
  (16, 17, 1, 8006, 0, 1235, 1236, 74, 1237),
  (16, 22, 1, 8007, 5, 1239, 1240, 74, 1241),
  (8, 183, 1, 8003, 1, 1243, 1245, 74, 28),
  (8, 179, 0, 8002, 3, 1247, 1248, 74, 0),
  (16, 27, 1, 8008, 4, 1250, 1251, 74, 1252),
  (8, 190, 1, 8004, 2, 1254, 1256, 74, 29),
  (16, 32, 1, 8009, 3, 1258, 1259, 74, 1260),
  (16, 37, 1, 8011, 2, 1262, 1263, 74, 1264),
  (8, 194, 1, 8010, 2, 1266, 1268, 74, 30),
  (16, 41, 1, 8012, 2, 1270, 1271, 74, 1272),
  (16, 45, 1, 8013, 5, 1274, 1275, 74, 1276),
  (16, 49, 1, 8015, 2, 1278, 1279, 74, 1280),
  (8, 204, 1, 8005, 1, 1282, 1284, 74, 31),
  (8, 207, 1, 8014, 1, 1286, 1288, 74, 32),
  (16, 54, 1, 8016, 1, 1290, 1291, 74, 1292),
  (16, 61, 1, 8017, 2, 1294, 1295, 74, 1296),
  (16, 65, 1, 8028, 0, 1299, 1300, 74, 1301),
  (8, 260, 1, 8019, 0, 1303, 1305, 74, 33),
  (8, 234, 1, 8018, 0, 1307, 1309, 74, 34),
  (8, 274, 1, 8027, 0, 1311, 1313, 74, 35),
  (8, 250, 1, 8021, 1, 1316, 1318, 74, 36),
  (8, 257, 1, 8022, 1, 1320, 1322, 74, 37),
  (8, 244, 0, 8020, 1, 1324, 1325, 74, 0),
  (8, 264, 1, 8024, 1, 1327, 1329, 74, 38),
  (8, 254, 1, 8023, 1, 1331, 1333, 74, 39),
  (8, 267, 1, 8026, 0, 1335, 1337, 74, 40),
  (8, 271, 1, 8025, 1, 1339, 1341, 74, 41),
  (16, 69, 1, 8031, 1, 1343, 1344, 74, 1345),
  (16, 73, 1, 8042, 3, 1347, 1348, 74, 1349),
  (8, 314, 1, 8039, 1, 1352, 1354, 74, 42),
  (8, 306, 1, 8038, 4, 1356, 1358, 74, 43),
  (8, 297, 1, 8036, 2, 1360, 1362, 74, 44),
  (8, 288, 1, 8033, 3, 1364, 1366, 74, 45),
  (8, 282, 1, 8032, 1, 1368, 1370, 74, 46),
  (8, 285, 1, 8030, 1, 1372, 1374, 74, 47),
  (8, 278, 0, 8029, 3, 1376, 1377, 74, 0),
  (8, 291, 0, 8034, 3, 1379, 1380, 74, 0),
  (8, 300, 1, 8035, 2, 1382, 1384, 74, 48),
  (8, 303, 1, 8037, 2, 1386, 1388, 74, 49),
  (16, 77, 1, 8044, 2, 1390, 1391, 74, 1392),
  (8, 310, 1, 8040, 1, 1394, 1396, 74, 50),
  (8, 317, 1, 8043, 0, 1398, 1400, 74, 51),
  (16, 81, 1, 8046, 2, 1402, 1403, 74, 1404),
  (8, 320, 0, 8045, 1, 1406, 1407, 74, 0),
  (8, 323, 1, 8041, 1, 1409, 1411, 74, 52),
  (16, 85, 1, 8047, 1, 1413, 1414, 74, 1415),
  (16, 89, 1, 8048, 1, 1417, 1418, 74, 1419),
  (16, 93, 1, 8049, 2, 1421, 1422, 74, 1423),
  (16, 97, 1, 8050, 2, 1425, 1426, 74, 1427),
  (16, 101, 1, 8051, 3, 1429, 1430, 74, 1431),
  (16, 105, 1, 8053, 3, 1433, 1434, 74, 1435),
  (8, 326, 0, 8052, 1, 1437, 1438, 74, 0),
  (16, 109, 1, 8054, 2, 1440, 1441, 74, 1442),
  (16, 114, 1, 8055, 2, 1444, 1445, 74, 1446),
  (16, 119, 1, 8059, 5, 1449, 1450, 74, 1451),
  (8, 331, 0, 8058, 2, 1453, 1454, 74, 0),
  (8, 334, 1, 8057, 3, 1456, 1458, 74, 53),
  (8, 340, 0, 8056, 3, 1461, 1462, 74, 0),
  (16, 124, 1, 8060, 4, 1464, 1465, 74, 1466),
  (16, 128, 1, 8061, 2, 1468, 1469, 74, 1470),
  (16, 132, 1, 8065, 2, 1472, 1473, 74, 1474),
  (8, 351, 1, 8064, 2, 1476, 1478, 74, 54),
  (8, 347, 1, 8062, 5, 1480, 1482, 74, 55),
  (8, 344, 1, 8063, 3, 1484, 1486, 74, 56),
  (16, 136, 1, 8066, 2, 1488, 1489, 74, 1490),
  (16, 140, 1, 8067, 2, 1492, 1493, 74, 1494),
  (16, 144, 1, 8068, 2, 1496, 1497, 74, 1498),
  (16, 148, 1, 8069, 2, 1500, 1501, 74, 1502),
  (16, 152, 1, 8072, 2, 1504, 1505, 74, 1506),
  (8, 354, 1, 8070, 1, 1508, 1510, 74, 57),
  (8, 357, 1, 8071, 1, 1512, 1514, 74, 58),
  (16, 156, 1, 8073, 2, 1516, 1517, 74, 1518),
  (16, 160, 1, 8074, 3, 1520, 1521, 74, 1522),
  (16, 164, 1, 8076, 3, 1524, 1525, 74, 1526),
  (8, 360, 1, 8075, 3, 1528, 1530, 74, 59),
  (16, 169, 1, 8077, 3, 1532, 1533, 74, 1534),
  (16, 173, 1, 8079, 2, 1536, 1537, 74, 1538),
  (8, 363, 0, 8078, 2, 1540, 1541, 74, 0),
  (16, 177, 1, 8080, 3, 1543, 1544, 74, 1545),
  (16, 181, 1, 8082, 1, 1547, 1548, 74, 1549),
  (8, 366, 1, 8081, 0, 1551, 1553, 74, 60),
  (16, 185, 1, 8083, 4, 1555, 1556, 74, 1557),
  (16, 189, 1, 8084, 3, 1559, 1560, 74, 1561),
  (16, 193, 1, 8085, 2, 1563, 1564, 74, 1565),
  (16, 197, 1, 8086, 4, 1567, 1568, 74, 1569),
  (16, 201, 1, 8087, 2, 1575, 1576, 74, 1577),
  (16, 205, 1, 8088, 0, 1579, 1580, 74, 1581),
  (16, 209, 1, 8089, 0, 1583, 1584, 74, 1585),
  (16, 213, 1, 8090, 3, 1587, 1588, 74, 1589),
  (16, 217, 1, 8091, 3, 1591, 1592, 74, 1593),
  (16, 221, 1, 8092, 5, 1595, 1596, 74, 1597),
  (16, 225, 1, 8093, 4, 1599, 1600, 74, 1601),
  (8, 395, 1, 8079, 2, 1603, 1537, 74, 1538),
  (16, 229, 1, 8095, 2, 1604, 1605, 74, 1606),
  (8, 398, 0, 8094, 2, 1608, 1609, 74, 0)]
def q_kI : List (Nat × Nat × Int32 × Nat) := [(9, 265, 1431655765, 505), (9, 266, 858993459, 506), (9, 267, 252645135, 507), (7, 171, (-1000000), 599), (7, 345, 99999, 948), (8, 168, 100006, 1030), (8, 173, 100002, 1035), (8, 174, 100010, 1036), (8, 175, 100001, 1037), (8, 263, 100000, 1315), (8, 313, (-1000000), 1351), (8, 369, 99999, 1571)]
def q_kJ : List (Nat × Nat × Int64 × Nat) := [(7, 243, (-4611686018427387904), 784), (7, 346, 48271, 949), (7, 348, 2147483647, 950), (7, 350, 7, 951), (7, 391, 2, 1006), (8, 98, 1818846836, 1018), (8, 100, 1953854062, 1019), (8, 102, 1936486263, 1020), (8, 104, 495806932324, 1021), (8, 106, 1936746862, 1022), (8, 108, 1953066100, 1023), (8, 110, 1751738216, 1024), (8, 112, 495874302827, 1025), (8, 114, 2003398244, 1026), (8, 116, 28530, 1027), (8, 118, 6385252, 1028), (8, 120, 7237492, 1029), (8, 220, 255, 1298), (8, 329, (-4611686018427387904), 1448), (8, 338, 2, 1460), (8, 370, 48271, 1572), (8, 372, 2147483647, 1573), (8, 374, 7, 1574), (16, 55, 4294967295, 1611)]
def q_kS : List (Nat × Nat × String × Nat) := [(7, 65, "lift tilt - 6 + stick ; turn 2 + (spin < 10) ; slow 1 + stick ;", 263), (3, 95, "speed", 331), (3, 101, "spin", 338), (3, 103, "tilt", 339), (3, 105, "high", 340), (3, 107, "stick", 341), (3, 109, "wind", 342), (3, 111, "or", 343), (3, 113, "and", 344), (3, 115, "not", 345), (3, 117, "lift", 346), (3, 119, "turn", 347), (3, 121, "slow", 348)]
def q_nT : List (Nat × Nat × Nat × Nat × Nat × Nat) := [(16, 7, 7, 78, 79, 62), (7, 9, 5, 86, 218, 66), (7, 15, 6, 88, 516, 76), (7, 21, 1, 90, 390, 72), (7, 27, 4, 92, 243, 67), (7, 33, 2, 94, 95, 63), (7, 40, 3, 123, 124, 64), (7, 47, 0, 160, 161, 65), (3, 21, 1, 389, 390, 72), (16, 10, 8, 1012, 1013, 74)]
def q_mT : List (Nat × Nat × Nat) := [(0, 11, 166), (5, 9, 223)]
