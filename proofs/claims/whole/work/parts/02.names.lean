def RX0 : String := "KineticCup$Cup"
def TX0 : u_T := fun k => match k with
  | 0 => ("KineticCup$Cup", "kind", "[I", true)
  | 1 => ("KineticCup$Cup", "place", "[I", true)
  | 2 => ("KineticCup$Cup", "base", "[I", true)
  | 3 => ("KineticCup$Cup", "slope", "[I", true)
  | 4 => ("KineticCup$Cup", "in", "[Z", true)
  | 5 => ("KineticCup$Cup", "best", "[I", true)
  | 6 => ("KineticCup$Cup", "queue", "LKineticCup$Queue;", true)
  | 7 => ("KineticCup$Cup", "tally", "LKineticCup$Tally;", true)
  | _ => ("KineticCup$Cup", "second", "I", false)
def tyX0 : Nat → FieldType := fun k => match k with
  | 0 => .array .int
  | 1 => .array .int
  | 2 => .array .int
  | 3 => .array .int
  | 4 => .array .boolean
  | 5 => .array .int
  | 6 => .object "KineticCup$Queue"
  | 7 => .object "KineticCup$Tally"
  | _ => .int
theorem nmX0 : ∀ a, a < 9 → ∀ b, b < 9 → a ≠ b → (TX0 a).2.1 ≠ (TX0 b).2.1 := by decide +kernel
theorem tyX0_ok : ∀ k, k < 9 → parseFieldDescriptor (TX0 k).2.2.1 = some (tyX0 k) := by decide +kernel
def RX1 : String := "KineticCup$Image"
def TX1 : u_T := fun k => match k with
  | 0 => ("KineticCup$Image", "cup", "LKineticCup$Cup;", true)
  | 1 => ("KineticCup$Image", "sights", "LKineticCup$Sights;", true)
  | _ => ("KineticCup$Image", "kept", "Z", false)
def tyX1 : Nat → FieldType := fun k => match k with
  | 0 => .object "KineticCup$Cup"
  | 1 => .object "KineticCup$Sights"
  | _ => .boolean
theorem nmX1 : ∀ a, a < 3 → ∀ b, b < 3 → a ≠ b → (TX1 a).2.1 ≠ (TX1 b).2.1 := by decide +kernel
theorem tyX1_ok : ∀ k, k < 3 → parseFieldDescriptor (TX1 k).2.2.1 = some (tyX1 k) := by decide +kernel
def RX2 : String := "KineticCup$Nearest"
def TX2 : u_T := fun k => match k with
  | _ => ("", "", "", false)
def tyX2 : Nat → FieldType := fun k => match k with
  | _ => .int
theorem nmX2 : ∀ a, a < 0 → ∀ b, b < 0 → a ≠ b → (TX2 a).2.1 ≠ (TX2 b).2.1 := by decide +kernel
theorem tyX2_ok : ∀ k, k < 0 → parseFieldDescriptor (TX2 k).2.2.1 = some (tyX2 k) := by decide +kernel
def RX3 : String := "KineticCup$Pad"
def TX3 : u_T := fun k => match k with
  | 0 => ("KineticCup$Pad", "signs", "[I", true)
  | _ => ("KineticCup$Pad", "length", "I", false)
def tyX3 : Nat → FieldType := fun k => match k with
  | 0 => .array .int
  | _ => .int
theorem nmX3 : ∀ a, a < 2 → ∀ b, b < 2 → a ≠ b → (TX3 a).2.1 ≠ (TX3 b).2.1 := by decide +kernel
theorem tyX3_ok : ∀ k, k < 2 → parseFieldDescriptor (TX3 k).2.2.1 = some (tyX3 k) := by decide +kernel
def RX4 : String := "KineticCup$Queue"
def TX4 : u_T := fun k => match k with
  | 0 => ("KineticCup$Queue", "match", "[I", true)
  | 1 => ("KineticCup$Queue", "upper", "[I", true)
  | 2 => ("KineticCup$Queue", "lower", "[I", true)
  | 3 => ("KineticCup$Queue", "serial", "[I", true)
  | 4 => ("KineticCup$Queue", "lastSerial", "[I", true)
  | 5 => ("KineticCup$Queue", "size", "I", false)
  | _ => ("KineticCup$Queue", "made", "I", false)
def tyX4 : Nat → FieldType := fun k => match k with
  | 0 => .array .int
  | 1 => .array .int
  | 2 => .array .int
  | 3 => .array .int
  | 4 => .array .int
  | 5 => .int
  | _ => .int
theorem nmX4 : ∀ a, a < 7 → ∀ b, b < 7 → a ≠ b → (TX4 a).2.1 ≠ (TX4 b).2.1 := by decide +kernel
theorem tyX4_ok : ∀ k, k < 7 → parseFieldDescriptor (TX4 k).2.2.1 = some (tyX4 k) := by decide +kernel
def RX5 : String := "KineticCup$Rehearsal"
def TX5 : u_T := fun k => match k with
  | 0 => ("KineticCup$Rehearsal", "cup", "LKineticCup$Cup;", true)
  | 1 => ("KineticCup$Rehearsal", "acts", "I", false)
  | 2 => ("KineticCup$Rehearsal", "stoppedAct", "I", false)
  | _ => ("KineticCup$Rehearsal", "stoppedWhy", "I", false)
def tyX5 : Nat → FieldType := fun k => match k with
  | 0 => .object "KineticCup$Cup"
  | 1 => .int
  | 2 => .int
  | _ => .int
theorem nmX5 : ∀ a, a < 4 → ∀ b, b < 4 → a ≠ b → (TX5 a).2.1 ≠ (TX5 b).2.1 := by decide +kernel
theorem tyX5_ok : ∀ k, k < 4 → parseFieldDescriptor (TX5 k).2.2.1 = some (tyX5 k) := by decide +kernel
def RX6 : String := "KineticCup$Search"
def TX6 : u_T := fun k => match k with
  | 0 => ("KineticCup$Search", "codes", "[I", true)
  | 1 => ("KineticCup$Search", "linesAtKey", "[I", true)
  | 2 => ("KineticCup$Search", "size", "I", false)
  | 3 => ("KineticCup$Search", "look", "I", false)
  | _ => ("KineticCup$Search", "left", "I", false)
def tyX6 : Nat → FieldType := fun k => match k with
  | 0 => .array .int
  | 1 => .array .int
  | 2 => .int
  | 3 => .int
  | _ => .int
theorem nmX6 : ∀ a, a < 5 → ∀ b, b < 5 → a ≠ b → (TX6 a).2.1 ≠ (TX6 b).2.1 := by decide +kernel
theorem tyX6_ok : ∀ k, k < 5 → parseFieldDescriptor (TX6 k).2.2.1 = some (tyX6 k) := by decide +kernel
def RX7 : String := "KineticCup$Sights"
def TX7 : u_T := fun k => match k with
  | 0 => ("KineticCup$Sights", "time", "[I", true)
  | 1 => ("KineticCup$Sights", "key", "[I", true)
  | 2 => ("KineticCup$Sights", "atLeast", "[Z", true)
  | _ => ("KineticCup$Sights", "size", "I", false)
def tyX7 : Nat → FieldType := fun k => match k with
  | 0 => .array .int
  | 1 => .array .int
  | 2 => .array .boolean
  | _ => .int
theorem nmX7 : ∀ a, a < 4 → ∀ b, b < 4 → a ≠ b → (TX7 a).2.1 ≠ (TX7 b).2.1 := by decide +kernel
theorem tyX7_ok : ∀ k, k < 4 → parseFieldDescriptor (TX7 k).2.2.1 = some (tyX7 k) := by decide +kernel
def RX8 : String := "KineticCup$Tally"
def TX8 : u_T := fun k => match k with
  | 0 => ("KineticCup$Tally", "taken", "I", false)
  | 1 => ("KineticCup$Tally", "stale", "I", false)
  | 2 => ("KineticCup$Tally", "events", "I", false)
  | 3 => ("KineticCup$Tally", "eventAct", "I", false)
  | _ => ("KineticCup$Tally", "eventMatch", "I", false)
def tyX8 : Nat → FieldType := fun k => match k with
  | 0 => .int
  | 1 => .int
  | 2 => .int
  | 3 => .int
  | _ => .int
theorem nmX8 : ∀ a, a < 5 → ∀ b, b < 5 → a ≠ b → (TX8 a).2.1 ≠ (TX8 b).2.1 := by decide +kernel
theorem tyX8_ok : ∀ k, k < 5 → parseFieldDescriptor (TX8 k).2.2.1 = some (tyX8 k) := by decide +kernel
def RX9 : String := "KineticCup"
def TX9 : u_T := fun k => match k with
  | 0 => ("KineticCup", "cup", "LKineticCup$Cup;", true)
  | 1 => ("KineticCup", "pad", "LKineticCup$Pad;", true)
  | 2 => ("KineticCup", "sights", "LKineticCup$Sights;", true)
  | 3 => ("KineticCup", "rehearsal", "LKineticCup$Rehearsal;", true)
  | 4 => ("KineticCup", "search", "LKineticCup$Search;", true)
  | _ => ("KineticCup", "images", "[LKineticCup$Image;", true)
def tyX9 : Nat → FieldType := fun k => match k with
  | 0 => .object "KineticCup$Cup"
  | 1 => .object "KineticCup$Pad"
  | 2 => .object "KineticCup$Sights"
  | 3 => .object "KineticCup$Rehearsal"
  | 4 => .object "KineticCup$Search"
  | _ => .array (.object "KineticCup$Image")
theorem nmX9 : ∀ a, a < 6 → ∀ b, b < 6 → a ≠ b → (TX9 a).2.1 ≠ (TX9 b).2.1 := by decide +kernel
theorem tyX9_ok : ∀ k, k < 6 → parseFieldDescriptor (TX9 k).2.2.1 = some (tyX9 k) := by decide +kernel
def RX10 : String := "KineticCupModel"
def TX10 : u_T := fun k => match k with
  | 0 => ("KineticCupModel", "book", "[I", true)
  | 1 => ("KineticCupModel", "now", "[I", true)
  | 2 => ("KineticCupModel", "sights", "I", false)
  | 3 => ("KineticCupModel", "sight", "[I", true)
  | 4 => ("KineticCupModel", "signs", "I", false)
  | 5 => ("KineticCupModel", "pad", "[I", true)
  | 6 => ("KineticCupModel", "taken", "I", false)
  | 7 => ("KineticCupModel", "stale", "I", false)
  | 8 => ("KineticCupModel", "events", "I", false)
  | 9 => ("KineticCupModel", "eventAt", "I", false)
  | 10 => ("KineticCupModel", "eventMatch", "I", false)
  | 11 => ("KineticCupModel", "reason", "I", false)
  | 12 => ("KineticCupModel", "acts", "I", false)
  | 13 => ("KineticCupModel", "nextUp", "I", false)
  | 14 => ("KineticCupModel", "nextLow", "I", false)
  | 15 => ("KineticCupModel", "foundUp", "I", false)
  | 16 => ("KineticCupModel", "foundLow", "I", false)
  | 17 => ("KineticCupModel", "fitting", "[I", true)
  | 18 => ("KineticCupModel", "image", "[I", true)
  | _ => ("KineticCupModel", "isKept", "[Z", true)
def tyX10 : Nat → FieldType := fun k => match k with
  | 0 => .array .int
  | 1 => .array .int
  | 2 => .int
  | 3 => .array .int
  | 4 => .int
  | 5 => .array .int
  | 6 => .int
  | 7 => .int
  | 8 => .int
  | 9 => .int
  | 10 => .int
  | 11 => .int
  | 12 => .int
  | 13 => .int
  | 14 => .int
  | 15 => .int
  | 16 => .int
  | 17 => .array .int
  | 18 => .array .int
  | _ => .array .boolean
theorem nmX10 : ∀ a, a < 20 → ∀ b, b < 20 → a ≠ b → (TX10 a).2.1 ≠ (TX10 b).2.1 := by decide +kernel
theorem tyX10_ok : ∀ k, k < 20 → parseFieldDescriptor (TX10 k).2.2.1 = some (tyX10 k) := by decide +kernel
def xcn : List String := ["KineticCup$Cup", "KineticCup$Image", "KineticCup$Pad", "KineticCup$Queue", "KineticCup$Rehearsal", "KineticCup$Search", "KineticCup$Sights", "KineticCup$Tally", "KineticCup", "KineticCupModel", "KineticCup$Nearest", "KineticCupLaw", "java/lang/Math", "java/util/Arrays"]
def xnm (c : Nat) : String := xcn.getD c ""
def xcl : List vw_C := [(RX0, TX0, 9), (RX1, TX1, 3), (RX3, TX3, 2), (RX4, TX4, 7), (RX5, TX5, 4), (RX6, TX6, 5), (RX7, TX7, 4), (RX8, TX8, 5), (RX9, TX9, 6), (RX10, TX10, 20)]
abbrev xM : Type := MethodName × ByteArray × Nat × Option FieldType × Nat × Nat × Nat
def xtab_0 : List xM := [
  (⟨"KineticCupLaw", "law", "([I)Z"⟩, code, 4, (some .boolean), 11, 10, 402),
  (⟨"KineticCup$Cup", "<init>", "()V"⟩, prog_2_method_1_code, 2, none, 0, 5, 114),
  (⟨"KineticCup$Cup", "beginAnew", "()V"⟩, prog_2_method_21_code, 2, none, 0, 4, 93),
  (⟨"KineticCup$Cup", "decide", "(III)Z"⟩, prog_2_method_23_code, 8, (some .boolean), 0, 3, 66),
  (⟨"KineticCup$Cup", "comer", "(I)I"⟩, prog_2_method_24_code, 2, (some .int), 0, 2, 41),
  (⟨"KineticCup$Cup", "bestOf", "(I)I"⟩, prog_2_method_8_code, 2, (some .int), 0, 1, 20),
  (⟨"KineticCup$Cup", "whoIsInOn", "(I)I"⟩, prog_2_method_25_code, 3, (some .int), 0, 0, 0),
  (⟨"KineticCup$Cup", "ahead", "(IIII)I"⟩, prog_2_method_26_code, 6, (some .int), 0, 1, 20),
  (⟨"KineticCup$Cup", "certify", "(III)V"⟩, prog_2_method_27_code, 4, none, 0, 2, 43),
  (⟨"KineticCup$Cup", "placeOf", "(I)I"⟩, prog_2_method_4_code, 2, (some .int), 0, 1, 20),
  (⟨"KineticCup$Cup", "laneTakes", "(II)Z"⟩, prog_2_method_12_code, 2, (some .boolean), 0, 0, 0),
  (⟨"KineticCup$Cup", "kindOf", "(I)I"⟩, prog_2_method_3_code, 2, (some .int), 0, 1, 20),
  (⟨"KineticCup$Cup", "inOf", "(I)I"⟩, prog_2_method_7_code, 2, (some .int), 0, 1, 20),
  (⟨"KineticCup$Cup", "enroll", "(IIII)V"⟩, prog_2_method_13_code, 5, none, 0, 5, 114),
  (⟨"KineticCup$Cup", "copy", "(LKineticCup$Cup;)V"⟩, prog_2_method_2_code, 3, none, 0, 2, 49),
  (⟨"KineticCup$Cup", "tally", "()LKineticCup$Tally;"⟩, prog_2_method_11_code, 1, (some (.object "KineticCup$Tally")), 0, 0, 0),
  (⟨"KineticCup$Cup", "hindrance", "(III)I"⟩, prog_2_method_14_code, 4, (some .int), 0, 3, 64),
  (⟨"KineticCup$Cup", "swapHindrance", "(II)I"⟩, prog_2_method_15_code, 4, (some .int), 0, 2, 41),
  (⟨"KineticCup$Cup", "pushHindrance", "(II)I"⟩, prog_2_method_16_code, 4, (some .int), 0, 2, 41),
  (⟨"KineticCup$Cup", "slopeOf", "(I)I"⟩, prog_2_method_6_code, 2, (some .int), 0, 1, 20),
  (⟨"KineticCup$Cup", "perform", "(IIII)V"⟩, prog_2_method_17_code, 8, none, 0, 5, 121),
  (⟨"KineticCup$Cup", "change", "(III)V"⟩, prog_2_method_18_code, 4, none, 0, 2, 43),
  (⟨"KineticCup$Cup", "push", "(II)V"⟩, prog_2_method_19_code, 3, none, 0, 1, 20),
  (⟨"KineticCup$Cup", "swap", "(II)V"⟩, prog_2_method_20_code, 4, none, 0, 1, 20),
  (⟨"KineticCup$Cup", "takeDue", "(II)Z"⟩, prog_2_method_22_code, 9, (some .boolean), 0, 4, 93),
  (⟨"KineticCup$Cup", "baseOf", "(I)I"⟩, prog_2_method_5_code, 2, (some .int), 0, 1, 20),
  (⟨"KineticCup$Cup", "second", "()I"⟩, prog_2_method_9_code, 1, (some .int), 0, 0, 0),
  (⟨"KineticCup$Cup", "leaderAt", "(II)I"⟩, prog_2_method_29_code, 5, (some .int), 0, 2, 45),
  (⟨"KineticCup$Cup", "queue", "()LKineticCup$Queue;"⟩, prog_2_method_10_code, 1, (some (.object "KineticCup$Queue")), 0, 0, 0),
  (⟨"KineticCup$Cup", "leadersUpTo", "(II)I"⟩, prog_2_method_30_code, 6, (some .int), 0, 4, 98),
  (⟨"KineticCup$Cup", "successor", "(III)I"⟩, prog_2_method_31_code, 10, (some .int), 0, 3, 69),
  (⟨"KineticCup$Cup", "keyOf", "(III)I"⟩, prog_2_method_28_code, 4, (some .int), 0, 2, 41),
  (⟨"KineticCup$Image", "<init>", "()V"⟩, prog_3_method_1_code, 1, none, 1, 6, 135),
  (⟨"KineticCup$Image", "keep", "(LKineticCup$Cup;LKineticCup$Sights;)V"⟩, prog_3_method_2_code, 3, none, 1, 3, 71),
  (⟨"KineticCup$Image", "giveBack", "(LKineticCup$Cup;LKineticCup$Sights;)Z"⟩, prog_3_method_3_code, 3, (some .boolean), 1, 3, 71),
  (⟨"KineticCup$Pad", "<init>", "()V"⟩, prog_5_method_1_code, 1, none, 2, 1, 20),
  (⟨"KineticCup$Pad", "add", "(I)Z"⟩, prog_5_method_4_code, 2, (some .boolean), 2, 0, 0),
  (⟨"KineticCup$Pad", "length", "()I"⟩, prog_5_method_2_code, 1, (some .int), 2, 0, 0),
  (⟨"KineticCup$Pad", "clear", "()V"⟩, prog_5_method_3_code, 1, none, 2, 0, 0),
  (⟨"KineticCup$Pad", "firstFault", "()I"⟩, prog_5_method_7_code, 4, (some .int), 2, 3, 63),
  (⟨"KineticCup$Pad", "faultOfActAt", "(I)I"⟩, prog_5_method_8_code, 2, (some .int), 2, 2, 42),
  (⟨"KineticCup$Pad", "signAt", "(I)I"⟩, prog_5_method_5_code, 2, (some .int), 2, 0, 0),
  (⟨"KineticCup$Pad", "isLetterAt", "(I)Z"⟩, prog_5_method_6_code, 2, (some .boolean), 2, 1, 21),
  (⟨"KineticCup$Pad", "lengthAt", "(I)I"⟩, prog_5_method_9_code, 2, (some .int), 2, 2, 42),
  (⟨"KineticCup$Pad", "deedAt", "(I)I"⟩, prog_5_method_10_code, 2, (some .int), 2, 1, 21),
  (⟨"KineticCup$Pad", "runnerAt", "(I)I"⟩, prog_5_method_11_code, 2, (some .int), 2, 1, 21),
  (⟨"KineticCup$Pad", "otherAt", "(I)I"⟩, prog_5_method_12_code, 2, (some .int), 2, 1, 21),
  (⟨"KineticCup$Queue", "<init>", "()V"⟩, prog_6_method_1_code, 1, none, 3, 1, 20)]
def xtab_1 : List xM := [
  (⟨"KineticCup$Queue", "clear", "()V"⟩, prog_6_method_3_code, 1, none, 3, 1, 23),
  (⟨"KineticCup$Queue", "disown", "(I)V"⟩, prog_6_method_5_code, 2, none, 3, 1, 20),
  (⟨"KineticCup$Queue", "put", "(III)V"⟩, prog_6_method_6_code, 4, none, 3, 1, 20),
  (⟨"KineticCup$Queue", "copy", "(LKineticCup$Queue;)V"⟩, prog_6_method_2_code, 2, none, 3, 1, 28),
  (⟨"KineticCup$Queue", "earliest", "(Z)I"⟩, prog_6_method_13_code, 4, (some .int), 3, 3, 66),
  (⟨"KineticCup$Queue", "isOwn", "(I)Z"⟩, prog_6_method_12_code, 3, (some .boolean), 3, 2, 42),
  (⟨"KineticCup$Queue", "matchOf", "(I)I"⟩, prog_6_method_9_code, 2, (some .int), 3, 1, 21),
  (⟨"KineticCup$Queue", "isHere", "(I)Z"⟩, prog_6_method_8_code, 2, (some .boolean), 3, 0, 0),
  (⟨"KineticCup$Queue", "isSooner", "(II)Z"⟩, prog_6_method_14_code, 5, (some .boolean), 3, 2, 42),
  (⟨"KineticCup$Queue", "upperOf", "(I)I"⟩, prog_6_method_10_code, 2, (some .int), 3, 1, 21),
  (⟨"KineticCup$Queue", "lowerOf", "(I)I"⟩, prog_6_method_11_code, 2, (some .int), 3, 1, 21),
  (⟨"KineticCup$Queue", "remove", "(I)V"⟩, prog_6_method_7_code, 3, none, 3, 1, 21),
  (⟨"KineticCup$Queue", "size", "()I"⟩, prog_6_method_4_code, 1, (some .int), 3, 0, 0),
  (⟨"KineticCup$Rehearsal", "<init>", "()V"⟩, prog_7_method_1_code, 1, none, 4, 6, 135),
  (⟨"KineticCup$Rehearsal", "play", "(LKineticCup$Cup;LKineticCup$Pad;)Z"⟩, prog_7_method_7_code, 7, (some .boolean), 4, 6, 148),
  (⟨"KineticCup$Rehearsal", "begin", "(LKineticCup$Cup;)V"⟩, prog_7_method_6_code, 2, none, 4, 3, 71),
  (⟨"KineticCup$Rehearsal", "stoppedAct", "()I"⟩, prog_7_method_4_code, 1, (some .int), 4, 0, 0),
  (⟨"KineticCup$Rehearsal", "stoppedWhy", "()I"⟩, prog_7_method_5_code, 1, (some .int), 4, 0, 0),
  (⟨"KineticCup$Rehearsal", "cup", "()LKineticCup$Cup;"⟩, prog_7_method_2_code, 1, (some (.object "KineticCup$Cup")), 4, 0, 0),
  (⟨"KineticCup$Rehearsal", "acts", "()I"⟩, prog_7_method_3_code, 1, (some .int), 4, 0, 0),
  (⟨"KineticCup$Rehearsal", "draw", "(LKineticCup$Cup;II)V"⟩, prog_7_method_8_code, 9, none, 4, 6, 148),
  (⟨"KineticCup$Search", "<init>", "()V"⟩, prog_8_method_1_code, 1, none, 5, 1, 20),
  (⟨"KineticCup$Search", "gather", "(LKineticCup$Sights;)V"⟩, prog_8_method_6_code, 4, none, 5, 1, 23),
  (⟨"KineticCup$Search", "size", "()I"⟩, prog_8_method_2_code, 1, (some .int), 5, 0, 0),
  (⟨"KineticCup$Search", "codeOf", "(I)I"⟩, prog_8_method_3_code, 2, (some .int), 5, 0, 0),
  (⟨"KineticCup$Search", "weigh", "()V"⟩, prog_8_method_7_code, 5, none, 5, 2, 49),
  (⟨"KineticCup$Search", "countAt", "(I)V"⟩, prog_8_method_8_code, 7, none, 5, 1, 23),
  (⟨"KineticCup$Search", "look", "()I"⟩, prog_8_method_4_code, 1, (some .int), 5, 0, 0),
  (⟨"KineticCup$Search", "left", "()I"⟩, prog_8_method_5_code, 1, (some .int), 5, 0, 0),
  (⟨"KineticCup$Sights", "<init>", "()V"⟩, prog_9_method_1_code, 1, none, 6, 1, 20),
  (⟨"KineticCup$Sights", "add", "(IIZ)Z"⟩, prog_9_method_5_code, 4, (some .boolean), 6, 0, 0),
  (⟨"KineticCup$Sights", "size", "()I"⟩, prog_9_method_3_code, 1, (some .int), 6, 0, 0),
  (⟨"KineticCup$Sights", "clear", "()V"⟩, prog_9_method_4_code, 1, none, 6, 0, 0),
  (⟨"KineticCup$Sights", "allow", "(II)Z"⟩, prog_9_method_6_code, 4, (some .boolean), 6, 0, 0),
  (⟨"KineticCup$Sights", "copy", "(LKineticCup$Sights;)V"⟩, prog_9_method_2_code, 3, none, 6, 1, 28),
  (⟨"KineticCup$Tally", "<init>", "()V"⟩, prog_10_method_1_code, 1, none, 7, 1, 20),
  (⟨"KineticCup$Tally", "clear", "()V"⟩, prog_10_method_2_code, 1, none, 7, 0, 0),
  (⟨"KineticCup$Tally", "count", "(ZII)V"⟩, prog_10_method_3_code, 4, none, 7, 0, 0),
  (⟨"KineticCup", "<init>", "()V"⟩, prog_1_method_1_code, 2, none, 8, 7, 155),
  (⟨"KineticCup", "isMatch", "(I)Z"⟩, prog_1_method_30_code, 1, (some .boolean), 8, 0, 0),
  (⟨"KineticCup", "isRunner", "(I)Z"⟩, prog_1_method_29_code, 1, (some .boolean), 8, 0, 0),
  (⟨"KineticCup", "runner", "(IIII)I"⟩, prog_1_method_2_code, 6, (some .int), 8, 6, 138),
  (⟨"KineticCup", "isWithin", "(II)Z"⟩, prog_1_method_31_code, 2, (some .boolean), 8, 0, 0),
  (⟨"KineticCup", "say", "(I)I"⟩, prog_1_method_3_code, 2, (some .int), 8, 1, 21),
  (⟨"KineticCup", "wipe", "()I"⟩, prog_1_method_4_code, 2, (some .int), 8, 1, 20),
  (⟨"KineticCup", "fault", "()I"⟩, prog_1_method_5_code, 1, (some .int), 8, 4, 86),
  (⟨"KineticCup", "judge", "(I)I"⟩, prog_1_method_6_code, 2, (some .int), 8, 7, 174),
  (⟨"KineticCup", "done", "()I"⟩, prog_1_method_7_code, 1, (some .int), 8, 7, 174)]
def xtab_2 : List xM := [
  (⟨"KineticCup", "behind", "(II)I"⟩, prog_1_method_8_code, 4, (some .int), 8, 7, 174),
  (⟨"KineticCup", "winner", "(I)I"⟩, prog_1_method_9_code, 2, (some .int), 8, 7, 174),
  (⟨"KineticCup", "then", "(I)I"⟩, prog_1_method_10_code, 4, (some .int), 8, 7, 174),
  (⟨"KineticCup", "leads", "(II)I"⟩, prog_1_method_11_code, 3, (some .int), 8, 3, 69),
  (⟨"KineticCup", "isTime", "(II)Z"⟩, prog_1_method_32_code, 2, (some .boolean), 8, 0, 0),
  (⟨"KineticCup", "next", "(I)J"⟩, prog_1_method_12_code, 4, (some .long), 8, 4, 89),
  (⟨"KineticCup", "isPart", "(I)Z"⟩, prog_1_method_33_code, 1, (some .boolean), 8, 0, 0),
  (⟨"KineticCup", "lowestTerms", "(III)J"⟩, prog_1_method_34_code, 7, (some .long), 8, 1, 21),
  (⟨"KineticCup", "where", "()I"⟩, prog_1_method_13_code, 2, (some .int), 8, 4, 89),
  (⟨"KineticCup", "ever", "(II)I"⟩, prog_1_method_14_code, 3, (some .int), 8, 5, 123),
  (⟨"KineticCup", "value", "(IIII)J"⟩, prog_1_method_15_code, 5, (some .long), 8, 3, 64),
  (⟨"KineticCup", "number", "(IIII)J"⟩, prog_1_method_16_code, 6, (some .long), 8, 3, 85),
  (⟨"KineticCup", "heap", "(III)J"⟩, prog_1_method_17_code, 9, (some .long), 8, 3, 84),
  (⟨"KineticCup", "seen", "(IIZ)I"⟩, prog_1_method_18_code, 4, (some .int), 8, 1, 23),
  (⟨"KineticCup", "forget", "()I"⟩, prog_1_method_19_code, 2, (some .int), 8, 1, 20),
  (⟨"KineticCup", "lines", "(I)I"⟩, prog_1_method_20_code, 2, (some .int), 8, 2, 46),
  (⟨"KineticCup", "ask", "(I)I"⟩, prog_1_method_21_code, 2, (some .int), 8, 3, 73),
  (⟨"KineticCup", "cross", "(III)J"⟩, prog_1_method_22_code, 6, (some .long), 8, 2, 47),
  (⟨"KineticCup", "run", "(III)I"⟩, prog_1_method_23_code, 5, (some .int), 8, 7, 176),
  (⟨"KineticCup", "image", "(I)I"⟩, prog_1_method_24_code, 2, (some .int), 8, 4, 93),
  (⟨"KineticCup", "restore", "(I)I"⟩, prog_1_method_25_code, 2, (some .int), 8, 4, 93),
  (⟨"KineticCup", "told", "(I)I"⟩, prog_1_method_26_code, 2, (some .int), 8, 3, 63),
  (⟨"KineticCup", "toldOfAll", "(I)I"⟩, prog_1_method_27_code, 2, (some .int), 8, 2, 41),
  (⟨"KineticCup", "toldOfOne", "(II)I"⟩, prog_1_method_28_code, 3, (some .int), 8, 2, 41),
  (⟨"KineticCupModel", "<init>", "()V"⟩, prog_12_method_1_code, 2, none, 9, 3, 70),
  (⟨"KineticCupModel", "anew", "()V"⟩, prog_12_method_11_code, 2, none, 9, 2, 49),
  (⟨"KineticCupModel", "comer", "(II)I"⟩, prog_12_method_9_code, 3, (some .int), 9, 1, 22),
  (⟨"KineticCupModel", "onPlace", "(I)I"⟩, prog_12_method_8_code, 3, (some .int), 9, 0, 0),
  (⟨"KineticCupModel", "better", "(IIII)I"⟩, prog_12_method_7_code, 5, (some .int), 9, 1, 25),
  (⟨"KineticCupModel", "isAhead", "(IIII)Z"⟩, prog_12_method_6_code, 6, (some .boolean), 9, 0, 0),
  (⟨"KineticCupModel", "certify", "(I)V"⟩, prog_12_method_10_code, 8, none, 9, 0, 0),
  (⟨"KineticCupModel", "keep", "()V"⟩, prog_12_method_5_code, 2, none, 9, 0, 0),
  (⟨"KineticCupModel", "runner", "(IIII)I"⟩, prog_12_method_14_code, 6, (some .int), 9, 3, 70),
  (⟨"KineticCupModel", "isRunner", "(I)Z"⟩, prog_12_method_3_code, 1, (some .boolean), 9, 1, 22),
  (⟨"KineticCupModel", "in", "(III)Z"⟩, prog_12_method_2_code, 3, (some .boolean), 9, 0, 0),
  (⟨"KineticCupModel", "asNow", "()V"⟩, prog_12_method_4_code, 2, none, 9, 0, 0),
  (⟨"KineticCupModel", "say", "(I)I"⟩, prog_12_method_15_code, 2, (some .int), 9, 1, 22),
  (⟨"KineticCupModel", "wipe", "()I"⟩, prog_12_method_16_code, 2, (some .int), 9, 0, 0),
  (⟨"KineticCupModel", "fault", "()I"⟩, prog_12_method_19_code, 1, (some .int), 9, 3, 66),
  (⟨"KineticCupModel", "faultOf", "()I"⟩, prog_12_method_18_code, 3, (some .int), 9, 2, 44),
  (⟨"KineticCupModel", "step", "(II)I"⟩, prog_12_method_17_code, 3, (some .int), 9, 1, 22),
  (⟨"KineticCupModel", "judge", "(I)I"⟩, prog_12_method_26_code, 3, (some .int), 9, 6, 147),
  (⟨"KineticCupModel", "goDays", "()I"⟩, prog_12_method_25_code, 2, (some .int), 9, 5, 126),
  (⟨"KineticCupModel", "oneAct", "(I)I"⟩, prog_12_method_24_code, 3, (some .int), 9, 4, 104),
  (⟨"KineticCupModel", "endSecond", "(I)I"⟩, prog_12_method_23_code, 3, (some .int), 9, 3, 82),
  (⟨"KineticCupModel", "dueBy", "(I)I"⟩, prog_12_method_12_code, 6, (some .int), 9, 0, 0),
  (⟨"KineticCupModel", "take", "(II)V"⟩, prog_12_method_13_code, 14, none, 9, 2, 49),
  (⟨"KineticCupModel", "bend", "(II)I"⟩, prog_12_method_20_code, 3, (some .int), 9, 3, 70)]
def xtab_3 : List xM := [
  (⟨"KineticCupModel", "goOut", "(IZ)I"⟩, prog_12_method_21_code, 3, (some .int), 9, 3, 70),
  (⟨"KineticCupModel", "exchange", "(II)I"⟩, prog_12_method_22_code, 5, (some .int), 9, 3, 70),
  (⟨"KineticCupModel", "done", "()I"⟩, prog_12_method_28_code, 1, (some .int), 9, 7, 167),
  (⟨"KineticCupModel", "barOfDays", "()I"⟩, prog_12_method_27_code, 1, (some .int), 9, 6, 147),
  (⟨"KineticCupModel", "behind", "(II)I"⟩, prog_12_method_29_code, 3, (some .int), 9, 7, 167),
  (⟨"KineticCupModel", "winner", "(I)I"⟩, prog_12_method_30_code, 2, (some .int), 9, 7, 167),
  (⟨"KineticCupModel", "then", "(I)I"⟩, prog_12_method_31_code, 2, (some .int), 9, 7, 167),
  (⟨"KineticCupModel", "leads", "(II)I"⟩, prog_12_method_35_code, 3, (some .int), 9, 3, 74),
  (⟨"KineticCupModel", "isTime", "(II)Z"⟩, prog_12_method_32_code, 2, (some .boolean), 9, 1, 22),
  (⟨"KineticCupModel", "best", "(III)I"⟩, prog_12_method_34_code, 6, (some .int), 9, 2, 49),
  (⟨"KineticCupModel", "isOf", "(II)Z"⟩, prog_12_method_33_code, 4, (some .boolean), 9, 0, 0),
  (⟨"KineticCupModel", "next", "(I)J"⟩, prog_12_method_39_code, 2, (some .long), 9, 4, 96),
  (⟨"KineticCupModel", "nextMatch", "()I"⟩, prog_12_method_37_code, 3, (some .int), 9, 3, 74),
  (⟨"KineticCupModel", "layNext", "(II)Z"⟩, prog_12_method_36_code, 8, (some .boolean), 9, 1, 23),
  (⟨"KineticCupModel", "lowest", "(JJI)J"⟩, prog_12_method_38_code, 11, (some .long), 9, 0, 0),
  (⟨"KineticCupModel", "where", "()I"⟩, prog_12_method_40_code, 1, (some .int), 9, 4, 96),
  (⟨"KineticCupModel", "ever", "(II)I"⟩, prog_12_method_41_code, 6, (some .int), 9, 3, 74),
  (⟨"KineticCupModel", "value", "(IIII)J"⟩, prog_12_method_42_code, 5, (some .long), 9, 2, 43),
  (⟨"KineticCupModel", "number", "(IIII)J"⟩, prog_12_method_49_code, 9, (some .long), 9, 3, 85),
  (⟨"KineticCupModel", "bitsOfDouble", "(JJ)J"⟩, prog_12_method_48_code, 13, (some .long), 9, 0, 0),
  (⟨"KineticCupModel", "single", "(JJ)J"⟩, prog_12_method_45_code, 12, (some .long), 9, 2, 54),
  (⟨"KineticCupModel", "round", "(JZZZ)J"⟩, prog_12_method_44_code, 13, (some .long), 9, 1, 22),
  (⟨"KineticCupModel", "length", "(J)I"⟩, prog_12_method_43_code, 3, (some .int), 9, 0, 0),
  (⟨"KineticCupModel", "bitsOfSingle", "(J)J"⟩, prog_12_method_46_code, 9, (some .long), 9, 1, 22),
  (⟨"KineticCupModel", "whole", "(J)J"⟩, prog_12_method_47_code, 2, (some .long), 9, 0, 0),
  (⟨"KineticCupModel", "heap", "(III)J"⟩, prog_12_method_50_code, 9, (some .long), 9, 3, 85),
  (⟨"KineticCupModel", "seen", "(IIZ)I"⟩, prog_12_method_51_code, 4, (some .int), 9, 1, 22),
  (⟨"KineticCupModel", "forget", "()I"⟩, prog_12_method_52_code, 2, (some .int), 9, 0, 0),
  (⟨"KineticCupModel", "lines", "(I)I"⟩, prog_12_method_55_code, 4, (some .int), 9, 2, 45),
  (⟨"KineticCupModel", "isFit", "(I)Z"⟩, prog_12_method_54_code, 4, (some .boolean), 9, 1, 22),
  (⟨"KineticCupModel", "isLeast", "(III)Z"⟩, prog_12_method_53_code, 3, (some .boolean), 9, 0, 0),
  (⟨"KineticCupModel", "ask", "(I)I"⟩, prog_12_method_56_code, 9, (some .int), 9, 2, 45),
  (⟨"KineticCupModel", "cross", "(III)J"⟩, prog_12_method_57_code, 6, (some .long), 9, 2, 42),
  (⟨"KineticCupModel", "run", "(III)I"⟩, prog_12_method_58_code, 7, (some .int), 9, 4, 104),
  (⟨"KineticCupModel", "image", "(I)I"⟩, prog_12_method_59_code, 4, (some .int), 9, 1, 22),
  (⟨"KineticCupModel", "restore", "(I)I"⟩, prog_12_method_60_code, 4, (some .int), 9, 1, 22),
  (⟨"KineticCupModel", "told", "(I)I"⟩, prog_12_method_61_code, 4, (some .int), 9, 2, 42),
  (⟨"KineticCup$Nearest", "singleBits", "(JJ)J"⟩, prog_4_method_3_code, 5, (some .long), 10, 2, 60),
  (⟨"KineticCup$Nearest", "sizeBits", "(JJII)J"⟩, prog_4_method_5_code, 13, (some .long), 10, 1, 28),
  (⟨"KineticCup$Nearest", "shiftFor", "(JJI)I"⟩, prog_4_method_6_code, 6, (some .int), 10, 0, 0),
  (⟨"KineticCup$Nearest", "nearestWhole", "(JJ)J"⟩, prog_4_method_7_code, 9, (some .long), 10, 0, 0),
  (⟨"KineticCup$Nearest", "doubleBits", "(JJ)J"⟩, prog_4_method_4_code, 6, (some .long), 10, 2, 60),
  (⟨"KineticCup$Nearest", "single", "(JJ)J"⟩, prog_4_method_2_code, 11, (some .long), 10, 1, 28),
  (⟨"java/util/Arrays", "fill", "([II)V"⟩, prog_18_method_103_code, 4, none, 13, 0, 0)]
def xtab : List xM := xtab_0 ++ (xtab_1 ++ (xtab_2 ++ (xtab_3)))
def xm (id : Nat) : xM := xtab.getD id (⟨"", "", ""⟩, .empty, 0, none, 0, 0, 0)
def xy (id : Nat) : MethodName := (xm id).1
def xbc (id : Nat) : ByteArray := (xm id).2.1
def xml (id : Nat) : Nat := (xm id).2.2.1
def xret (id : Nat) : Option FieldType := (xm id).2.2.2.1
def xown (id : Nat) : Nat := (xm id).2.2.2.2.1
def xrf (id : Nat) : Nat := (xm id).2.2.2.2.2.1
def xrl (id : Nat) : Nat := (xm id).2.2.2.2.2.2
def xfl : List ((Nat × Nat) × Nat × Nat × Bool × Bool × Nat) := [
  ((0, 9), 0, 0, false, false, 185),
  ((0, 15), 0, 1, false, false, 186),
  ((0, 18), 0, 2, false, false, 187),
  ((0, 21), 0, 3, false, false, 188),
  ((0, 24), 0, 4, false, false, 189),
  ((0, 28), 0, 5, false, false, 190),
  ((0, 34), 0, 6, false, false, 191),
  ((0, 41), 0, 7, false, false, 192),
  ((0, 45), 0, 8, false, true, 193),
  ((1, 10), 1, 0, false, false, 299),
  ((1, 19), 1, 1, false, false, 300),
  ((1, 23), 1, 2, false, true, 301),
  ((2, 11), 2, 0, false, false, 219),
  ((2, 15), 2, 1, false, true, 220),
  ((3, 11), 3, 0, false, false, 84),
  ((3, 15), 3, 1, false, false, 85),
  ((3, 18), 3, 2, false, false, 86),
  ((3, 21), 3, 3, false, false, 87),
  ((3, 24), 3, 4, false, false, 88),
  ((3, 27), 3, 5, false, true, 89),
  ((3, 31), 3, 6, false, true, 90),
  ((4, 12), 4, 0, false, false, 253),
  ((4, 18), 4, 1, false, true, 254),
  ((4, 22), 4, 2, false, true, 255),
  ((4, 25), 4, 3, false, true, 256),
  ((5, 11), 5, 0, false, false, 272),
  ((5, 17), 5, 1, false, false, 273),
  ((5, 20), 5, 2, false, true, 274),
  ((5, 24), 5, 3, false, true, 275),
  ((5, 27), 5, 4, false, true, 276),
  ((6, 9), 6, 0, false, false, 232),
  ((6, 13), 6, 1, false, false, 233),
  ((6, 16), 6, 2, false, false, 234),
  ((6, 20), 6, 3, false, true, 235),
  ((7, 9), 7, 0, false, true, 114),
  ((7, 15), 7, 1, false, true, 116),
  ((7, 18), 7, 2, false, true, 118),
  ((7, 21), 7, 3, false, true, 120),
  ((7, 24), 7, 4, false, true, 122),
  ((8, 10), 8, 0, false, false, 309),
  ((8, 19), 8, 1, false, false, 310),
  ((8, 26), 8, 2, false, false, 311),
  ((8, 33), 8, 3, false, false, 312),
  ((8, 40), 8, 4, false, false, 313),
  ((8, 46), 8, 5, false, false, 314),
  ((8, 128), 7, 0, true, true, 115),
  ((8, 134), 7, 1, true, true, 117),
  ((8, 137), 7, 2, true, true, 119),
  ((8, 140), 7, 3, true, true, 121),
  ((8, 143), 7, 4, true, true, 123),
  ((9, 7), 9, 0, false, false, 860),
  ((9, 13), 9, 1, false, false, 861),
  ((9, 16), 9, 3, false, false, 863),
  ((9, 19), 9, 5, false, false, 865),
  ((9, 22), 9, 17, false, false, 877),
  ((9, 25), 9, 18, false, false, 878),
  ((9, 28), 9, 19, false, false, 879),
  ((9, 42), 9, 6, false, true, 866),
  ((9, 46), 9, 7, false, true, 867),
  ((9, 49), 9, 8, false, true, 868),
  ((9, 52), 9, 9, false, true, 869),
  ((9, 55), 9, 10, false, true, 870),
  ((9, 85), 9, 4, false, true, 864),
  ((9, 102), 9, 12, false, true, 872),
  ((9, 121), 9, 11, false, true, 871),
  ((9, 141), 9, 14, false, true, 874),
  ((9, 144), 9, 13, false, true, 873),
  ((9, 150), 9, 16, false, true, 876),
  ((9, 153), 9, 15, false, true, 875),
  ((9, 203), 9, 2, false, true, 862)]
def xfld (own idx : Nat) : Option (Nat × Nat × Bool × Bool × Nat) := xfl.lookup (own, idx)
def xcs : List ((Nat × Nat) × Value × Nat) := [
  ((4, 74), .int (65537 : Int32), 745),
  ((4, 75), .retAddr 1, 0),
  ((8, 156), .long (-1000000000000000002 : Int64), 590),
  ((8, 168), .long (-1000000000000000003 : Int64), 596),
  ((8, 186), .long (-1000000000000000001 : Int64), 628),
  ((8, 204), .long (1073741824 : Int64), 661),
  ((9, 156), .long (-1000000000000000002 : Int64), 1029),
  ((9, 161), .long (-1000000000000000003 : Int64), 1038),
  ((9, 167), .long (-1000000000000000001 : Int64), 1054),
  ((9, 173), .long (2 : Int64), 1063),
  ((9, 179), .long (8388608 : Int64), 1078),
  ((9, 181), .long (2147483648 : Int64), 1079),
  ((9, 183), .long (4503599627370496 : Int64), 1062),
  ((9, 185), .long (9007199254740992 : Int64), 1064),
  ((9, 187), .long (-9223372036854775808 : Int64), 1065),
  ((9, 212), .int (1000000 : Int32), 1110),
  ((9, 213), .int (65537 : Int32), 1119),
  ((10, 29), .int (-2147483648 : Int32), 653),
  ((10, 32), .long (-9223372036854775808 : Int64), 657),
  ((10, 34), .long (2 : Int64), 652)]
def xcst (own idx : Nat) : Option (Value × Nat) := xcs.lookup (own, idx)
def xmt : List ((Nat × Nat) × Nat × Nat × Nat × Nat × Nat × Nat) := [
  ((0, 3), 6, 0, 0, 77, 70, 0),
  ((0, 33), 5, 47, 0, 80, 81, 0),
  ((0, 40), 5, 83, 0, 110, 111, 0),
  ((0, 49), 1, 2, 0, 135, 137, 0),
  ((0, 52), 7, 0, 5, 420, 421, 0),
  ((0, 58), 1, 51, 1, 423, 424, 425),
  ((0, 62), 3, 88, 1, 169, 170, 0),
  ((0, 66), 3, 87, 1, 150, 151, 0),
  ((0, 69), 1, 17, 2, 451, 453, 10),
  ((0, 73), 1, 18, 2, 458, 460, 11),
  ((0, 76), 1, 9, 1, 455, 337, 338),
  ((0, 80), 1, 11, 1, 456, 344, 345),
  ((0, 83), 0, 10, 2, 457, 341, 0),
  ((0, 87), 1, 19, 1, 462, 463, 464),
  ((0, 90), 1, 21, 3, 470, 472, 12),
  ((0, 94), 1, 24, 2, 482, 484, 15),
  ((0, 97), 1, 22, 2, 474, 476, 13),
  ((0, 101), 1, 23, 2, 478, 480, 14),
  ((0, 104), 1, 48, 0, 139, 140, 141),
  ((0, 107), 1, 3, 3, 146, 148, 1),
  ((0, 111), 1, 52, 1, 486, 487, 488),
  ((0, 115), 1, 54, 1, 514, 495, 496),
  ((0, 118), 1, 57, 1, 515, 507, 508),
  ((0, 121), 1, 58, 1, 516, 511, 512),
  ((0, 124), 1, 53, 1, 517, 491, 492),
  ((0, 127), 1, 59, 1, 518, 519, 520),
  ((0, 131), 1, 85, 3, 522, 523, 524),
  ((0, 135), 1, 4, 1, 153, 155, 2),
  ((0, 138), 1, 7, 4, 165, 167, 4),
  ((0, 142), 1, 8, 3, 172, 174, 5),
  ((0, 145), 1, 5, 1, 157, 158, 159),
  ((0, 148), 1, 6, 1, 161, 163, 3),
  ((0, 151), 1, 49, 1, 176, 177, 178),
  ((0, 154), 1, 50, 3, 181, 182, 183),
  ((0, 157), 1, 25, 1, 623, 553, 554),
  ((0, 160), 1, 27, 2, 618, 580, 581),
  ((0, 163), 1, 30, 3, 619, 621, 18),
  ((1, 1), 6, 0, 0, 294, 70, 0),
  ((1, 9), 2, 1, 0, 296, 75, 0),
  ((1, 18), 5, 77, 0, 298, 229, 0),
  ((1, 27), 1, 14, 1, 796, 417, 418),
  ((1, 31), 1, 82, 1, 797, 798, 799),
  ((2, 3), 6, 0, 0, 218, 70, 0),
  ((2, 19), 1, 41, 1, 387, 389, 7),
  ((2, 23), 3, 88, 1, 395, 170, 0),
  ((2, 27), 1, 40, 1, 383, 385, 6),
  ((2, 30), 1, 43, 1, 396, 397, 398),
  ((2, 33), 1, 42, 1, 391, 393, 8),
  ((2, 36), 1, 44, 1, 400, 401, 402),
  ((3, 3), 6, 0, 0, 83, 70, 0),
  ((3, 34), 7, 0, 5, 427, 421, 0),
  ((3, 40), 0, 187, 2, 143, 144, 0),
  ((3, 46), 3, 87, 1, 180, 151, 0),
  ((3, 50), 1, 55, 1, 498, 500, 16),
  ((3, 53), 1, 54, 1, 494, 495, 496),
  ((3, 57), 1, 53, 1, 490, 491, 492),
  ((3, 60), 1, 56, 2, 502, 504, 17),
  ((3, 64), 1, 57, 1, 506, 507, 508),
  ((3, 67), 1, 58, 1, 510, 511, 512),
  ((4, 3), 6, 0, 0, 250, 70, 0),
  ((4, 11), 2, 1, 0, 252, 75, 0),
  ((4, 28), 1, 14, 1, 416, 417, 418),
  ((4, 32), 1, 15, 0, 428, 429, 430),
  ((4, 36), 1, 84, 0, 432, 433, 434),
  ((4, 41), 1, 63, 1, 412, 414, 9),
  ((4, 44), 1, 39, 0, 436, 380, 381),
  ((4, 50), 1, 37, 0, 437, 364, 365),
  ((4, 53), 1, 44, 1, 438, 401, 402),
  ((4, 57), 1, 45, 1, 439, 440, 441),
  ((4, 60), 1, 46, 1, 443, 444, 445),
  ((4, 63), 1, 16, 3, 447, 448, 449),
  ((4, 67), 1, 20, 4, 466, 467, 468),
  ((4, 71), 1, 43, 1, 526, 397, 398),
  ((4, 77), 8, 0, 1, 747, 748, 749),
  ((5, 5), 6, 0, 0, 271, 70, 0),
  ((5, 30), 1, 81, 2, 694, 695, 696),
  ((5, 34), 1, 74, 1, 714, 716, 19),
  ((5, 38), 11, 0, 2, 722, 723, 724),
  ((5, 44), 0, 187, 2, 718, 144, 0),
  ((5, 50), 12, 0, 2, 719, 720, 721),
  ((6, 1), 6, 0, 0, 231, 70, 0),
  ((6, 24), 7, 0, 5, 801, 421, 0),
  ((7, 3), 6, 0, 0, 113, 70, 0),
  ((8, 1), 6, 0, 0, 69, 70, 0),
  ((8, 9), 2, 1, 0, 74, 75, 0),
  ((8, 18), 5, 35, 0, 215, 216, 0),
  ((8, 25), 5, 77, 0, 228, 229, 0),
  ((8, 32), 5, 61, 0, 247, 248, 0),
  ((8, 39), 5, 69, 0, 268, 269, 0),
  ((8, 50), 5, 32, 0, 291, 292, 0),
  ((8, 51), 0, 88, 1, 332, 170, 0),
  ((8, 55), 0, 90, 2, 333, 334, 0),
  ((8, 59), 1, 9, 1, 336, 337, 338),
  ((8, 63), 0, 10, 2, 340, 341, 0),
  ((8, 66), 1, 11, 1, 343, 344, 345),
  ((8, 69), 1, 12, 1, 347, 348, 349),
  ((8, 72), 1, 13, 4, 351, 352, 353),
  ((8, 76), 1, 36, 1, 359, 360, 361),
  ((8, 79), 1, 37, 0, 363, 364, 365),
  ((8, 83), 1, 38, 0, 371, 372, 373),
  ((8, 86), 1, 39, 0, 379, 380, 381),
  ((8, 89), 1, 62, 2, 408, 409, 410),
  ((8, 93), 1, 64, 0, 527, 528, 529),
  ((8, 96), 1, 65, 0, 531, 532, 533),
  ((8, 99), 1, 66, 0, 539, 540, 541),
  ((8, 102), 1, 14, 1, 543, 417, 418),
  ((8, 106), 1, 67, 0, 544, 545, 546),
  ((8, 109), 1, 25, 1, 552, 553, 554),
  ((8, 112), 1, 19, 1, 556, 463, 464),
  ((8, 115), 0, 87, 1, 561, 151, 0),
  ((8, 118), 1, 5, 1, 562, 158, 159),
  ((8, 121), 1, 15, 0, 567, 429, 430),
  ((8, 125), 1, 26, 0, 568, 569, 570),
  ((8, 146), 0, 100, 2, 576, 577, 0),
  ((8, 149), 1, 27, 2, 579, 580, 581),
  ((8, 153), 0, 102, 1, 587, 588, 0),
  ((8, 158), 1, 28, 0, 591, 592, 593),
  ((8, 162), 1, 52, 1, 595, 487, 488),
  ((8, 170), 1, 57, 1, 597, 507, 508),
  ((8, 173), 1, 58, 1, 598, 511, 512),
  ((8, 176), 0, 103, 3, 599, 600, 0),
  ((8, 180), 1, 54, 1, 609, 495, 496),
  ((8, 183), 1, 29, 2, 614, 615, 616),
  ((8, 188), 1, 31, 3, 629, 630, 631),
  ((8, 192), 0, 181, 2, 637, 638, 0),
  ((8, 198), 0, 185, 2, 654, 655, 0),
  ((8, 201), 0, 186, 2, 658, 659, 0),
  ((8, 206), 1, 78, 3, 670, 671, 672),
  ((8, 209), 1, 79, 0, 674, 675, 676),
  ((8, 212), 1, 80, 0, 682, 683, 684),
  ((8, 213), 1, 70, 1, 690, 691, 692),
  ((8, 217), 1, 71, 0, 698, 699, 700),
  ((8, 218), 1, 72, 1, 702, 703, 704),
  ((8, 221), 1, 73, 0, 710, 711, 712),
  ((8, 224), 1, 75, 0, 725, 726, 727),
  ((8, 227), 1, 76, 0, 729, 730, 731),
  ((8, 230), 1, 68, 3, 741, 742, 743),
  ((8, 234), 1, 33, 2, 792, 793, 794),
  ((8, 238), 1, 34, 2, 806, 807, 808),
  ((8, 242), 1, 118, 1, 814, 816, 20),
  ((8, 245), 1, 119, 2, 822, 824, 21),
  ((8, 248), 1, 60, 0, 818, 819, 820),
  ((8, 249), 9, 0, 1, 602, 603, 604),
  ((9, 1), 6, 0, 0, 831, 70, 0),
  ((9, 32), 1, 121, 0, 832, 834, 22),
  ((9, 35), 1, 127, 0, 856, 858, 28),
  ((9, 38), 0, 130, 3, 928, 929, 0),
  ((9, 58), 1, 125, 4, 848, 850, 26),
  ((9, 62), 1, 123, 1, 840, 842, 24),
  ((9, 66), 1, 122, 2, 836, 838, 23),
  ((9, 70), 1, 124, 4, 844, 846, 25),
  ((9, 74), 1, 126, 1, 852, 854, 27),
  ((9, 78), 0, 129, 1, 925, 926, 0),
  ((9, 82), 1, 131, 0, 931, 933, 29),
  ((9, 88), 0, 136, 2, 951, 952, 0),
  ((9, 91), 1, 135, 0, 947, 949, 30),
  ((9, 95), 1, 141, 1, 970, 972, 34),
  ((9, 98), 1, 142, 2, 974, 976, 35),
  ((9, 105), 1, 140, 1, 966, 968, 33),
  ((9, 108), 1, 143, 2, 978, 980, 36),
  ((9, 111), 1, 144, 2, 982, 984, 37),
  ((9, 115), 1, 145, 2, 986, 988, 38),
  ((9, 118), 1, 139, 1, 962, 964, 32),
  ((9, 124), 1, 138, 0, 958, 960, 31),
  ((9, 127), 1, 147, 0, 994, 996, 39),
  ((9, 130), 1, 154, 2, 1021, 1023, 41),
  ((9, 134), 0, 152, 2, 1014, 1015, 0),
  ((9, 137), 1, 153, 3, 1017, 1019, 40),
  ((9, 147), 1, 157, 2, 1034, 1036, 43),
  ((9, 158), 1, 156, 0, 1030, 1032, 42),
  ((9, 163), 0, 158, 3, 1039, 1040, 0),
  ((9, 169), 0, 166, 1, 1072, 1073, 0),
  ((9, 175), 0, 165, 4, 1069, 1070, 0),
  ((9, 189), 0, 163, 2, 1059, 1060, 0),
  ((9, 193), 0, 164, 2, 1066, 1067, 0),
  ((9, 196), 0, 167, 1, 1075, 1076, 0),
  ((9, 200), 0, 168, 1, 1080, 1081, 0),
  ((9, 206), 0, 174, 3, 1103, 1104, 0),
  ((9, 209), 1, 173, 1, 1099, 1101, 44),
  ((10, 9), 10, 0, 1, 643, 644, 645),
  ((10, 15), 0, 183, 3, 646, 647, 0),
  ((10, 19), 0, 184, 2, 649, 650, 0),
  ((10, 23), 0, 182, 4, 640, 641, 0),
  ((11, 9), 2, 86, 0, 66, 67, 0),
  ((11, 12), 2, 120, 0, 828, 829, 0),
  ((11, 13), 1, 89, 4, 328, 329, 330),
  ((11, 17), 1, 128, 4, 921, 922, 923),
  ((11, 18), 1, 91, 1, 355, 356, 357),
  ((11, 22), 1, 132, 1, 935, 936, 937),
  ((11, 23), 1, 92, 0, 367, 368, 369),
  ((11, 27), 1, 133, 0, 939, 940, 941),
  ((11, 28), 1, 93, 0, 375, 376, 377),
  ((11, 31), 1, 134, 0, 943, 944, 945),
  ((11, 32), 1, 94, 1, 404, 405, 406),
  ((11, 35), 1, 137, 1, 954, 955, 956),
  ((11, 36), 1, 95, 0, 535, 536, 537),
  ((11, 39), 1, 146, 0, 990, 991, 992),
  ((11, 40), 1, 96, 2, 548, 549, 550),
  ((11, 44), 1, 148, 2, 998, 999, 1000),
  ((11, 45), 1, 97, 1, 557, 558, 559),
  ((11, 48), 1, 149, 1, 1002, 1003, 1004),
  ((11, 49), 1, 98, 1, 563, 564, 565),
  ((11, 52), 1, 150, 1, 1006, 1007, 1008),
  ((11, 53), 1, 99, 2, 572, 573, 574),
  ((11, 56), 1, 151, 2, 1010, 1011, 1012),
  ((11, 57), 1, 101, 1, 583, 584, 585),
  ((11, 61), 1, 155, 1, 1025, 1026, 1027),
  ((11, 62), 1, 104, 0, 605, 606, 607),
  ((11, 65), 1, 159, 0, 1042, 1043, 1044),
  ((11, 66), 1, 105, 2, 610, 611, 612),
  ((11, 69), 1, 160, 2, 1046, 1047, 1048),
  ((11, 70), 1, 106, 4, 624, 625, 626),
  ((11, 74), 1, 161, 4, 1050, 1051, 1052),
  ((11, 75), 1, 107, 4, 633, 634, 635),
  ((11, 78), 1, 162, 4, 1055, 1056, 1057),
  ((11, 79), 1, 108, 3, 662, 663, 664),
  ((11, 83), 1, 169, 3, 1083, 1084, 1085),
  ((11, 84), 1, 109, 3, 666, 667, 668),
  ((11, 88), 1, 170, 3, 1087, 1088, 1089),
  ((11, 89), 1, 110, 0, 678, 679, 680),
  ((11, 92), 1, 171, 0, 1091, 1092, 1093),
  ((11, 93), 1, 111, 1, 686, 687, 688),
  ((11, 96), 1, 172, 1, 1095, 1096, 1097),
  ((11, 97), 1, 112, 1, 706, 707, 708),
  ((11, 100), 1, 175, 1, 1106, 1107, 1108),
  ((11, 101), 1, 113, 3, 733, 734, 735),
  ((11, 104), 1, 176, 3, 1111, 1112, 1113),
  ((11, 105), 1, 114, 3, 737, 738, 739),
  ((11, 109), 1, 177, 3, 1115, 1116, 1117),
  ((11, 110), 1, 115, 1, 788, 789, 790),
  ((11, 113), 1, 178, 1, 1120, 1121, 1122),
  ((11, 114), 1, 116, 1, 802, 803, 804),
  ((11, 117), 1, 179, 1, 1124, 1125, 1126),
  ((11, 118), 1, 117, 1, 810, 811, 812),
  ((11, 121), 1, 180, 1, 1128, 1129, 1130)]
def xmth (own idx : Nat) : Option (Nat × Nat × Nat × Nat × Nat × Nat) := xmt.lookup (own, idx)
def xnw : List ((Nat × Nat) × Nat × Nat) := [((0, 31), 3, 78), ((0, 38), 7, 108), ((1, 7), 0, 295), ((1, 16), 6, 297), ((4, 9), 0, 251), ((8, 7), 0, 72), ((8, 16), 2, 213), ((8, 23), 6, 226), ((8, 30), 4, 245), ((8, 37), 5, 266), ((8, 44), 1, 288), ((11, 7), 8, 64), ((11, 10), 9, 826)]
def xnew (own idx : Nat) : Option (Nat × Nat) := xnw.lookup (own, idx)
def xpC : List Nat := [0, 76, 138, 149, 156, 160, 164, 168, 175, 339, 342, 346, 350, 354, 419, 431, 450, 454, 461, 465, 469, 473, 477, 481, 485, 555, 571, 582, 594, 617, 622, 632, 293, 795, 809, 217, 362, 366, 374, 382, 386, 390, 394, 399, 403, 442, 446, 82, 142, 179, 184, 426, 489, 493, 497, 501, 505, 509, 513, 521, 821, 249, 411, 415, 530, 534, 542, 547, 744, 270, 693, 701, 705, 713, 717, 728, 732, 230, 673, 677, 685, 697, 800, 112, 435, 525, 68, 152, 171, 331, 335, 358, 370, 378, 407, 538, 551, 560, 566, 575, 578, 586, 589, 601, 608, 613, 627, 636, 665, 669, 681, 689, 709, 736, 740, 791, 805, 813, 817, 825, 830, 835, 839, 843, 847, 851, 855, 859, 924, 927, 930, 934, 938, 942, 946, 950, 953, 957, 961, 965, 969, 973, 977, 981, 985, 989, 993, 997, 1001, 1005, 1009, 1013, 1016, 1020, 1024, 1028, 1033, 1037, 1041, 1045, 1049, 1053, 1058, 1061, 1068, 1071, 1074, 1077, 1082, 1086, 1090, 1094, 1098, 1102, 1105, 1109, 1114, 1118, 1123, 1127, 1131, 639, 642, 648, 651, 656, 660, 145]
def xpI : List Nat := [47, 55, 51, 48, 53, 54, 52, 49, 46, 56, 59, 45, 58, 50]
def xpN : List Nat := [73, 290, 214, 79, 246, 267, 227, 109, 65, 827]
def xpL : List (List Nat) := [[194, 196, 198, 200, 202, 204, 206, 208, 210], [302, 304, 306], [221, 223], [91, 93, 95, 97, 99, 101, 103], [257, 259, 261, 263], [277, 279, 281, 283, 285], [236, 238, 240, 242], [124, 126, 128, 130, 132], [315, 317, 319, 321, 323, 325], [880, 882, 884, 886, 888, 890, 892, 894, 896, 898, 900, 902, 904, 906, 908, 910, 912, 914, 916, 918]]
def xty (c : Nat) : Nat → FieldType := match c with
  | 0 => tyX0
  | 1 => tyX1
  | 2 => tyX3
  | 3 => tyX4
  | 4 => tyX5
  | 5 => tyX6
  | 6 => tyX7
  | 7 => tyX8
  | 8 => tyX9
  | 9 => tyX10
  | _ => fun _ => .int
