def RX0 : String := "ChairPast$Barbers"
def TX0 : u_T := fun k => match k with
  | _ => ("", "", "", false)
def tyX0 : Nat → FieldType := fun k => match k with
  | _ => .int
theorem nmX0 : ∀ a, a < 0 → ∀ b, b < 0 → a ≠ b → (TX0 a).2.1 ≠ (TX0 b).2.1 := by decide +kernel
theorem tyX0_ok : ∀ k, k < 0 → parseFieldDescriptor (TX0 k).2.2.1 = some (tyX0 k) := by decide +kernel
def RX1 : String := "ChairPast$Chair"
def TX1 : u_T := fun k => match k with
  | 0 => ("ChairPast$Chair", "kind", "LChairPast$Kind;", false)
  | 1 => ("ChairPast$Chair", "manner", "I", false)
  | 2 => ("ChairPast$Chair", "strength", "I", false)
  | 3 => ("ChairPast$Chair", "suite", "I", false)
  | 4 => ("ChairPast$Chair", "sat", "I", false)
  | _ => ("ChairPast$Chair", "sitter", "I", false)
def tyX1 : Nat → FieldType := fun k => match k with
  | 0 => .object "ChairPast$Kind"
  | 1 => .int
  | 2 => .int
  | 3 => .int
  | 4 => .int
  | _ => .int
theorem nmX1 : ∀ a, a < 6 → ∀ b, b < 6 → a ≠ b → (TX1 a).2.1 ≠ (TX1 b).2.1 := by decide +kernel
theorem tyX1_ok : ∀ k, k < 6 → parseFieldDescriptor (TX1 k).2.2.1 = some (tyX1 k) := by decide +kernel
def RX2 : String := "ChairPast$Dentists"
def TX2 : u_T := fun k => match k with
  | _ => ("", "", "", false)
def tyX2 : Nat → FieldType := fun k => match k with
  | _ => .int
theorem nmX2 : ∀ a, a < 0 → ∀ b, b < 0 → a ≠ b → (TX2 a).2.1 ≠ (TX2 b).2.1 := by decide +kernel
theorem tyX2_ok : ∀ k, k < 0 → parseFieldDescriptor (TX2 k).2.2.1 = some (tyX2 k) := by decide +kernel
def RX3 : String := "ChairPast$Foresight"
def TX3 : u_T := fun k => match k with
  | 0 => ("ChairPast$Foresight", "now", "LChairPast$Room;", true)
  | 1 => ("ChairPast$Foresight", "trial", "LChairPast$Room;", true)
  | 2 => ("ChairPast$Foresight", "kinds", "[LChairPast$Kind;", true)
  | 3 => ("ChairPast$Foresight", "stool", "LChairPast$Chair;", true)
  | 4 => ("ChairPast$Foresight", "page", "LChairPast$Line;", true)
  | 5 => ("ChairPast$Foresight", "sitters", "[I", true)
  | 6 => ("ChairPast$Foresight", "bestPlaces", "[I", true)
  | _ => ("ChairPast$Foresight", "bestPeace", "I", false)
def tyX3 : Nat → FieldType := fun k => match k with
  | 0 => .object "ChairPast$Room"
  | 1 => .object "ChairPast$Room"
  | 2 => .array (.object "ChairPast$Kind")
  | 3 => .object "ChairPast$Chair"
  | 4 => .object "ChairPast$Line"
  | 5 => .array .int
  | 6 => .array .int
  | _ => .int
theorem nmX3 : ∀ a, a < 8 → ∀ b, b < 8 → a ≠ b → (TX3 a).2.1 ≠ (TX3 b).2.1 := by decide +kernel
theorem tyX3_ok : ∀ k, k < 8 → parseFieldDescriptor (TX3 k).2.2.1 = some (tyX3 k) := by decide +kernel
def RX4 : String := "ChairPast$Kind"
def TX4 : u_T := fun k => match k with
  | _ => ("", "", "", false)
def tyX4 : Nat → FieldType := fun k => match k with
  | _ => .int
theorem nmX4 : ∀ a, a < 0 → ∀ b, b < 0 → a ≠ b → (TX4 a).2.1 ≠ (TX4 b).2.1 := by decide +kernel
theorem tyX4_ok : ∀ k, k < 0 → parseFieldDescriptor (TX4 k).2.2.1 = some (tyX4 k) := by decide +kernel
def RX5 : String := "ChairPast$Line"
def TX5 : u_T := fun k => match k with
  | 0 => ("ChairPast$Line", "items", "[I", true)
  | 1 => ("ChairPast$Line", "size", "I", false)
  | _ => ("ChairPast$Line", "mark", "I", false)
def tyX5 : Nat → FieldType := fun k => match k with
  | 0 => .array .int
  | 1 => .int
  | _ => .int
theorem nmX5 : ∀ a, a < 3 → ∀ b, b < 3 → a ≠ b → (TX5 a).2.1 ≠ (TX5 b).2.1 := by decide +kernel
theorem tyX5_ok : ∀ k, k < 3 → parseFieldDescriptor (TX5 k).2.2.1 = some (tyX5 k) := by decide +kernel
def RX6 : String := "ChairPast$Plain"
def TX6 : u_T := fun k => match k with
  | _ => ("", "", "", false)
def tyX6 : Nat → FieldType := fun k => match k with
  | _ => .int
theorem nmX6 : ∀ a, a < 0 → ∀ b, b < 0 → a ≠ b → (TX6 a).2.1 ≠ (TX6 b).2.1 := by decide +kernel
theorem tyX6_ok : ∀ k, k < 0 → parseFieldDescriptor (TX6 k).2.2.1 = some (tyX6 k) := by decide +kernel
def RX7 : String := "ChairPast$Reader"
def TX7 : u_T := fun k => match k with
  | 0 => ("ChairPast$Reader", "tape", "LChairPast$Line;", true)
  | 1 => ("ChairPast$Reader", "page", "LChairPast$Line;", true)
  | 2 => ("ChairPast$Reader", "draft", "LChairPast$Room;", true)
  | 3 => ("ChairPast$Reader", "at", "I", false)
  | _ => ("ChairPast$Reader", "mistake", "I", false)
def tyX7 : Nat → FieldType := fun k => match k with
  | 0 => .object "ChairPast$Line"
  | 1 => .object "ChairPast$Line"
  | 2 => .object "ChairPast$Room"
  | 3 => .int
  | _ => .int
theorem nmX7 : ∀ a, a < 5 → ∀ b, b < 5 → a ≠ b → (TX7 a).2.1 ≠ (TX7 b).2.1 := by decide +kernel
theorem tyX7_ok : ∀ k, k < 5 → parseFieldDescriptor (TX7 k).2.2.1 = some (tyX7 k) := by decide +kernel
def RX8 : String := "ChairPast$Rocker"
def TX8 : u_T := fun k => match k with
  | _ => ("", "", "", false)
def tyX8 : Nat → FieldType := fun k => match k with
  | _ => .int
theorem nmX8 : ∀ a, a < 0 → ∀ b, b < 0 → a ≠ b → (TX8 a).2.1 ≠ (TX8 b).2.1 := by decide +kernel
theorem tyX8_ok : ∀ k, k < 0 → parseFieldDescriptor (TX8 k).2.2.1 = some (tyX8 k) := by decide +kernel
def RX9 : String := "ChairPast$Room"
def TX9 : u_T := fun k => match k with
  | 0 => ("ChairPast$Room", "kinds", "[LChairPast$Kind;", true)
  | 1 => ("ChairPast$Room", "chairs", "[LChairPast$Chair;", true)
  | 2 => ("ChairPast$Room", "own", "[I", true)
  | 3 => ("ChairPast$Room", "will", "[I", true)
  | 4 => ("ChairPast$Room", "place", "[I", true)
  | 5 => ("ChairPast$Room", "bearing", "[I", true)
  | 6 => ("ChairPast$Room", "chairCount", "I", false)
  | 7 => ("ChairPast$Room", "guestCount", "I", false)
  | _ => ("ChairPast$Room", "strife", "I", false)
def tyX9 : Nat → FieldType := fun k => match k with
  | 0 => .array (.object "ChairPast$Kind")
  | 1 => .array (.object "ChairPast$Chair")
  | 2 => .array .int
  | 3 => .array .int
  | 4 => .array .int
  | 5 => .array .int
  | 6 => .int
  | 7 => .int
  | _ => .int
theorem nmX9 : ∀ a, a < 9 → ∀ b, b < 9 → a ≠ b → (TX9 a).2.1 ≠ (TX9 b).2.1 := by decide +kernel
theorem tyX9_ok : ∀ k, k < 9 → parseFieldDescriptor (TX9 k).2.2.1 = some (tyX9 k) := by decide +kernel
def RX10 : String := "ChairPast$Throne"
def TX10 : u_T := fun k => match k with
  | _ => ("", "", "", false)
def tyX10 : Nat → FieldType := fun k => match k with
  | _ => .int
theorem nmX10 : ∀ a, a < 0 → ∀ b, b < 0 → a ≠ b → (TX10 a).2.1 ≠ (TX10 b).2.1 := by decide +kernel
theorem tyX10_ok : ∀ k, k < 0 → parseFieldDescriptor (TX10 k).2.2.1 = some (tyX10 k) := by decide +kernel
def RX11 : String := "ChairPast"
def TX11 : u_T := fun k => match k with
  | 0 => ("ChairPast", "rows", "[LChairPast$Line;", true)
  | 1 => ("ChairPast", "lanes", "[I", true)
  | 2 => ("ChairPast", "bodies", "LChairPast$Line;", true)
  | 3 => ("ChairPast", "images", "[LChairPast$Line;", true)
  | 4 => ("ChairPast", "acts", "[LChairPast$Line;", true)
  | 5 => ("ChairPast", "now", "LChairPast$Room;", true)
  | 6 => ("ChairPast", "reader", "LChairPast$Reader;", true)
  | 7 => ("ChairPast", "foresight", "LChairPast$Foresight;", true)
  | 8 => ("ChairPast", "oldestAct", "I", false)
  | 9 => ("ChairPast", "actsKept", "I", false)
  | 10 => ("ChairPast", "latestFault", "I", false)
  | _ => ("ChairPast", "latestFinding", "I", false)
def tyX11 : Nat → FieldType := fun k => match k with
  | 0 => .array (.object "ChairPast$Line")
  | 1 => .array .int
  | 2 => .object "ChairPast$Line"
  | 3 => .array (.object "ChairPast$Line")
  | 4 => .array (.object "ChairPast$Line")
  | 5 => .object "ChairPast$Room"
  | 6 => .object "ChairPast$Reader"
  | 7 => .object "ChairPast$Foresight"
  | 8 => .int
  | 9 => .int
  | 10 => .int
  | _ => .int
theorem nmX11 : ∀ a, a < 12 → ∀ b, b < 12 → a ≠ b → (TX11 a).2.1 ≠ (TX11 b).2.1 := by decide +kernel
theorem tyX11_ok : ∀ k, k < 12 → parseFieldDescriptor (TX11 k).2.2.1 = some (tyX11 k) := by decide +kernel
def RX12 : String := "ChairPastModel"
def TX12 : u_T := fun k => match k with
  | 0 => ("ChairPastModel", "lane", "[I", true)
  | 1 => ("ChairPastModel", "many", "[I", true)
  | 2 => ("ChairPastModel", "items", "[I", true)
  | 3 => ("ChairPastModel", "spare", "[I", true)
  | 4 => ("ChairPastModel", "status", "I", false)
  | 5 => ("ChairPastModel", "tape", "[I", true)
  | 6 => ("ChairPastModel", "taped", "I", false)
  | 7 => ("ChairPastModel", "faultKind", "I", false)
  | 8 => ("ChairPastModel", "faultPlace", "I", false)
  | 9 => ("ChairPastModel", "at", "I", false)
  | 10 => ("ChairPastModel", "start", "I", false)
  | 11 => ("ChairPastModel", "token", "I", false)
  | 12 => ("ChairPastModel", "value", "I", false)
  | 13 => ("ChairPastModel", "now", "[I", true)
  | 14 => ("ChairPastModel", "draft", "[I", true)
  | 15 => ("ChairPastModel", "tried", "[I", true)
  | 16 => ("ChairPastModel", "past", "[I", true)
  | 17 => ("ChairPastModel", "acts", "I", false)
  | 18 => ("ChairPastModel", "images", "[I", true)
  | 19 => ("ChairPastModel", "kept", "[Z", true)
  | 20 => ("ChairPastModel", "line", "[I", true)
  | 21 => ("ChairPastModel", "best", "[I", true)
  | 22 => ("ChairPastModel", "trace", "[I", true)
  | _ => ("ChairPastModel", "traced", "I", false)
def tyX12 : Nat → FieldType := fun k => match k with
  | 0 => .array .int
  | 1 => .array .int
  | 2 => .array .int
  | 3 => .array .int
  | 4 => .int
  | 5 => .array .int
  | 6 => .int
  | 7 => .int
  | 8 => .int
  | 9 => .int
  | 10 => .int
  | 11 => .int
  | 12 => .int
  | 13 => .array .int
  | 14 => .array .int
  | 15 => .array .int
  | 16 => .array .int
  | 17 => .int
  | 18 => .array .int
  | 19 => .array .boolean
  | 20 => .array .int
  | 21 => .array .int
  | 22 => .array .int
  | _ => .int
theorem nmX12 : ∀ a, a < 24 → ∀ b, b < 24 → a ≠ b → (TX12 a).2.1 ≠ (TX12 b).2.1 := by decide +kernel
theorem tyX12_ok : ∀ k, k < 24 → parseFieldDescriptor (TX12 k).2.2.1 = some (tyX12 k) := by decide +kernel
def RJ6 : String := "java/lang/Integer"
def RJ9 : String := "java/lang/Math"
def RJ10 : String := "java/lang/System"

abbrev jcl : List vw_C := [(RX0, TX0, 0), (RX1, TX1, 6), (RX2, TX2, 0), (RX3, TX3, 8), (RX5, TX5, 3), (RX6, TX6, 0), (RX7, TX7, 5), (RX8, TX8, 0), (RX9, TX9, 9), (RX10, TX10, 0), (RX11, TX11, 12), (RX12, TX12, 24)]

def oN (o : Nat) : String := match o with
  | 0 => RX0
  | 1 => RX1
  | 2 => RX2
  | 3 => RX3
  | 4 => RX4
  | 5 => RX5
  | 6 => RX6
  | 7 => RX7
  | 8 => RX8
  | 9 => RX9
  | 10 => RX10
  | 11 => RX11
  | 12 => RX12
  | 13 => RJ6
  | _ => RJ9

abbrev jM : Type := MethodName × ByteArray × Nat × Option FieldType × Nat × Nat

def mTl0 : List jM := [
  (⟨RX0, "<init>", "()V"⟩, prog_2_method_1_code, 1, none, 0, 0),
  (⟨RX0, "number", "()I"⟩, prog_2_method_2_code, 1, (some .int), 0, 0),
  (⟨RX0, "bearingOn", "(LChairPast$Chair;I)I"⟩, prog_2_method_3_code, 3, (some .int), 0, 2),
  (⟨RX0, "wear", "(LChairPast$Chair;)V"⟩, prog_2_method_4_code, 2, none, 0, 1),
  (⟨RX0, "markOf", "(LChairPast$Chair;LChairPast$Line;)I"⟩, prog_2_method_5_code, 3, (some .int), 0, 2),
  (⟨RX0, "mannerAfter", "(I)I"⟩, prog_2_method_6_code, 1, (some .int), 0, 1),
  (⟨RX1, "<init>", "(LChairPast$Kind;)V"⟩, prog_3_method_1_code, 2, none, 1, 1),
  (⟨RX1, "bearingOf", "(I)I"⟩, prog_3_method_2_code, 2, (some .int), 1, 1),
  (⟨RX1, "bear", "(II)I"⟩, prog_3_method_3_code, 4, (some .int), 1, 2),
  (⟨RX1, "isLike", "(II)Z"⟩, prog_3_method_4_code, 3, (some .boolean), 1, 2),
  (⟨RX1, "takeAfter", "(LChairPast$Chair;)V"⟩, prog_3_method_5_code, 2, none, 1, 1),
  (⟨RX1, "writeTo", "(LChairPast$Line;)V"⟩, prog_3_method_6_code, 2, none, 1, 1),
  (⟨RX1, "readFrom", "(LChairPast$Line;[LChairPast$Kind;)V"⟩, prog_3_method_7_code, 4, none, 1, 2),
  (⟨RX2, "<init>", "()V"⟩, prog_4_method_1_code, 1, none, 2, 0),
  (⟨RX2, "number", "()I"⟩, prog_4_method_2_code, 1, (some .int), 2, 0),
  (⟨RX2, "bearingOn", "(LChairPast$Chair;I)I"⟩, prog_4_method_3_code, 3, (some .int), 2, 2),
  (⟨RX2, "sizeOf", "(LChairPast$Chair;LChairPast$Line;)I"⟩, prog_4_method_4_code, 3, (some .int), 2, 2),
  (⟨RX3, "<init>", "(LChairPast$Room;[LChairPast$Kind;)V"⟩, prog_5_method_1_code, 3, none, 3, 2),
  (⟨RX3, "startTrial", "()V"⟩, prog_5_method_2_code, 1, none, 3, 0),
  (⟨RX3, "bearOnStool", "(I)I"⟩, prog_5_method_3_code, 2, (some .int), 3, 1),
  (⟨RX3, "wouldBe", "(III)I"⟩, prog_5_method_4_code, 5, (some .int), 3, 3),
  (⟨RX3, "bestSeating", "(I)I"⟩, prog_5_method_5_code, 4, (some .int), 3, 1),
  (⟨RX3, "seatFrom", "(I)V"⟩, prog_5_method_6_code, 3, none, 3, 1),
  (⟨RX3, "weighTrial", "()V"⟩, prog_5_method_7_code, 3, none, 3, 0),
  (⟨RX3, "fewestSittings", "(III)I"⟩, prog_5_method_8_code, 7, (some .int), 3, 3),
  (⟨RX3, "sitterOf", "(I)I"⟩, prog_5_method_9_code, 2, (some .int), 3, 1),
  (⟨RX3, "spellSitters", "(II)V"⟩, prog_5_method_10_code, 6, none, 3, 2),
  (⟨RX3, "bearingBehind", "(III)I"⟩, prog_5_method_11_code, 5, (some .int), 3, 3),
  (⟨RX3, "sittingsToOwn", "(II)I"⟩, prog_5_method_12_code, 4, (some .int), 3, 2),
  (⟨RX3, "sittersLeaving", "(III)I"⟩, prog_5_method_13_code, 6, (some .int), 3, 3),
  (⟨RX3, "pairsLeaving", "(III)I"⟩, prog_5_method_14_code, 7, (some .int), 3, 3),
  (⟨RX3, "ownsBy", "([II)I"⟩, prog_5_method_15_code, 5, (some .int), 3, 2),
  (⟨RX3, "ownGives", "(I[II)Z"⟩, prog_5_method_16_code, 5, (some .boolean), 3, 3),
  (⟨RX3, "fitsBy", "(I[III)I"⟩, prog_5_method_17_code, 9, (some .int), 3, 4),
  (⟨RX3, "alterStool", "(II)V"⟩, prog_5_method_18_code, 3, none, 3, 2),
  (⟨RX3, "stoolGives", "([II)Z"⟩, prog_5_method_19_code, 4, (some .boolean), 3, 2),
  (⟨RX3, "chanceOfPeace", "(III)I"⟩, prog_5_method_20_code, 7, (some .int), 3, 3),
  (⟨RX3, "peaceIfRecaned", "(I)I"⟩, prog_5_method_21_code, 4, (some .int), 3, 1),
  (⟨RX3, "weightOf", "(II)I"⟩, prog_5_method_22_code, 5, (some .int), 3, 2),
  (⟨RX3, "commonDivisor", "(II)I"⟩, prog_5_method_23_code, 6, (some .int), 3, 2),
  (⟨RX3, "eveningOf", "(III)I"⟩, prog_5_method_24_code, 8, (some .int), 3, 3),
  (⟨RX3, "drawnBearing", "(J)I"⟩, prog_5_method_25_code, 5, (some .int), 3, 1),
  (⟨RX4, "<init>", "()V"⟩, prog_6_method_1_code, 1, none, 4, 0),
  (⟨RX4, "sizeOf", "(LChairPast$Chair;LChairPast$Line;)I"⟩, prog_6_method_5_code, 3, (some .int), 4, 2),
  (⟨RX4, "markOf", "(LChairPast$Chair;LChairPast$Line;)I"⟩, prog_6_method_6_code, 3, (some .int), 4, 2),
  (⟨RX5, "<init>", "(I)V"⟩, prog_7_method_1_code, 2, none, 5, 1),
  (⟨RX5, "clear", "()V"⟩, prog_7_method_2_code, 1, none, 5, 0),
  (⟨RX5, "push", "(I)Z"⟩, prog_7_method_3_code, 2, (some .boolean), 5, 1),
  (⟨RX5, "numberAt", "(I)I"⟩, prog_7_method_4_code, 2, (some .int), 5, 1),
  (⟨RX5, "holds", "(II)Z"⟩, prog_7_method_5_code, 3, (some .boolean), 5, 2),
  (⟨RX5, "rewind", "()V"⟩, prog_7_method_6_code, 1, none, 5, 0),
  (⟨RX5, "next", "()I"⟩, prog_7_method_7_code, 1, (some .int), 5, 0),
  (⟨RX6, "<init>", "()V"⟩, prog_8_method_1_code, 1, none, 6, 0),
  (⟨RX6, "number", "()I"⟩, prog_8_method_2_code, 1, (some .int), 6, 0),
  (⟨RX6, "bearingOn", "(LChairPast$Chair;I)I"⟩, prog_8_method_3_code, 3, (some .int), 6, 2),
  (⟨RX6, "wear", "(LChairPast$Chair;)V"⟩, prog_8_method_4_code, 2, none, 6, 1),
  (⟨RX6, "sizeOf", "(LChairPast$Chair;LChairPast$Line;)I"⟩, prog_8_method_5_code, 4, (some .int), 6, 2),
  (⟨RX6, "markOf", "(LChairPast$Chair;LChairPast$Line;)I"⟩, prog_8_method_6_code, 3, (some .int), 6, 2),
  (⟨RX6, "blend", "(III)I"⟩, prog_8_method_7_code, 3, (some .int), 6, 3),
  (⟨RX7, "<init>", "([LChairPast$Kind;)V"⟩, prog_9_method_1_code, 2, none, 7, 1)]

def mTl1 : List jM := [
  (⟨RX7, "readTape", "()Z"⟩, prog_9_method_2_code, 1, (some .boolean), 7, 0),
  (⟨RX7, "draftPage", "()LChairPast$Line;"⟩, prog_9_method_3_code, 1, (some (.object "ChairPast$Line")), 7, 0),
  (⟨RX7, "readLaw", "()V"⟩, prog_9_method_4_code, 1, none, 7, 0),
  (⟨RX7, "readChairs", "()V"⟩, prog_9_method_5_code, 2, none, 7, 0),
  (⟨RX7, "readChair", "()V"⟩, prog_9_method_6_code, 5, none, 7, 0),
  (⟨RX7, "readGuests", "()V"⟩, prog_9_method_7_code, 2, none, 7, 0),
  (⟨RX7, "readGuest", "()V"⟩, prog_9_method_8_code, 3, none, 7, 0),
  (⟨RX7, "readSign", "(I)V"⟩, prog_9_method_9_code, 2, none, 7, 1),
  (⟨RX7, "readNumber", "(II)I"⟩, prog_9_method_10_code, 5, (some .int), 7, 2),
  (⟨RX7, "ahead", "()I"⟩, prog_9_method_11_code, 1, (some .int), 7, 0),
  (⟨RX7, "byteAt", "(I)I"⟩, prog_9_method_12_code, 2, (some .int), 7, 1),
  (⟨RX7, "isFigure", "(I)Z"⟩, prog_9_method_13_code, 1, (some .boolean), 7, 1),
  (⟨RX7, "kindBy", "(I)I"⟩, prog_9_method_14_code, 1, (some .int), 7, 1),
  (⟨RX7, "fail", "(I)V"⟩, prog_9_method_15_code, 2, none, 7, 1),
  (⟨RX8, "<init>", "()V"⟩, prog_10_method_1_code, 1, none, 8, 0),
  (⟨RX8, "number", "()I"⟩, prog_10_method_2_code, 1, (some .int), 8, 0),
  (⟨RX8, "bearingOn", "(LChairPast$Chair;I)I"⟩, prog_10_method_3_code, 3, (some .int), 8, 2),
  (⟨RX8, "sizeOf", "(LChairPast$Chair;LChairPast$Line;)I"⟩, prog_10_method_4_code, 3, (some .int), 8, 2),
  (⟨RX8, "markOf", "(LChairPast$Chair;LChairPast$Line;)I"⟩, prog_10_method_5_code, 3, (some .int), 8, 2),
  (⟨RX9, "<init>", "([LChairPast$Kind;)V"⟩, prog_11_method_1_code, 3, none, 9, 1),
  (⟨RX9, "empty", "()V"⟩, prog_11_method_2_code, 1, none, 9, 0),
  (⟨RX9, "addChair", "(IIII)V"⟩, prog_11_method_3_code, 6, none, 9, 4),
  (⟨RX9, "addGuest", "(II)V"⟩, prog_11_method_4_code, 3, none, 9, 2),
  (⟨RX9, "stands", "()Z"⟩, prog_11_method_5_code, 1, (some .boolean), 9, 0),
  (⟨RX9, "hasChair", "(I)Z"⟩, prog_11_method_6_code, 2, (some .boolean), 9, 1),
  (⟨RX9, "hasGuest", "(I)Z"⟩, prog_11_method_7_code, 2, (some .boolean), 9, 1),
  (⟨RX9, "isSeated", "(I)Z"⟩, prog_11_method_8_code, 2, (some .boolean), 9, 1),
  (⟨RX9, "isTaken", "(I)Z"⟩, prog_11_method_9_code, 2, (some .boolean), 9, 1),
  (⟨RX9, "seatGuest", "(II)V"⟩, prog_11_method_10_code, 3, none, 9, 2),
  (⟨RX9, "putGuest", "(III)V"⟩, prog_11_method_11_code, 4, none, 9, 3),
  (⟨RX9, "liftGuest", "(I)V"⟩, prog_11_method_12_code, 2, none, 9, 1),
  (⟨RX9, "swapWithNext", "(I)V"⟩, prog_11_method_13_code, 4, none, 9, 1),
  (⟨RX9, "peaceNow", "()I"⟩, prog_11_method_14_code, 3, (some .int), 9, 0),
  (⟨RX9, "peaceBehind", "(I)I"⟩, prog_11_method_15_code, 4, (some .int), 9, 1),
  (⟨RX9, "isTrio", "(I)Z"⟩, prog_11_method_16_code, 3, (some .boolean), 9, 1),
  (⟨RX9, "trioCount", "()I"⟩, prog_11_method_17_code, 3, (some .int), 9, 0),
  (⟨RX9, "firstTrio", "()I"⟩, prog_11_method_18_code, 2, (some .int), 9, 0),
  (⟨RX9, "firstFree", "()I"⟩, prog_11_method_19_code, 2, (some .int), 9, 0),
  (⟨RX9, "seatedGuests", "()I"⟩, prog_11_method_20_code, 3, (some .int), 9, 0),
  (⟨RX9, "takenChairs", "()I"⟩, prog_11_method_21_code, 3, (some .int), 9, 0),
  (⟨RX9, "allManners", "()I"⟩, prog_11_method_22_code, 3, (some .int), 9, 0),
  (⟨RX9, "writeTo", "(LChairPast$Line;)V"⟩, prog_11_method_23_code, 3, none, 9, 1),
  (⟨RX9, "readFrom", "(LChairPast$Line;)V"⟩, prog_11_method_24_code, 3, none, 9, 1),
  (⟨RX10, "<init>", "()V"⟩, prog_12_method_1_code, 1, none, 10, 0),
  (⟨RX10, "number", "()I"⟩, prog_12_method_2_code, 1, (some .int), 10, 0),
  (⟨RX10, "bearingOn", "(LChairPast$Chair;I)I"⟩, prog_12_method_3_code, 3, (some .int), 10, 2),
  (⟨RX10, "wear", "(LChairPast$Chair;)V"⟩, prog_12_method_4_code, 2, none, 10, 1),
  (⟨RX10, "sizeOf", "(LChairPast$Chair;LChairPast$Line;)I"⟩, prog_12_method_5_code, 3, (some .int), 10, 2),
  (⟨RX10, "markOf", "(LChairPast$Chair;LChairPast$Line;)I"⟩, prog_12_method_6_code, 4, (some .int), 10, 2),
  (⟨RX11, "<init>", "()V"⟩, prog_1_method_1_code, 4, none, 11, 0),
  (⟨RX11, "row", "(III)I"⟩, prog_1_method_2_code, 5, (some .int), 11, 3),
  (⟨RX11, "set", "(III)I"⟩, prog_1_method_3_code, 4, (some .int), 11, 3),
  (⟨RX11, "copy", "(IIIII)I"⟩, prog_1_method_4_code, 6, (some .int), 11, 5),
  (⟨RX11, "drop", "(I)I"⟩, prog_1_method_5_code, 3, (some .int), 11, 1),
  (⟨RX11, "feed", "(I)I"⟩, prog_1_method_6_code, 2, (some .int), 11, 1),
  (⟨RX11, "room", "()I"⟩, prog_1_method_7_code, 1, (some .int), 11, 0),
  (⟨RX11, "fault", "()I"⟩, prog_1_method_8_code, 1, (some .int), 11, 0),
  (⟨RX11, "sit", "(II)I"⟩, prog_1_method_9_code, 3, (some .int), 11, 2),
  (⟨RX11, "rise", "(I)I"⟩, prog_1_method_10_code, 3, (some .int), 11, 1),
  (⟨RX11, "recane", "(I)I"⟩, prog_1_method_11_code, 3, (some .int), 11, 1)]

def mTl2 : List jM := [
  (⟨RX11, "move", "(I)I"⟩, prog_1_method_12_code, 2, (some .int), 11, 1),
  (⟨RX11, "undo", "()I"⟩, prog_1_method_13_code, 1, (some .int), 11, 0),
  (⟨RX11, "chair", "(II)I"⟩, prog_1_method_14_code, 4, (some .int), 11, 2),
  (⟨RX11, "guest", "(II)I"⟩, prog_1_method_15_code, 3, (some .int), 11, 2),
  (⟨RX11, "peace", "()I"⟩, prog_1_method_16_code, 1, (some .int), 11, 0),
  (⟨RX11, "would", "(III)I"⟩, prog_1_method_17_code, 4, (some .int), 11, 3),
  (⟨RX11, "seating", "(I)I"⟩, prog_1_method_18_code, 2, (some .int), 11, 1),
  (⟨RX11, "warm", "(IIII)I"⟩, prog_1_method_19_code, 6, (some .int), 11, 4),
  (⟨RX11, "pure", "(II)I"⟩, prog_1_method_20_code, 3, (some .int), 11, 2),
  (⟨RX11, "between", "(IIII)I"⟩, prog_1_method_21_code, 5, (some .int), 11, 4),
  (⟨RX11, "trios", "(I)I"⟩, prog_1_method_22_code, 2, (some .int), 11, 1),
  (⟨RX11, "owns", "(III)I"⟩, prog_1_method_23_code, 5, (some .int), 11, 3),
  (⟨RX11, "fits", "(IIII)I"⟩, prog_1_method_24_code, 6, (some .int), 11, 4),
  (⟨RX11, "caned", "(III)I"⟩, prog_1_method_25_code, 4, (some .int), 11, 3),
  (⟨RX11, "drawn", "(III)I"⟩, prog_1_method_26_code, 4, (some .int), 11, 3),
  (⟨RX11, "image", "(I)I"⟩, prog_1_method_27_code, 2, (some .int), 11, 1),
  (⟨RX11, "restore", "(I)I"⟩, prog_1_method_28_code, 2, (some .int), 11, 1),
  (⟨RX11, "kind", "(I)I"⟩, prog_1_method_29_code, 2, (some .int), 11, 1),
  (⟨RX11, "as", "(II)I"⟩, prog_1_method_30_code, 3, (some .int), 11, 2),
  (⟨RX11, "ask", "(II)I"⟩, prog_1_method_31_code, 4, (some .int), 11, 2),
  (⟨RX11, "trace", "(I)I"⟩, prog_1_method_32_code, 2, (some .int), 11, 1),
  (⟨RX11, "count", "(I)I"⟩, prog_1_method_33_code, 2, (some .int), 11, 1),
  (⟨RX11, "status", "()I"⟩, prog_1_method_34_code, 1, (some .int), 11, 0),
  (⟨RX11, "within", "(III)Z"⟩, prog_1_method_35_code, 3, (some .boolean), 11, 3),
  (⟨RX11, "isRow", "(I)Z"⟩, prog_1_method_36_code, 1, (some .boolean), 11, 1),
  (⟨RX11, "isMissing", "(I)Z"⟩, prog_1_method_37_code, 2, (some .boolean), 11, 1),
  (⟨RX11, "rowsThere", "()I"⟩, prog_1_method_38_code, 3, (some .int), 11, 0),
  (⟨RX11, "narrowed", "(II)I"⟩, prog_1_method_39_code, 2, (some .int), 11, 2),
  (⟨RX11, "findingOf", "(III)I"⟩, prog_1_method_40_code, 4, (some .int), 11, 3),
  (⟨RX11, "found", "(I)I"⟩, prog_1_method_41_code, 2, (some .int), 11, 1),
  (⟨RX11, "sound", "(I)I"⟩, prog_1_method_42_code, 2, (some .int), 11, 1),
  (⟨RX11, "keepAct", "()V"⟩, prog_1_method_43_code, 1, none, 11, 0),
  (⟨RX11, "forgetActs", "()V"⟩, prog_1_method_44_code, 1, none, 11, 0),
  (⟨RX11, "isOf", "(LChairPast$Kind;I)Z"⟩, prog_1_method_45_code, 2, (some .boolean), 11, 2),
  (⟨RX12, "<init>", "()V"⟩, prog_14_method_1_code, 2, none, 12, 0),
  (⟨RX12, "in", "(III)Z"⟩, prog_14_method_3_code, 3, (some .boolean), 12, 3),
  (⟨RX12, "has", "(II)Z"⟩, prog_14_method_4_code, 2, (some .boolean), 12, 2),
  (⟨RX12, "found", "(I)I"⟩, prog_14_method_5_code, 2, (some .int), 12, 1),
  (⟨RX12, "well", "(I)I"⟩, prog_14_method_6_code, 2, (some .int), 12, 1),
  (⟨RX12, "copies", "([II[II)V"⟩, prog_14_method_7_code, 5, none, 12, 4),
  (⟨RX12, "isRow", "(I)Z"⟩, prog_14_method_8_code, 1, (some .boolean), 12, 1),
  (⟨RX12, "isMissing", "(I)Z"⟩, prog_14_method_9_code, 2, (some .boolean), 12, 1),
  (⟨RX12, "cut", "(II)I"⟩, prog_14_method_10_code, 2, (some .int), 12, 2),
  (⟨RX12, "row", "(III)I"⟩, prog_14_method_11_code, 5, (some .int), 12, 3),
  (⟨RX12, "set", "(III)I"⟩, prog_14_method_12_code, 4, (some .int), 12, 3),
  (⟨RX12, "isPart", "(III)Z"⟩, prog_14_method_13_code, 4, (some .boolean), 12, 3),
  (⟨RX12, "copy", "(IIIII)I"⟩, prog_14_method_14_code, 7, (some .int), 12, 5),
  (⟨RX12, "drop", "(I)I"⟩, prog_14_method_15_code, 2, (some .int), 12, 1),
  (⟨RX12, "feed", "(I)I"⟩, prog_14_method_16_code, 2, (some .int), 12, 1),
  (⟨RX12, "byteAt", "(I)I"⟩, prog_14_method_17_code, 2, (some .int), 12, 1),
  (⟨RX12, "advances", "()V"⟩, prog_14_method_18_code, 2, none, 12, 0),
  (⟨RX12, "isWell", "()Z"⟩, prog_14_method_19_code, 1, (some .boolean), 12, 0),
  (⟨RX12, "takes", "(ZI)I"⟩, prog_14_method_20_code, 4, (some .int), 12, 2),
  (⟨RX12, "figure", "(II)I"⟩, prog_14_method_21_code, 3, (some .int), 12, 2),
  (⟨RX12, "kindOf", "(I)I"⟩, prog_14_method_22_code, 1, (some .int), 12, 1),
  (⟨RX12, "follows", "(II)I"⟩, prog_14_method_23_code, 3, (some .int), 12, 2),
  (⟨RX12, "readsChair", "()V"⟩, prog_14_method_24_code, 6, none, 12, 0),
  (⟨RX12, "readsGuest", "()V"⟩, prog_14_method_25_code, 4, none, 12, 0),
  (⟨RX12, "must", "(Z)V"⟩, prog_14_method_26_code, 2, none, 12, 1),
  (⟨RX12, "room", "()I"⟩, prog_14_method_27_code, 2, (some .int), 12, 0)]

def mTl3 : List jM := [
  (⟨RX12, "fault", "()I"⟩, prog_14_method_28_code, 1, (some .int), 12, 0),
  (⟨RX12, "isRoom", "()Z"⟩, prog_14_method_29_code, 1, (some .boolean), 12, 0),
  (⟨RX12, "isChair", "(I)Z"⟩, prog_14_method_30_code, 2, (some .boolean), 12, 1),
  (⟨RX12, "isGuest", "(I)Z"⟩, prog_14_method_31_code, 2, (some .boolean), 12, 1),
  (⟨RX12, "mixed", "(III)I"⟩, prog_14_method_32_code, 3, (some .int), 12, 3),
  (⟨RX12, "bearing", "([III)I"⟩, prog_14_method_33_code, 5, (some .int), 12, 3),
  (⟨RX12, "sits", "([III)I"⟩, prog_14_method_34_code, 6, (some .int), 12, 3),
  (⟨RX12, "sitter", "([II)I"⟩, prog_14_method_35_code, 3, (some .int), 12, 2),
  (⟨RX12, "puts", "([III)V"⟩, prog_14_method_36_code, 3, none, 12, 3),
  (⟨RX12, "peaceOf", "([I)I"⟩, prog_14_method_37_code, 6, (some .int), 12, 1),
  (⟨RX12, "isTrio", "([II)Z"⟩, prog_14_method_38_code, 3, (some .boolean), 12, 2),
  (⟨RX12, "notes", "()V"⟩, prog_14_method_39_code, 2, none, 12, 0),
  (⟨RX12, "sit", "(II)I"⟩, prog_14_method_40_code, 3, (some .int), 12, 2),
  (⟨RX12, "rise", "(I)I"⟩, prog_14_method_41_code, 4, (some .int), 12, 1),
  (⟨RX12, "recane", "(I)I"⟩, prog_14_method_42_code, 3, (some .int), 12, 1),
  (⟨RX12, "move", "(I)I"⟩, prog_14_method_43_code, 4, (some .int), 12, 1),
  (⟨RX12, "undo", "()I"⟩, prog_14_method_44_code, 1, (some .int), 12, 0),
  (⟨RX12, "chair", "(II)I"⟩, prog_14_method_45_code, 3, (some .int), 12, 2),
  (⟨RX12, "guest", "(II)I"⟩, prog_14_method_46_code, 4, (some .int), 12, 2),
  (⟨RX12, "peace", "()I"⟩, prog_14_method_47_code, 1, (some .int), 12, 0),
  (⟨RX12, "would", "(III)I"⟩, prog_14_method_48_code, 5, (some .int), 12, 3),
  (⟨RX12, "counts", "(II)Z"⟩, prog_14_method_49_code, 4, (some .boolean), 12, 2),
  (⟨RX12, "seats", "()Z"⟩, prog_14_method_50_code, 4, (some .boolean), 12, 0),
  (⟨RX12, "seating", "(I)I"⟩, prog_14_method_51_code, 5, (some .int), 12, 1),
  (⟨RX12, "warm", "(IIII)I"⟩, prog_14_method_52_code, 8, (some .int), 12, 4),
  (⟨RX12, "pure", "(II)I"⟩, prog_14_method_53_code, 5, (some .int), 12, 2),
  (⟨RX12, "isLeft", "(III)Z"⟩, prog_14_method_54_code, 4, (some .boolean), 12, 3),
  (⟨RX12, "between", "(IIII)I"⟩, prog_14_method_55_code, 9, (some .int), 12, 4),
  (⟨RX12, "trios", "(I)I"⟩, prog_14_method_56_code, 5, (some .int), 12, 1),
  (⟨RX12, "owns", "(III)I"⟩, prog_14_method_57_code, 8, (some .int), 12, 3),
  (⟨RX12, "fits", "(IIII)I"⟩, prog_14_method_58_code, 11, (some .int), 12, 4),
  (⟨RX12, "sitDown", "()V"⟩, prog_14_method_59_code, 3, none, 12, 0),
  (⟨RX12, "caned", "(III)I"⟩, prog_14_method_60_code, 9, (some .int), 12, 3),
  (⟨RX12, "drawn", "(III)I"⟩, prog_14_method_61_code, 9, (some .int), 12, 3),
  (⟨RX12, "image", "(I)I"⟩, prog_14_method_62_code, 2, (some .int), 12, 1),
  (⟨RX12, "restore", "(I)I"⟩, prog_14_method_63_code, 2, (some .int), 12, 1),
  (⟨RX12, "kindIn", "(I)I"⟩, prog_14_method_64_code, 2, (some .int), 12, 1),
  (⟨RX12, "kind", "(I)I"⟩, prog_14_method_65_code, 2, (some .int), 12, 1),
  (⟨RX12, "as", "(II)I"⟩, prog_14_method_66_code, 5, (some .int), 12, 2),
  (⟨RX12, "begins", "(I)V"⟩, prog_14_method_67_code, 2, none, 12, 1),
  (⟨RX12, "plainMark", "(I)I"⟩, prog_14_method_68_code, 4, (some .int), 12, 1),
  (⟨RX12, "throneSize", "(I)I"⟩, prog_14_method_69_code, 4, (some .int), 12, 1),
  (⟨RX12, "plainSize", "(I)I"⟩, prog_14_method_70_code, 4, (some .int), 12, 1),
  (⟨RX12, "throneMark", "(I)I"⟩, prog_14_method_71_code, 2, (some .int), 12, 1),
  (⟨RX12, "ask", "(II)I"⟩, prog_14_method_72_code, 4, (some .int), 12, 2),
  (⟨RX12, "trace", "(I)I"⟩, prog_14_method_73_code, 2, (some .int), 12, 1),
  (⟨RX12, "sitting", "()I"⟩, prog_14_method_74_code, 3, (some .int), 12, 0),
  (⟨RX12, "takenChairs", "()I"⟩, prog_14_method_75_code, 3, (some .int), 12, 0),
  (⟨RX12, "count", "(I)I"⟩, prog_14_method_76_code, 4, (some .int), 12, 1),
  (⟨RX12, "status", "()I"⟩, prog_14_method_77_code, 1, (some .int), 12, 0)]

def mTl : List jM := mTl0 ++ (mTl1 ++ (mTl2 ++ (mTl3)))

def mT (m : Nat) : jM := mTl.getD m (⟨"", "", ""⟩, prog_2_method_1_code, 0, none, 0, 0)

def mY (m : Nat) : MethodName := (mT m).1
def mB (m : Nat) : ByteArray := (mT m).2.1
def mL (m : Nat) : Nat := (mT m).2.2.1
def mR (m : Nat) : Option FieldType := (mT m).2.2.2.1
def mO (m : Nat) : Nat := (mT m).2.2.2.2.1
def mP (m : Nat) : Nat := (mT m).2.2.2.2.2

def cQ (c : Nat) : vw_C := jcl.getD c ("", TX0, 0)
def cT (c : Nat) : u_T := (cQ c).2.1
def cN (c : Nat) : String := (cQ c).1
def cF (c : Nat) : Nat := (cQ c).2.2
/-- a field that holds a reference -/
def fR (c k : Nat) : Bool := !((cT c k).2.2.1 == "I")

def tFl : List (Nat × Nat × Nat × Nat × Nat × Nat × Nat) := [(5, 15, 95, 4, 0, 1, 1), (11, 103, 96, 4, 0, 1, 1), (5, 21, 97, 4, 1, 0, 0), (7, 51, 98, 4, 1, 0, 0), (11, 99, 99, 4, 1, 0, 0), (5, 25, 100, 4, 2, 0, 0),
  (1, 16, 163, 1, 0, 1, 0), (9, 47, 164, 1, 0, 1, 0), (3, 170, 165, 1, 0, 1, 0), (11, 277, 166, 1, 0, 1, 0), (0, 9, 167, 1, 1, 0, 0), (6, 9, 168, 1, 1, 0, 0),
  (8, 13, 169, 1, 1, 0, 0), (10, 13, 170, 1, 1, 0, 0), (1, 42, 171, 1, 1, 0, 0), (9, 51, 172, 1, 1, 0, 0), (3, 81, 173, 1, 1, 0, 0), (4, 19, 174, 1, 1, 0, 0),
  (11, 203, 175, 1, 1, 0, 0), (10, 7, 176, 1, 2, 0, 0), (6, 15, 177, 1, 2, 0, 0), (0, 21, 178, 1, 2, 0, 0), (8, 16, 179, 1, 2, 0, 0), (1, 39, 180, 1, 2, 0, 0),
  (9, 54, 181, 1, 2, 0, 0), (3, 85, 182, 1, 2, 0, 0), (11, 185, 183, 1, 2, 0, 0), (9, 57, 184, 1, 3, 0, 0), (4, 13, 185, 1, 3, 0, 0), (1, 45, 186, 1, 3, 0, 0),
  (11, 206, 187, 1, 3, 0, 0), (8, 7, 188, 1, 4, 0, 0), (1, 26, 189, 1, 4, 0, 0), (9, 60, 190, 1, 4, 0, 0), (11, 209, 191, 1, 4, 0, 0), (1, 10, 192, 1, 5, 0, 0),
  (9, 64, 193, 1, 5, 0, 0), (11, 212, 194, 1, 5, 0, 0), (9, 30, 208, 8, 0, 1, 1), (9, 11, 209, 8, 1, 1, 1), (3, 69, 210, 8, 1, 1, 1), (11, 181, 211, 8, 1, 1, 1),
  (9, 17, 212, 8, 2, 1, 1), (3, 59, 213, 8, 2, 1, 1), (11, 215, 214, 8, 2, 1, 1), (9, 21, 215, 8, 3, 1, 1), (3, 62, 216, 8, 3, 1, 1), (11, 218, 217, 8, 3, 1, 1),
  (9, 24, 218, 8, 4, 1, 1), (3, 139, 219, 8, 4, 1, 1), (11, 175, 220, 8, 4, 1, 1), (9, 27, 221, 8, 5, 1, 1), (11, 172, 222, 8, 5, 1, 1), (9, 37, 223, 8, 6, 0, 0),
  (3, 100, 224, 8, 6, 0, 0), (7, 85, 225, 8, 6, 0, 0), (11, 149, 226, 8, 6, 0, 0), (9, 41, 227, 8, 7, 0, 0), (3, 88, 228, 8, 7, 0, 0), (7, 95, 229, 8, 7, 0, 0),
  (11, 260, 230, 8, 7, 0, 0), (9, 44, 231, 8, 8, 0, 0), (7, 71, 232, 8, 8, 0, 0), (11, 307, 233, 8, 8, 0, 0), (7, 14, 263, 6, 0, 1, 1), (11, 120, 264, 6, 0, 1, 1),
  (7, 20, 265, 6, 1, 1, 1), (7, 28, 266, 6, 2, 1, 1), (7, 32, 267, 6, 3, 0, 0), (11, 135, 268, 6, 3, 0, 0), (7, 36, 269, 6, 4, 0, 0), (11, 128, 270, 6, 4, 0, 0),
  (3, 27, 294, 3, 0, 1, 1), (3, 40, 295, 3, 1, 1, 1), (3, 31, 296, 3, 2, 1, 1), (3, 48, 297, 3, 3, 1, 1), (3, 14, 298, 3, 4, 1, 1), (3, 20, 299, 3, 5, 1, 1),
  (3, 24, 300, 3, 6, 1, 1), (3, 110, 301, 3, 7, 0, 0), (11, 11, 319, 10, 0, 1, 1), (11, 15, 320, 10, 1, 1, 1), (11, 22, 321, 10, 2, 1, 1), (11, 26, 322, 10, 3, 1, 1),
  (11, 29, 323, 10, 4, 1, 1), (11, 54, 324, 10, 5, 1, 1), (11, 61, 325, 10, 6, 1, 1), (11, 70, 326, 10, 7, 1, 1), (11, 200, 327, 10, 8, 0, 0), (11, 197, 328, 10, 9, 0, 0),
  (11, 131, 329, 10, 10, 0, 0), (11, 310, 330, 10, 11, 0, 0), (12, 7, 986, 11, 0, 1, 1), (12, 13, 987, 11, 1, 1, 1), (12, 16, 988, 11, 2, 1, 1), (12, 19, 989, 11, 3, 1, 1),
  (12, 54, 990, 11, 4, 0, 0), (12, 22, 991, 11, 5, 1, 1), (12, 85, 992, 11, 6, 0, 0), (12, 111, 993, 11, 7, 0, 0), (12, 104, 994, 11, 8, 0, 0), (12, 89, 995, 11, 9, 0, 0),
  (12, 92, 996, 11, 10, 0, 0), (12, 101, 997, 11, 11, 0, 0), (12, 98, 998, 11, 12, 0, 0), (12, 25, 999, 11, 13, 1, 1), (12, 28, 1000, 11, 14, 1, 1), (12, 31, 1001, 11, 15, 1, 1),
  (12, 34, 1002, 11, 16, 1, 1), (12, 145, 1003, 11, 17, 0, 0), (12, 37, 1004, 11, 18, 1, 1), (12, 40, 1005, 11, 19, 1, 1), (12, 44, 1006, 11, 20, 1, 1), (12, 47, 1007, 11, 21, 1, 1),
  (12, 50, 1008, 11, 22, 1, 1), (12, 212, 1009, 11, 23, 0, 0)]

def tKl : List (Nat × Nat × Nat × Int) := [(1, 9, 162, (-1000000)), (11, 82, 366, (-1000001)), (11, 313, 371, (-1000010)), (11, 123, 414, (-1000003)), (5, 28, 447, (-1000000)), (9, 63, 474, (-1000000)),
  (11, 134, 488, (-1000100)), (11, 164, 567, (-1000002)), (13, 265, 724, 1431655765), (13, 266, 725, 858993459), (13, 267, 726, 252645135), (3, 106, 731, (-1000000)),
  (11, 234, 772, (-1000000)), (11, 270, 873, 999999), (12, 53, 985, (-1000000)), (12, 67, 1070, (-1000001)), (12, 58, 1075, (-1000010)), (12, 88, 1107, (-1000003)),
  (12, 140, 1151, (-1000100)), (12, 173, 1174, (-1000002)), (12, 204, 1288, 999999)]

def tKKl : List (Nat × Nat × Nat × Int) := [(3, 189, 878, 16807), (3, 191, 879, 2147483647), (12, 205, 1289, 16807), (12, 207, 1290, 2147483647)]

def tNl : List (Nat × Nat × Nat × Nat × Nat × Nat) := [(3, 9, 288, 4, 87, 62), (3, 35, 290, 8, 150, 70), (3, 43, 292, 1, 157, 71), (7, 9, 259, 4, 87, 62), (7, 23, 261, 8, 150, 70), (9, 9, 155, 1, 157, 71),
  (11, 9, 85, 4, 87, 62), (11, 34, 111, 5, 112, 65), (11, 37, 121, 7, 122, 66), (11, 40, 128, 0, 129, 67), (11, 43, 135, 9, 136, 68), (11, 46, 142, 2, 143, 69),
  (11, 49, 149, 8, 150, 70), (11, 58, 253, 6, 254, 72), (11, 65, 282, 3, 283, 73)]

def tAl : List (Nat × Nat × Nat × Nat × Nat) := [(9, 9, 155, 54, 156), (11, 9, 85, 52, 86), (11, 32, 109, 53, 110)]

def tOl : List (Nat × Nat × Nat × Nat) := [(11, 34, 111, 6), (11, 37, 121, 8), (11, 40, 128, 0), (11, 43, 135, 10), (11, 46, 142, 2)]

def tSl : List (Nat × Nat × Nat × Nat × Nat × Nat × Nat) := [(0, 15, 5, 587, 588, 67, 0), (0, 24, 58, 590, 592, 65, 591), (3, 180, 39, 866, 867, 73, 0), (6, 18, 58, 604, 592, 65, 0), (7, 78, 72, 463, 464, 72, 0), (7, 105, 71, 456, 457, 72, 0),
  (8, 19, 58, 608, 592, 65, 609), (11, 74, 144, 360, 361, 61, 0), (11, 78, 143, 363, 364, 61, 0), (11, 106, 147, 392, 393, 61, 0), (11, 284, 153, 905, 906, 61, 0), (12, 59, 155, 1067, 1068, 74, 0),
  (12, 63, 160, 1064, 1065, 74, 0), (12, 78, 162, 1088, 1089, 74, 0), (12, 124, 174, 1132, 1133, 74, 0), (12, 141, 159, 1152, 1153, 74, 0), (12, 148, 184, 1188, 1189, 74, 0), (12, 152, 185, 1185, 1186, 74, 0),
  (12, 156, 186, 1182, 1183, 74, 0), (12, 159, 187, 1171, 1172, 74, 0), (12, 163, 190, 1206, 1207, 74, 0), (12, 177, 188, 1179, 1180, 74, 0), (12, 181, 189, 1203, 1204, 74, 0), (12, 198, 156, 1277, 1278, 74, 0)]

def tMl : List (Nat × Nat × Nat × Nat) := [(1, 29, 4, 611), (2, 13, 3, 600), (3, 95, 1, 721), (3, 150, 3, 767), (5, 9, 3, 92), (9, 92, 2, 663),
  (11, 114, 0, 403)]

def tIl : List (Nat × Nat × Nat × Nat × Nat × Nat) := [(3, 11, 45, 289, 89, 62), (3, 37, 79, 291, 152, 70), (3, 45, 6, 293, 159, 71), (7, 11, 45, 260, 89, 62), (7, 25, 79, 262, 152, 70), (9, 34, 6, 158, 159, 71),
  (11, 19, 45, 88, 89, 62), (11, 51, 79, 151, 152, 70), (11, 60, 59, 255, 256, 72), (11, 67, 17, 284, 285, 73)]

def tJl : List (Nat × Nat × Nat × Nat × Nat × Nat) := [(0, 3, 52, 133, 114, 65), (2, 1, 103, 147, 138, 68), (6, 3, 42, 116, 117, 64), (8, 1, 52, 126, 114, 65), (10, 1, 42, 140, 117, 64), (11, 36, 52, 113, 114, 65),
  (11, 39, 74, 123, 124, 66), (11, 42, 0, 130, 131, 67), (11, 45, 103, 137, 138, 68), (11, 48, 13, 144, 145, 69)]

def tBl : List (Nat × Nat × Nat) := [(1, 3, 161), (3, 3, 287), (4, 1, 119), (5, 3, 91), (7, 3, 258), (9, 3, 154),
  (11, 3, 82), (12, 1, 984)]

def tPl : List (Nat × Nat × Nat × Nat × Nat × Nat × Nat × Nat) := [(0, 28, 55, 620, 621, 65, 1356, 134), (0, 38, 57, 928, 921, 65, 923, 134), (2, 7, 105, 597, 598, 68, 1355, 148), (2, 25, 107, 943, 944, 68, 1358, 148), (6, 30, 43, 919, 913, 64, 914, 120), (6, 37, 44, 935, 936, 64, 1357, 120),
  (8, 31, 56, 952, 916, 65, 1359, 127), (8, 35, 57, 933, 921, 65, 923, 127), (10, 22, 43, 947, 913, 64, 914, 141), (10, 26, 44, 958, 936, 64, 1357, 141)]

def tVl : List (Nat × Nat × Nat × Nat × Nat × Nat × Nat × Nat × Nat × Nat × Nat × Nat) := [(0, 32, 1, 4, 47, 927, 378, 377, 62, 0, 0, 0), (1, 20, 2, 5, 54, 581, 601, 602, 65, 1, 583, 582), (1, 20, 2, 7, 76, 581, 605, 606, 66, 1, 583, 582), (1, 20, 2, 0, 2, 581, 584, 585, 67, 1, 583, 582), (1, 20, 2, 9, 105, 581, 610, 598, 68, 1, 583, 582), (1, 20, 2, 2, 15, 581, 594, 595, 69, 1, 583, 582),
  (1, 35, 1, 5, 55, 614, 626, 621, 65, 1, 616, 615), (1, 35, 1, 7, 55, 614, 627, 621, 65, 1, 616, 615), (1, 35, 1, 0, 3, 614, 617, 618, 67, 1, 616, 615), (1, 35, 1, 9, 106, 614, 628, 624, 68, 1, 616, 615), (1, 35, 1, 2, 106, 614, 623, 624, 68, 1, 616, 615), (1, 48, 0, 5, 53, 503, 512, 513, 65, 1, 505, 504),
  (1, 48, 0, 7, 75, 503, 515, 516, 66, 1, 505, 504), (1, 48, 0, 0, 1, 503, 506, 507, 67, 1, 505, 504), (1, 48, 0, 9, 104, 503, 518, 519, 68, 1, 505, 504), (1, 48, 0, 2, 14, 503, 509, 510, 69, 1, 505, 504), (1, 52, 1, 4, 47, 521, 378, 377, 62, 0, 0, 0), (1, 58, 0, 4, 51, 538, 532, 531, 62, 0, 0, 0),
  (2, 19, 1, 4, 47, 942, 378, 377, 62, 0, 0, 0), (3, 52, 1, 8, 101, 736, 495, 494, 70, 0, 0, 0), (3, 56, 1, 8, 102, 737, 524, 523, 70, 0, 0, 0), (3, 65, 2, 1, 8, 707, 579, 578, 71, 0, 0, 0), (3, 73, 1, 1, 10, 699, 701, 700, 71, 0, 0, 0), (3, 77, 1, 3, 19, 703, 17, 705, 73, 0, 0, 0),
  (3, 91, 0, 8, 98, 716, 718, 717, 70, 0, 0, 0), (3, 103, 0, 8, 99, 727, 729, 728, 70, 0, 0, 0), (3, 107, 0, 3, 18, 732, 18, 734, 73, 0, 0, 0), (3, 113, 1, 3, 22, 738, 19, 740, 73, 0, 0, 0), (3, 116, 0, 3, 23, 742, 20, 744, 73, 0, 0, 0), (3, 119, 1, 8, 86, 747, 561, 560, 70, 0, 0, 0),
  (3, 123, 1, 8, 87, 748, 565, 564, 70, 0, 0, 0), (3, 126, 1, 1, 7, 749, 751, 750, 71, 0, 0, 0), (3, 129, 3, 8, 89, 753, 631, 630, 70, 0, 0, 0), (3, 133, 1, 8, 90, 754, 639, 638, 70, 0, 0, 0), (3, 136, 0, 8, 92, 746, 657, 656, 70, 0, 0, 0), (3, 142, 2, 3, 26, 763, 21, 765, 73, 0, 0, 0),
  (3, 146, 3, 3, 27, 768, 22, 770, 73, 0, 0, 0), (3, 155, 2, 1, 9, 793, 795, 794, 71, 0, 0, 0), (3, 159, 3, 3, 32, 825, 24, 827, 73, 0, 0, 0), (3, 163, 2, 3, 34, 837, 25, 839, 73, 0, 0, 0), (3, 166, 2, 3, 35, 841, 26, 843, 73, 0, 0, 0), (3, 174, 1, 3, 37, 853, 27, 855, 73, 0, 0, 0),
  (3, 177, 2, 3, 38, 862, 28, 864, 73, 0, 0, 0), (3, 183, 0, 8, 97, 857, 859, 858, 70, 0, 0, 0), (3, 186, 2, 8, 88, 861, 575, 574, 70, 0, 0, 0), (3, 193, 1, 3, 41, 880, 29, 882, 73, 0, 0, 0), (3, 197, 0, 8, 100, 884, 886, 885, 70, 0, 0, 0), (4, 7, 1, 4, 47, 938, 378, 377, 62, 0, 0, 0),
  (6, 24, 1, 4, 47, 918, 378, 377, 62, 0, 0, 0), (6, 34, 2, 5, 57, 920, 922, 921, 65, 0, 0, 0), (6, 34, 2, 7, 78, 920, 929, 930, 66, 2, 923, 921), (6, 34, 2, 0, 4, 920, 924, 925, 67, 2, 923, 921), (7, 39, 0, 8, 80, 423, 425, 424, 70, 0, 0, 0), (7, 42, 0, 6, 62, 427, 3, 429, 72, 0, 0, 0),
  (7, 45, 0, 6, 63, 459, 9, 461, 72, 0, 0, 0), (7, 48, 0, 6, 65, 475, 11, 477, 72, 0, 0, 0), (7, 54, 1, 6, 73, 448, 7, 450, 72, 0, 0, 0), (7, 57, 0, 4, 46, 487, 374, 373, 62, 0, 0, 0), (7, 60, 1, 8, 101, 493, 495, 494, 70, 0, 0, 0), (7, 64, 1, 6, 67, 431, 4, 433, 72, 0, 0, 0),
  (7, 67, 2, 6, 68, 452, 8, 454, 72, 0, 0, 0), (7, 74, 0, 6, 69, 435, 5, 437, 72, 0, 0, 0), (7, 82, 0, 6, 64, 466, 10, 468, 72, 0, 0, 0), (7, 88, 4, 8, 81, 470, 472, 471, 70, 0, 0, 0), (7, 92, 0, 6, 66, 479, 12, 481, 72, 0, 0, 0), (7, 98, 2, 8, 82, 483, 485, 484, 70, 0, 0, 0),
  (7, 102, 1, 6, 70, 439, 6, 441, 72, 0, 0, 0), (7, 109, 1, 4, 48, 443, 445, 444, 62, 0, 0, 0), (8, 25, 1, 4, 47, 932, 378, 377, 62, 0, 0, 0), (9, 67, 2, 1, 8, 577, 579, 578, 71, 0, 0, 0), (9, 71, 3, 8, 89, 629, 631, 630, 70, 0, 0, 0), (9, 75, 1, 8, 84, 641, 557, 556, 70, 0, 0, 0),
  (9, 79, 1, 8, 85, 654, 553, 552, 70, 0, 0, 0), (9, 82, 1, 8, 93, 659, 15, 661, 70, 0, 0, 0), (9, 86, 1, 8, 94, 666, 16, 668, 70, 0, 0, 0), (9, 89, 1, 8, 87, 670, 565, 564, 70, 0, 0, 0), (9, 97, 1, 8, 86, 720, 561, 560, 70, 0, 0, 0), (9, 100, 0, 4, 46, 497, 374, 373, 62, 0, 0, 0),
  (9, 105, 1, 4, 47, 498, 378, 377, 62, 0, 0, 0), (9, 108, 1, 1, 11, 499, 501, 500, 71, 0, 0, 0), (9, 112, 0, 4, 50, 526, 528, 527, 62, 0, 0, 0), (9, 115, 0, 4, 51, 530, 532, 531, 62, 0, 0, 0), (9, 119, 2, 1, 12, 534, 536, 535, 71, 0, 0, 0), (10, 16, 1, 4, 47, 946, 378, 377, 62, 0, 0, 0),
  (10, 29, 2, 9, 107, 959, 1363, 944, 68, 0, 0, 0), (10, 29, 2, 2, 16, 959, 1362, 940, 69, 2, 1358, 944), (11, 83, 1, 10, 149, 367, 0, 369, 61, 0, 0, 0), (11, 87, 0, 4, 46, 372, 374, 373, 62, 0, 0, 0), (11, 90, 1, 4, 47, 376, 378, 377, 62, 0, 0, 0), (11, 93, 1, 10, 150, 380, 1, 382, 61, 0, 0, 0),
  (11, 96, 1, 10, 145, 388, 2, 390, 61, 0, 0, 0), (11, 110, 2, 4, 49, 399, 401, 400, 62, 0, 0, 0), (11, 124, 0, 6, 60, 419, 421, 420, 72, 0, 0, 0), (11, 138, 0, 6, 61, 489, 491, 490, 72, 0, 0, 0), (11, 142, 1, 8, 102, 522, 524, 523, 70, 0, 0, 0), (11, 146, 0, 10, 152, 539, 13, 541, 61, 0, 0, 0),
  (11, 152, 1, 8, 85, 551, 553, 552, 70, 0, 0, 0), (11, 155, 1, 8, 84, 555, 557, 556, 70, 0, 0, 0), (11, 158, 1, 8, 86, 559, 561, 560, 70, 0, 0, 0), (11, 161, 1, 8, 87, 563, 565, 564, 70, 0, 0, 0), (11, 165, 0, 10, 151, 568, 14, 570, 61, 0, 0, 0), (11, 168, 2, 8, 88, 573, 575, 574, 70, 0, 0, 0),
  (11, 178, 1, 8, 90, 637, 639, 638, 70, 0, 0, 0), (11, 190, 1, 8, 91, 650, 652, 651, 70, 0, 0, 0), (11, 193, 0, 8, 92, 655, 657, 656, 70, 0, 0, 0), (11, 221, 0, 8, 83, 687, 689, 688, 70, 0, 0, 0), (11, 224, 3, 3, 20, 695, 697, 696, 73, 0, 0, 0), (11, 228, 1, 3, 21, 712, 714, 713, 73, 0, 0, 0),
  (11, 231, 3, 3, 24, 759, 761, 760, 73, 0, 0, 0), (11, 235, 1, 3, 25, 773, 775, 774, 73, 0, 0, 0), (11, 238, 2, 3, 28, 781, 783, 782, 73, 0, 0, 0), (11, 241, 3, 3, 29, 789, 791, 790, 73, 0, 0, 0), (11, 244, 3, 3, 30, 797, 799, 798, 73, 0, 0, 0), (11, 247, 0, 8, 95, 805, 807, 806, 70, 0, 0, 0),
  (11, 250, 0, 8, 96, 809, 811, 810, 70, 0, 0, 0), (11, 253, 3, 10, 148, 817, 23, 819, 61, 0, 0, 0), (11, 256, 2, 3, 31, 821, 823, 822, 73, 0, 0, 0), (11, 263, 4, 3, 33, 833, 835, 834, 73, 0, 0, 0), (11, 267, 3, 3, 36, 849, 851, 850, 73, 0, 0, 0), (11, 271, 3, 3, 40, 874, 876, 875, 73, 0, 0, 0),
  (11, 274, 1, 8, 101, 572, 495, 494, 70, 0, 0, 0), (11, 281, 0, 5, 53, 900, 512, 513, 65, 1, 505, 504), (11, 281, 0, 7, 75, 900, 515, 516, 66, 1, 505, 504), (11, 281, 0, 0, 1, 900, 506, 507, 67, 1, 505, 504), (11, 281, 0, 9, 104, 900, 518, 519, 68, 1, 505, 504), (11, 281, 0, 2, 14, 900, 509, 510, 69, 1, 505, 504),
  (11, 288, 2, 5, 56, 912, 948, 916, 65, 2, 914, 913), (11, 288, 2, 7, 77, 912, 949, 950, 66, 2, 914, 913), (11, 288, 2, 0, 56, 912, 915, 916, 65, 2, 914, 913), (11, 288, 2, 9, 107, 912, 953, 944, 68, 2, 914, 913), (11, 288, 2, 2, 16, 912, 939, 940, 69, 2, 914, 913), (11, 292, 2, 5, 57, 955, 1364, 921, 65, 2, 1357, 936),
  (11, 292, 2, 7, 78, 955, 1365, 930, 66, 2, 1357, 936), (11, 292, 2, 0, 4, 955, 1360, 925, 67, 2, 1357, 936), (11, 292, 2, 9, 108, 955, 1366, 956, 68, 2, 1357, 936), (11, 292, 2, 2, 108, 955, 1361, 956, 68, 2, 1357, 936), (11, 295, 1, 4, 48, 964, 445, 444, 62, 0, 0, 0), (11, 298, 0, 10, 146, 969, 30, 971, 61, 0, 0, 0),
  (11, 301, 0, 8, 98, 973, 718, 717, 70, 0, 0, 0), (11, 304, 0, 8, 99, 974, 729, 728, 70, 0, 0, 0), (12, 68, 1, 11, 157, 1071, 31, 1073, 74, 0, 0, 0), (12, 72, 1, 11, 158, 1076, 32, 1078, 74, 0, 0, 0), (12, 75, 1, 11, 161, 1084, 33, 1086, 74, 0, 0, 0), (12, 82, 3, 11, 165, 1095, 34, 1097, 74, 0, 0, 0),
  (12, 95, 1, 11, 169, 1116, 36, 1118, 74, 0, 0, 0), (12, 107, 0, 11, 171, 1124, 38, 1126, 74, 0, 0, 0), (12, 114, 0, 11, 170, 1112, 35, 1114, 74, 0, 0, 0), (12, 117, 2, 11, 172, 1120, 37, 1122, 74, 0, 0, 0), (12, 121, 2, 11, 173, 1128, 39, 1130, 74, 0, 0, 0), (12, 127, 2, 11, 175, 1143, 42, 1145, 74, 0, 0, 0),
  (12, 130, 1, 11, 178, 1135, 40, 1137, 74, 0, 0, 0), (12, 134, 0, 11, 176, 1139, 41, 1141, 74, 0, 0, 0), (12, 137, 0, 11, 177, 1147, 43, 1149, 74, 0, 0, 0), (12, 167, 1, 11, 183, 1163, 44, 1165, 74, 0, 0, 0), (12, 170, 1, 11, 182, 1167, 45, 1169, 74, 0, 0, 0), (12, 174, 0, 11, 191, 1175, 46, 1177, 74, 0, 0, 0),
  (12, 185, 0, 11, 181, 1225, 47, 1227, 74, 0, 0, 0), (12, 188, 0, 11, 202, 1237, 48, 1239, 74, 0, 0, 0), (12, 191, 2, 11, 201, 1241, 49, 1243, 74, 0, 0, 0), (12, 195, 3, 11, 206, 1257, 50, 1259, 74, 0, 0, 0), (12, 201, 0, 11, 211, 1280, 51, 1282, 74, 0, 0, 0), (12, 209, 1, 11, 216, 1303, 52, 1305, 74, 0, 0, 0),
  (12, 215, 1, 11, 219, 1319, 54, 1321, 74, 0, 0, 0), (12, 219, 1, 11, 220, 1327, 56, 1329, 74, 0, 0, 0), (12, 222, 1, 11, 221, 1315, 53, 1317, 74, 0, 0, 0), (12, 225, 1, 11, 222, 1323, 55, 1325, 74, 0, 0, 0), (12, 228, 1, 11, 223, 1331, 57, 1333, 74, 0, 0, 0), (12, 231, 0, 11, 226, 1343, 58, 1345, 74, 0, 0, 0),
  (12, 235, 0, 11, 227, 1347, 59, 1349, 74, 0, 0, 0)]
