def RX0 : String := "TramFaith$Asked"
def TX0 : u_T := fun k => match k with
  | 0 => ("TramFaith$Asked", "number", "I", false)
  | 1 => ("TramFaith$Asked", "faith", "I", false)
  | 2 => ("TramFaith$Asked", "waited", "I", false)
  | 3 => ("TramFaith$Asked", "begun", "I", false)
  | _ => ("TramFaith$Asked", "bodies", "[I", true)
def tyX0 : Nat → FieldType := fun k => match k with
  | 0 => .int
  | 1 => .int
  | 2 => .int
  | 3 => .int
  | _ => .array .int
abbrev wsX00 : List Cond := u_ws RX0 TX0 5
theorem nmX0 : ∀ a, a < 5 → ∀ b, b < 5 → a ≠ b → (TX0 a).2.1 ≠ (TX0 b).2.1 := by decide +kernel
theorem tyX0_ok : ∀ k, k < 5 → parseFieldDescriptor (TX0 k).2.2.1 = some (tyX0 k) := by decide +kernel
abbrev cX0_init : ByteArray := prog_2_method_1_code
def yX0_init : MethodName := ⟨RX0, "<init>", "()V"⟩
abbrev cX0_beginAbout : ByteArray := prog_2_method_2_code
def yX0_beginAbout : MethodName := ⟨RX0, "beginAbout", "(III)V"⟩
abbrev cX0_leave : ByteArray := prog_2_method_3_code
def yX0_leave : MethodName := ⟨RX0, "leave", "(I)V"⟩
abbrev cX0_bodyAt : ByteArray := prog_2_method_4_code
def yX0_bodyAt : MethodName := ⟨RX0, "bodyAt", "(I)I"⟩
def RX1 : String := "TramFaith$Child"
def TX1 : u_T := fun k => match k with
  | _ => ("", "", "", false)
def tyX1 : Nat → FieldType := fun k => match k with
  | _ => .int
abbrev wsX10 : List Cond := u_ws RX1 TX1 0
theorem nmX1 : ∀ a, a < 0 → ∀ b, b < 0 → a ≠ b → (TX1 a).2.1 ≠ (TX1 b).2.1 := by decide +kernel
theorem tyX1_ok : ∀ k, k < 0 → parseFieldDescriptor (TX1 k).2.2.1 = some (tyX1 k) := by decide +kernel
abbrev cX1_init : ByteArray := prog_3_method_1_code
def yX1_init : MethodName := ⟨RX1, "<init>", "()V"⟩
abbrev cX1_hopesBy : ByteArray := prog_3_method_2_code
def yX1_hopesBy : MethodName := ⟨RX1, "hopesBy", "(III)I"⟩
abbrev cX1_askSize : ByteArray := prog_3_method_3_code
def yX1_askSize : MethodName := ⟨RX1, "askSize", "(LTramFaith$Asked;)I"⟩
abbrev cX1_askMark : ByteArray := prog_3_method_4_code
def yX1_askMark : MethodName := ⟨RX1, "askMark", "(LTramFaith$Asked;)I"⟩
def RX2 : String := "TramFaith$Crowd"
def TX2 : u_T := fun k => match k with
  | _ => ("", "", "", false)
def tyX2 : Nat → FieldType := fun k => match k with
  | _ => .int
abbrev wsX20 : List Cond := u_ws RX2 TX2 0
theorem nmX2 : ∀ a, a < 0 → ∀ b, b < 0 → a ≠ b → (TX2 a).2.1 ≠ (TX2 b).2.1 := by decide +kernel
theorem tyX2_ok : ∀ k, k < 0 → parseFieldDescriptor (TX2 k).2.2.1 = some (tyX2 k) := by decide +kernel
abbrev cX2_init : ByteArray := prog_4_method_1_code
def yX2_init : MethodName := ⟨RX2, "<init>", "()V"⟩
abbrev cX2_hopesBy : ByteArray := prog_4_method_2_code
def yX2_hopesBy : MethodName := ⟨RX2, "hopesBy", "(III)I"⟩
abbrev cX2_askSize : ByteArray := prog_4_method_3_code
def yX2_askSize : MethodName := ⟨RX2, "askSize", "(LTramFaith$Asked;)I"⟩
abbrev cX2_askMark : ByteArray := prog_4_method_4_code
def yX2_askMark : MethodName := ⟨RX2, "askMark", "(LTramFaith$Asked;)I"⟩
def RX3 : String := "TramFaith$Doubter"
def TX3 : u_T := fun k => match k with
  | _ => ("", "", "", false)
def tyX3 : Nat → FieldType := fun k => match k with
  | _ => .int
abbrev wsX30 : List Cond := u_ws RX3 TX3 0
theorem nmX3 : ∀ a, a < 0 → ∀ b, b < 0 → a ≠ b → (TX3 a).2.1 ≠ (TX3 b).2.1 := by decide +kernel
theorem tyX3_ok : ∀ k, k < 0 → parseFieldDescriptor (TX3 k).2.2.1 = some (tyX3 k) := by decide +kernel
abbrev cX3_init : ByteArray := prog_5_method_1_code
def yX3_init : MethodName := ⟨RX3, "<init>", "()V"⟩
abbrev cX3_hopesBy : ByteArray := prog_5_method_2_code
def yX3_hopesBy : MethodName := ⟨RX3, "hopesBy", "(III)I"⟩
abbrev cX3_askMark : ByteArray := prog_5_method_3_code
def yX3_askMark : MethodName := ⟨RX3, "askMark", "(LTramFaith$Asked;)I"⟩
def RX4 : String := "TramFaith$Line"
def TX4 : u_T := fun k => match k with
  | 0 => ("TramFaith$Line", "stops", "I", false)
  | 1 => ("TramFaith$Line", "bound", "I", false)
  | 2 => ("TramFaith$Line", "people", "I", false)
  | 3 => ("TramFaith$Line", "minute", "I", false)
  | 4 => ("TramFaith$Line", "kind", "[I", true)
  | 5 => ("TramFaith$Line", "at", "[I", true)
  | 6 => ("TramFaith$Line", "faith", "[I", true)
  | 7 => ("TramFaith$Line", "wants", "[I", true)
  | 8 => ("TramFaith$Line", "waited", "[I", true)
  | 9 => ("TramFaith$Line", "waiters", "[LTramFaith$Waiter;", true)
  | 10 => ("TramFaith$Line", "crowds", "[I", true)
  | _ => ("TramFaith$Line", "hopes", "[I", true)
def tyX4 : Nat → FieldType := fun k => match k with
  | 0 => .int
  | 1 => .int
  | 2 => .int
  | 3 => .int
  | 4 => .array .int
  | 5 => .array .int
  | 6 => .array .int
  | 7 => .array .int
  | 8 => .array .int
  | 9 => .array (.object "TramFaith$Waiter")
  | 10 => .array .int
  | _ => .array .int
abbrev wsX40 : List Cond := u_ws RX4 TX4 12
theorem nmX4 : ∀ a, a < 12 → ∀ b, b < 12 → a ≠ b → (TX4 a).2.1 ≠ (TX4 b).2.1 := by decide +kernel
theorem tyX4_ok : ∀ k, k < 12 → parseFieldDescriptor (TX4 k).2.2.1 = some (tyX4 k) := by decide +kernel
abbrev cX4_init : ByteArray := prog_6_method_1_code
def yX4_init : MethodName := ⟨RX4, "<init>", "([LTramFaith$Waiter;)V"⟩
abbrev cX4_begin : ByteArray := prog_6_method_2_code
def yX4_begin : MethodName := ⟨RX4, "begin", "(II)V"⟩
abbrev cX4_add : ByteArray := prog_6_method_3_code
def yX4_add : MethodName := ⟨RX4, "add", "(IIII)V"⟩
abbrev cX4_become : ByteArray := prog_6_method_4_code
def yX4_become : MethodName := ⟨RX4, "become", "(LTramFaith$Line;)V"⟩
abbrev cX4_waiter : ByteArray := prog_6_method_5_code
def yX4_waiter : MethodName := ⟨RX4, "waiter", "(I)LTramFaith$Waiter;"⟩
abbrev cX4_everybody : ByteArray := prog_6_method_6_code
def yX4_everybody : MethodName := ⟨RX4, "everybody", "()I"⟩
abbrev cX4_thereBits : ByteArray := prog_6_method_7_code
def yX4_thereBits : MethodName := ⟨RX4, "thereBits", "()I"⟩
abbrev cX4_whoIsAt : ByteArray := prog_6_method_8_code
def yX4_whoIsAt : MethodName := ⟨RX4, "whoIsAt", "(I)I"⟩
abbrev cX4_hopeOf : ByteArray := prog_6_method_9_code
def yX4_hopeOf : MethodName := ⟨RX4, "hopeOf", "(I)I"⟩
abbrev cX4_hopeAt : ByteArray := prog_6_method_10_code
def yX4_hopeAt : MethodName := ⟨RX4, "hopeAt", "(I)I"⟩
abbrev cX4_holdingBits : ByteArray := prog_6_method_11_code
def yX4_holdingBits : MethodName := ⟨RX4, "holdingBits", "()I"⟩
abbrev cX4_tramWithout : ByteArray := prog_6_method_12_code
def yX4_tramWithout : MethodName := ⟨RX4, "tramWithout", "(I)I"⟩
abbrev cX4_pass : ByteArray := prog_6_method_13_code
def yX4_pass : MethodName := ⟨RX4, "pass", "(I)I"⟩
abbrev cX4_moveTo : ByteArray := prog_6_method_14_code
def yX4_moveTo : MethodName := ⟨RX4, "moveTo", "(II)V"⟩
abbrev cX4_leastHope : ByteArray := prog_6_method_15_code
def yX4_leastHope : MethodName := ⟨RX4, "leastHope", "()I"⟩
abbrev cX4_tellHopes : ByteArray := prog_6_method_16_code
def yX4_tellHopes : MethodName := ⟨RX4, "tellHopes", "(I)V"⟩
abbrev cX4_tellCrowds : ByteArray := prog_6_method_17_code
def yX4_tellCrowds : MethodName := ⟨RX4, "tellCrowds", "()V"⟩
def RX5 : String := "TramFaith$Past"
def TX5 : u_T := fun k => match k with
  | 0 => ("TramFaith$Past", "kept", "I", false)
  | 1 => ("TramFaith$Past", "oldest", "I", false)
  | _ => ("TramFaith$Past", "pages", "[I", true)
def tyX5 : Nat → FieldType := fun k => match k with
  | 0 => .int
  | 1 => .int
  | _ => .array .int
abbrev wsX50 : List Cond := u_ws RX5 TX5 3
theorem nmX5 : ∀ a, a < 3 → ∀ b, b < 3 → a ≠ b → (TX5 a).2.1 ≠ (TX5 b).2.1 := by decide +kernel
theorem tyX5_ok : ∀ k, k < 3 → parseFieldDescriptor (TX5 k).2.2.1 = some (tyX5 k) := by decide +kernel
abbrev cX5_init : ByteArray := prog_7_method_1_code
def yX5_init : MethodName := ⟨RX5, "<init>", "()V"⟩
abbrev cX5_forget : ByteArray := prog_7_method_2_code
def yX5_forget : MethodName := ⟨RX5, "forget", "()V"⟩
abbrev cX5_keep : ByteArray := prog_7_method_3_code
def yX5_keep : MethodName := ⟨RX5, "keep", "(LTramFaith$Line;)V"⟩
abbrev cX5_takeBack : ByteArray := prog_7_method_4_code
def yX5_takeBack : MethodName := ⟨RX5, "takeBack", "(LTramFaith$Line;)V"⟩
abbrev cX5_pageOf : ByteArray := prog_7_method_5_code
def yX5_pageOf : MethodName := ⟨RX5, "pageOf", "(I)I"⟩
def RX6 : String := "TramFaith$Plain"
def TX6 : u_T := fun k => match k with
  | _ => ("", "", "", false)
def tyX6 : Nat → FieldType := fun k => match k with
  | _ => .int
abbrev wsX60 : List Cond := u_ws RX6 TX6 0
theorem nmX6 : ∀ a, a < 0 → ∀ b, b < 0 → a ≠ b → (TX6 a).2.1 ≠ (TX6 b).2.1 := by decide +kernel
theorem tyX6_ok : ∀ k, k < 0 → parseFieldDescriptor (TX6 k).2.2.1 = some (tyX6 k) := by decide +kernel
abbrev cX6_init : ByteArray := prog_8_method_1_code
def yX6_init : MethodName := ⟨RX6, "<init>", "()V"⟩
abbrev cX6_hopesBy : ByteArray := prog_8_method_2_code
def yX6_hopesBy : MethodName := ⟨RX6, "hopesBy", "(III)I"⟩
abbrev cX6_askSize : ByteArray := prog_8_method_3_code
def yX6_askSize : MethodName := ⟨RX6, "askSize", "(LTramFaith$Asked;)I"⟩
abbrev cX6_askMark : ByteArray := prog_8_method_4_code
def yX6_askMark : MethodName := ⟨RX6, "askMark", "(LTramFaith$Asked;)I"⟩
def RX7 : String := "TramFaith$Saint"
def TX7 : u_T := fun k => match k with
  | _ => ("", "", "", false)
def tyX7 : Nat → FieldType := fun k => match k with
  | _ => .int
abbrev wsX70 : List Cond := u_ws RX7 TX7 0
theorem nmX7 : ∀ a, a < 0 → ∀ b, b < 0 → a ≠ b → (TX7 a).2.1 ≠ (TX7 b).2.1 := by decide +kernel
theorem tyX7_ok : ∀ k, k < 0 → parseFieldDescriptor (TX7 k).2.2.1 = some (tyX7 k) := by decide +kernel
abbrev cX7_init : ByteArray := prog_9_method_1_code
def yX7_init : MethodName := ⟨RX7, "<init>", "()V"⟩
abbrev cX7_hopesBy : ByteArray := prog_9_method_2_code
def yX7_hopesBy : MethodName := ⟨RX7, "hopesBy", "(III)I"⟩
abbrev cX7_askSize : ByteArray := prog_9_method_3_code
def yX7_askSize : MethodName := ⟨RX7, "askSize", "(LTramFaith$Asked;)I"⟩
def RX8 : String := "TramFaith$Shelf"
def TX8 : u_T := fun k => match k with
  | 0 => ("TramFaith$Shelf", "items", "[[I", true)
  | 1 => ("TramFaith$Shelf", "lanes", "[I", true)
  | _ => ("TramFaith$Shelf", "sizes", "[I", true)
def tyX8 : Nat → FieldType := fun k => match k with
  | 0 => .array (.array .int)
  | 1 => .array .int
  | _ => .array .int
abbrev wsX80 : List Cond := u_ws RX8 TX8 3
theorem nmX8 : ∀ a, a < 3 → ∀ b, b < 3 → a ≠ b → (TX8 a).2.1 ≠ (TX8 b).2.1 := by decide +kernel
theorem tyX8_ok : ∀ k, k < 3 → parseFieldDescriptor (TX8 k).2.2.1 = some (tyX8 k) := by decide +kernel
abbrev cX8_init : ByteArray := prog_10_method_1_code
def yX8_init : MethodName := ⟨RX8, "<init>", "()V"⟩
abbrev cX8_isMissing : ByteArray := prog_10_method_2_code
def yX8_isMissing : MethodName := ⟨RX8, "isMissing", "(I)Z"⟩
abbrev cX8_howMany : ByteArray := prog_10_method_3_code
def yX8_howMany : MethodName := ⟨RX8, "howMany", "()I"⟩
abbrev cX8_make : ByteArray := prog_10_method_4_code
def yX8_make : MethodName := ⟨RX8, "make", "(III)V"⟩
abbrev cX8_remove : ByteArray := prog_10_method_5_code
def yX8_remove : MethodName := ⟨RX8, "remove", "(I)I"⟩
abbrev cX8_itemAt : ByteArray := prog_10_method_6_code
def yX8_itemAt : MethodName := ⟨RX8, "itemAt", "(II)I"⟩
abbrev cX8_put : ByteArray := prog_10_method_7_code
def yX8_put : MethodName := ⟨RX8, "put", "(III)I"⟩
abbrev cX8_move : ByteArray := prog_10_method_8_code
def yX8_move : MethodName := ⟨RX8, "move", "(IIIII)V"⟩
abbrev cX8_findingOf : ByteArray := prog_10_method_9_code
def yX8_findingOf : MethodName := ⟨RX8, "findingOf", "(III)I"⟩
abbrev cX8_findingOfMove : ByteArray := prog_10_method_10_code
def yX8_findingOfMove : MethodName := ⟨RX8, "findingOfMove", "(IIIII)I"⟩
abbrev cX8_hasSpan : ByteArray := prog_10_method_11_code
def yX8_hasSpan : MethodName := ⟨RX8, "hasSpan", "(III)Z"⟩
def RX9 : String := "TramFaith$Tape"
def TX9 : u_T := fun k => match k with
  | 0 => ("TramFaith$Tape", "size", "I", false)
  | 1 => ("TramFaith$Tape", "fault", "I", false)
  | 2 => ("TramFaith$Tape", "faultPlace", "I", false)
  | 3 => ("TramFaith$Tape", "letters", "[I", true)
  | 4 => ("TramFaith$Tape", "next", "I", false)
  | _ => ("TramFaith$Tape", "number", "I", false)
def tyX9 : Nat → FieldType := fun k => match k with
  | 0 => .int
  | 1 => .int
  | 2 => .int
  | 3 => .array .int
  | 4 => .int
  | _ => .int
abbrev wsX90 : List Cond := u_ws RX9 TX9 6
theorem nmX9 : ∀ a, a < 6 → ∀ b, b < 6 → a ≠ b → (TX9 a).2.1 ≠ (TX9 b).2.1 := by decide +kernel
theorem tyX9_ok : ∀ k, k < 6 → parseFieldDescriptor (TX9 k).2.2.1 = some (tyX9 k) := by decide +kernel
abbrev cX9_init : ByteArray := prog_11_method_1_code
def yX9_init : MethodName := ⟨RX9, "<init>", "()V"⟩
abbrev cX9_put : ByteArray := prog_11_method_2_code
def yX9_put : MethodName := ⟨RX9, "put", "(I)V"⟩
abbrev cX9_readInto : ByteArray := prog_11_method_3_code
def yX9_readInto : MethodName := ⟨RX9, "readInto", "(LTramFaith$Line;)Z"⟩
abbrev cX9_readLaw : ByteArray := prog_11_method_4_code
def yX9_readLaw : MethodName := ⟨RX9, "readLaw", "(LTramFaith$Line;)Z"⟩
abbrev cX9_readPeople : ByteArray := prog_11_method_5_code
def yX9_readPeople : MethodName := ⟨RX9, "readPeople", "(LTramFaith$Line;)Z"⟩
abbrev cX9_readPerson : ByteArray := prog_11_method_6_code
def yX9_readPerson : MethodName := ⟨RX9, "readPerson", "(LTramFaith$Line;I)Z"⟩
abbrev cX9_takeSign : ByteArray := prog_11_method_7_code
def yX9_takeSign : MethodName := ⟨RX9, "takeSign", "(C)Z"⟩
abbrev cX9_takeNumber : ByteArray := prog_11_method_8_code
def yX9_takeNumber : MethodName := ⟨RX9, "takeNumber", "(II)Z"⟩
abbrev cX9_fails : ByteArray := prog_11_method_9_code
def yX9_fails : MethodName := ⟨RX9, "fails", "(I)Z"⟩
def RX10 : String := "TramFaith$Waiter"
def TX10 : u_T := fun k => match k with
  | _ => ("", "", "", false)
def tyX10 : Nat → FieldType := fun k => match k with
  | _ => .int
abbrev wsX100 : List Cond := u_ws RX10 TX10 0
theorem nmX10 : ∀ a, a < 0 → ∀ b, b < 0 → a ≠ b → (TX10 a).2.1 ≠ (TX10 b).2.1 := by decide +kernel
theorem tyX10_ok : ∀ k, k < 0 → parseFieldDescriptor (TX10 k).2.2.1 = some (tyX10 k) := by decide +kernel
abbrev cX10_init : ByteArray := prog_12_method_1_code
def yX10_init : MethodName := ⟨RX10, "<init>", "()V"⟩
abbrev cX10_askSize : ByteArray := prog_12_method_3_code
def yX10_askSize : MethodName := ⟨RX10, "askSize", "(LTramFaith$Asked;)I"⟩
abbrev cX10_askMark : ByteArray := prog_12_method_4_code
def yX10_askMark : MethodName := ⟨RX10, "askMark", "(LTramFaith$Asked;)I"⟩
def RX11 : String := "TramFaith"
def TX11 : u_T := fun k => match k with
  | 0 => ("TramFaith", "shelf", "LTramFaith$Shelf;", true)
  | 1 => ("TramFaith", "tape", "LTramFaith$Tape;", true)
  | 2 => ("TramFaith", "line", "LTramFaith$Line;", true)
  | 3 => ("TramFaith", "play", "LTramFaith$Line;", true)
  | 4 => ("TramFaith", "images", "[LTramFaith$Line;", true)
  | 5 => ("TramFaith", "past", "LTramFaith$Past;", true)
  | 6 => ("TramFaith", "asked", "LTramFaith$Asked;", true)
  | 7 => ("TramFaith", "latestFault", "I", false)
  | _ => ("TramFaith", "latestFinding", "I", false)
def tyX11 : Nat → FieldType := fun k => match k with
  | 0 => .object "TramFaith$Shelf"
  | 1 => .object "TramFaith$Tape"
  | 2 => .object "TramFaith$Line"
  | 3 => .object "TramFaith$Line"
  | 4 => .array (.object "TramFaith$Line")
  | 5 => .object "TramFaith$Past"
  | 6 => .object "TramFaith$Asked"
  | 7 => .int
  | _ => .int
abbrev wsX110 : List Cond := u_ws RX11 TX11 9
theorem nmX11 : ∀ a, a < 9 → ∀ b, b < 9 → a ≠ b → (TX11 a).2.1 ≠ (TX11 b).2.1 := by decide +kernel
theorem tyX11_ok : ∀ k, k < 9 → parseFieldDescriptor (TX11 k).2.2.1 = some (tyX11 k) := by decide +kernel
abbrev cX11_init : ByteArray := prog_1_method_1_code
def yX11_init : MethodName := ⟨RX11, "<init>", "()V"⟩
abbrev cX11_row : ByteArray := prog_1_method_2_code
def yX11_row : MethodName := ⟨RX11, "row", "(III)I"⟩
abbrev cX11_set : ByteArray := prog_1_method_3_code
def yX11_set : MethodName := ⟨RX11, "set", "(III)I"⟩
abbrev cX11_copy : ByteArray := prog_1_method_4_code
def yX11_copy : MethodName := ⟨RX11, "copy", "(IIIII)I"⟩
abbrev cX11_drop : ByteArray := prog_1_method_5_code
def yX11_drop : MethodName := ⟨RX11, "drop", "(I)I"⟩
abbrev cX11_feed : ByteArray := prog_1_method_6_code
def yX11_feed : MethodName := ⟨RX11, "feed", "(I)I"⟩
abbrev cX11_line : ByteArray := prog_1_method_7_code
def yX11_line : MethodName := ⟨RX11, "line", "()I"⟩
abbrev cX11_fault : ByteArray := prog_1_method_8_code
def yX11_fault : MethodName := ⟨RX11, "fault", "()I"⟩
abbrev cX11_minutes : ByteArray := prog_1_method_9_code
def yX11_minutes : MethodName := ⟨RX11, "minutes", "(I)I"⟩
abbrev cX11_walk : ByteArray := prog_1_method_10_code
def yX11_walk : MethodName := ⟨RX11, "walk", "(II)I"⟩
abbrev cX11_preach : ByteArray := prog_1_method_11_code
def yX11_preach : MethodName := ⟨RX11, "preach", "(II)I"⟩
abbrev cX11_wish : ByteArray := prog_1_method_12_code
def yX11_wish : MethodName := ⟨RX11, "wish", "(II)I"⟩
abbrev cX11_undo : ByteArray := prog_1_method_13_code
def yX11_undo : MethodName := ⟨RX11, "undo", "()I"⟩
abbrev cX11_person : ByteArray := prog_1_method_14_code
def yX11_person : MethodName := ⟨RX11, "person", "(II)I"⟩
abbrev cX11_stop : ByteArray := prog_1_method_15_code
def yX11_stop : MethodName := ⟨RX11, "stop", "(II)I"⟩
abbrev cX11_where : ByteArray := prog_1_method_16_code
def yX11_where : MethodName := ⟨RX11, "where", "(II)I"⟩
abbrev cX11_tram : ByteArray := prog_1_method_17_code
def yX11_tram : MethodName := ⟨RX11, "tram", "(I)I"⟩
abbrev cX11_there : ByteArray := prog_1_method_18_code
def yX11_there : MethodName := ⟨RX11, "there", "(I)I"⟩
abbrev cX11_when : ByteArray := prog_1_method_19_code
def yX11_when : MethodName := ⟨RX11, "when", "(I)I"⟩
abbrev cX11_all : ByteArray := prog_1_method_20_code
def yX11_all : MethodName := ⟨RX11, "all", "()I"⟩
abbrev cX11_never : ByteArray := prog_1_method_21_code
def yX11_never : MethodName := ⟨RX11, "never", "()I"⟩
abbrev cX11_holding : ByteArray := prog_1_method_22_code
def yX11_holding : MethodName := ⟨RX11, "holding", "()I"⟩
abbrev cX11_call : ByteArray := prog_1_method_23_code
def yX11_call : MethodName := ⟨RX11, "call", "(II)I"⟩
abbrev cX11_go : ByteArray := prog_1_method_24_code
def yX11_go : MethodName := ⟨RX11, "go", "(II)I"⟩
abbrev cX11_walkers : ByteArray := prog_1_method_25_code
def yX11_walkers : MethodName := ⟨RX11, "walkers", "(II)I"⟩
abbrev cX11_fits : ByteArray := prog_1_method_26_code
def yX11_fits : MethodName := ⟨RX11, "fits", "(IIIII)I"⟩
abbrev cX11_bounds : ByteArray := prog_1_method_27_code
def yX11_bounds : MethodName := ⟨RX11, "bounds", "(III)I"⟩
abbrev cX11_rain : ByteArray := prog_1_method_28_code
def yX11_rain : MethodName := ⟨RX11, "rain", "(III)I"⟩
abbrev cX11_drawn : ByteArray := prog_1_method_29_code
def yX11_drawn : MethodName := ⟨RX11, "drawn", "(III)I"⟩
abbrev cX11_image : ByteArray := prog_1_method_30_code
def yX11_image : MethodName := ⟨RX11, "image", "(I)I"⟩
abbrev cX11_restore : ByteArray := prog_1_method_31_code
def yX11_restore : MethodName := ⟨RX11, "restore", "(I)I"⟩
abbrev cX11_kind : ByteArray := prog_1_method_32_code
def yX11_kind : MethodName := ⟨RX11, "kind", "(I)I"⟩
abbrev cX11_as : ByteArray := prog_1_method_33_code
def yX11_as : MethodName := ⟨RX11, "as", "(II)I"⟩
abbrev cX11_ask : ByteArray := prog_1_method_34_code
def yX11_ask : MethodName := ⟨RX11, "ask", "(II)I"⟩
abbrev cX11_trace : ByteArray := prog_1_method_35_code
def yX11_trace : MethodName := ⟨RX11, "trace", "(I)I"⟩
abbrev cX11_count : ByteArray := prog_1_method_36_code
def yX11_count : MethodName := ⟨RX11, "count", "(I)I"⟩
abbrev cX11_status : ByteArray := prog_1_method_37_code
def yX11_status : MethodName := ⟨RX11, "status", "()I"⟩
abbrev cX11_isWithin : ByteArray := prog_1_method_38_code
def yX11_isWithin : MethodName := ⟨RX11, "isWithin", "(III)Z"⟩
abbrev cX11_isIn : ByteArray := prog_1_method_39_code
def yX11_isIn : MethodName := ⟨RX11, "isIn", "(II)Z"⟩
abbrev cX11_isRow : ByteArray := prog_1_method_40_code
def yX11_isRow : MethodName := ⟨RX11, "isRow", "(I)Z"⟩
abbrev cX11_hasLine : ByteArray := prog_1_method_41_code
def yX11_hasLine : MethodName := ⟨RX11, "hasLine", "()Z"⟩
abbrev cX11_isPerson : ByteArray := prog_1_method_42_code
def yX11_isPerson : MethodName := ⟨RX11, "isPerson", "(I)Z"⟩
abbrev cX11_isStop : ByteArray := prog_1_method_43_code
def yX11_isStop : MethodName := ⟨RX11, "isStop", "(I)Z"⟩
abbrev cX11_found : ByteArray := prog_1_method_44_code
def yX11_found : MethodName := ⟨RX11, "found", "(I)I"⟩
abbrev cX11_foundNothing : ByteArray := prog_1_method_45_code
def yX11_foundNothing : MethodName := ⟨RX11, "foundNothing", "(I)I"⟩
abbrev cX11_isOne : ByteArray := prog_1_method_46_code
def yX11_isOne : MethodName := ⟨RX11, "isOne", "(LTramFaith$Waiter;I)Z"⟩
abbrev cX11_playFor : ByteArray := prog_1_method_47_code
def yX11_playFor : MethodName := ⟨RX11, "playFor", "(I)V"⟩
abbrev cX11_playTill : ByteArray := prog_1_method_48_code
def yX11_playTill : MethodName := ⟨RX11, "playTill", "(III)I"⟩
abbrev cX11_callerBy : ByteArray := prog_1_method_49_code
def yX11_callerBy : MethodName := ⟨RX11, "callerBy", "(II)I"⟩
abbrev cX11_soonFrom : ByteArray := prog_1_method_50_code
def yX11_soonFrom : MethodName := ⟨RX11, "soonFrom", "(II)I"⟩
abbrev cX11_leastWalkers : ByteArray := prog_1_method_51_code
def yX11_leastWalkers : MethodName := ⟨RX11, "leastWalkers", "(II)I"⟩
abbrev cX11_faithsBy : ByteArray := prog_1_method_52_code
def yX11_faithsBy : MethodName := ⟨RX11, "faithsBy", "(IIII)I"⟩
abbrev cX11_sortsBy : ByteArray := prog_1_method_53_code
def yX11_sortsBy : MethodName := ⟨RX11, "sortsBy", "(IIII)I"⟩
abbrev cX11_boundsBy : ByteArray := prog_1_method_54_code
def yX11_boundsBy : MethodName := ⟨RX11, "boundsBy", "(III)I"⟩
abbrev cX11_playIsAsTold : ByteArray := prog_1_method_55_code
def yX11_playIsAsTold : MethodName := ⟨RX11, "playIsAsTold", "(III)Z"⟩
abbrev cX11_waysOf : ByteArray := prog_1_method_56_code
def yX11_waysOf : MethodName := ⟨RX11, "waysOf", "(II)I"⟩
abbrev cX11_sharedBy : ByteArray := prog_1_method_57_code
def yX11_sharedBy : MethodName := ⟨RX11, "sharedBy", "(II)I"⟩
abbrev cX11_preachByDraw : ByteArray := prog_1_method_58_code
def yX11_preachByDraw : MethodName := ⟨RX11, "preachByDraw", "(J)V"⟩
def RX12 : String := "TramFaithModel"
def TX12 : u_T := fun k => match k with
  | 0 => ("TramFaithModel", "lane", "[I", true)
  | 1 => ("TramFaithModel", "many", "[I", true)
  | 2 => ("TramFaithModel", "items", "[I", true)
  | 3 => ("TramFaithModel", "spare", "[I", true)
  | 4 => ("TramFaithModel", "status", "I", false)
  | 5 => ("TramFaithModel", "tape", "[I", true)
  | 6 => ("TramFaithModel", "taped", "I", false)
  | 7 => ("TramFaithModel", "faultKind", "I", false)
  | 8 => ("TramFaithModel", "faultPlace", "I", false)
  | 9 => ("TramFaithModel", "at", "I", false)
  | 10 => ("TramFaithModel", "start", "I", false)
  | 11 => ("TramFaithModel", "token", "I", false)
  | 12 => ("TramFaithModel", "value", "I", false)
  | 13 => ("TramFaithModel", "now", "[I", true)
  | 14 => ("TramFaithModel", "draft", "[I", true)
  | 15 => ("TramFaithModel", "tried", "[I", true)
  | 16 => ("TramFaithModel", "past", "[I", true)
  | 17 => ("TramFaithModel", "acts", "I", false)
  | 18 => ("TramFaithModel", "images", "[I", true)
  | 19 => ("TramFaithModel", "kept", "[Z", true)
  | 20 => ("TramFaithModel", "trace", "[I", true)
  | _ => ("TramFaithModel", "traced", "I", false)
def tyX12 : Nat → FieldType := fun k => match k with
  | 0 => .array .int
  | 1 => .array .int
  | 2 => .array .int
  | 3 => .array .int
  | 4 => .int
  | 5 => .array .int
  | 6 => .int
  | 7 => .int
  | 8 => .int
  | 9 => .int
  | 10 => .int
  | 11 => .int
  | 12 => .int
  | 13 => .array .int
  | 14 => .array .int
  | 15 => .array .int
  | 16 => .array .int
  | 17 => .int
  | 18 => .array .int
  | 19 => .array .boolean
  | 20 => .array .int
  | _ => .int
abbrev wsX120 : List Cond := u_ws RX12 TX12 22
theorem nmX12 : ∀ a, a < 22 → ∀ b, b < 22 → a ≠ b → (TX12 a).2.1 ≠ (TX12 b).2.1 := by decide +kernel
theorem tyX12_ok : ∀ k, k < 22 → parseFieldDescriptor (TX12 k).2.2.1 = some (tyX12 k) := by decide +kernel
abbrev cX12_init : ByteArray := prog_14_method_1_code
def yX12_init : MethodName := ⟨RX12, "<init>", "()V"⟩
abbrev cX12_in : ByteArray := prog_14_method_3_code
def yX12_in : MethodName := ⟨RX12, "in", "(III)Z"⟩
abbrev cX12_has : ByteArray := prog_14_method_4_code
def yX12_has : MethodName := ⟨RX12, "has", "(II)Z"⟩
abbrev cX12_ones : ByteArray := prog_14_method_5_code
def yX12_ones : MethodName := ⟨RX12, "ones", "(I)I"⟩
abbrev cX12_found : ByteArray := prog_14_method_6_code
def yX12_found : MethodName := ⟨RX12, "found", "(I)I"⟩
abbrev cX12_well : ByteArray := prog_14_method_7_code
def yX12_well : MethodName := ⟨RX12, "well", "(I)I"⟩
abbrev cX12_copies : ByteArray := prog_14_method_8_code
def yX12_copies : MethodName := ⟨RX12, "copies", "([II[II)V"⟩
abbrev cX12_isRow : ByteArray := prog_14_method_9_code
def yX12_isRow : MethodName := ⟨RX12, "isRow", "(I)Z"⟩
abbrev cX12_isMissing : ByteArray := prog_14_method_10_code
def yX12_isMissing : MethodName := ⟨RX12, "isMissing", "(I)Z"⟩
abbrev cX12_cut : ByteArray := prog_14_method_11_code
def yX12_cut : MethodName := ⟨RX12, "cut", "(II)I"⟩
abbrev cX12_row : ByteArray := prog_14_method_12_code
def yX12_row : MethodName := ⟨RX12, "row", "(III)I"⟩
abbrev cX12_set : ByteArray := prog_14_method_13_code
def yX12_set : MethodName := ⟨RX12, "set", "(III)I"⟩
abbrev cX12_isPart : ByteArray := prog_14_method_14_code
def yX12_isPart : MethodName := ⟨RX12, "isPart", "(III)Z"⟩
abbrev cX12_copy : ByteArray := prog_14_method_15_code
def yX12_copy : MethodName := ⟨RX12, "copy", "(IIIII)I"⟩
abbrev cX12_drop : ByteArray := prog_14_method_16_code
def yX12_drop : MethodName := ⟨RX12, "drop", "(I)I"⟩
abbrev cX12_feed : ByteArray := prog_14_method_17_code
def yX12_feed : MethodName := ⟨RX12, "feed", "(I)I"⟩
abbrev cX12_byteAt : ByteArray := prog_14_method_18_code
def yX12_byteAt : MethodName := ⟨RX12, "byteAt", "(I)I"⟩
abbrev cX12_advances : ByteArray := prog_14_method_19_code
def yX12_advances : MethodName := ⟨RX12, "advances", "()V"⟩
abbrev cX12_isWell : ByteArray := prog_14_method_20_code
def yX12_isWell : MethodName := ⟨RX12, "isWell", "()Z"⟩
abbrev cX12_takes : ByteArray := prog_14_method_21_code
def yX12_takes : MethodName := ⟨RX12, "takes", "(ZI)I"⟩
abbrev cX12_figure : ByteArray := prog_14_method_22_code
def yX12_figure : MethodName := ⟨RX12, "figure", "(II)I"⟩
abbrev cX12_kindOf : ByteArray := prog_14_method_23_code
def yX12_kindOf : MethodName := ⟨RX12, "kindOf", "(I)I"⟩
abbrev cX12_next : ByteArray := prog_14_method_24_code
def yX12_next : MethodName := ⟨RX12, "next", "(II)I"⟩
abbrev cX12_readsPerson : ByteArray := prog_14_method_25_code
def yX12_readsPerson : MethodName := ⟨RX12, "readsPerson", "()V"⟩
abbrev cX12_line : ByteArray := prog_14_method_26_code
def yX12_line : MethodName := ⟨RX12, "line", "()I"⟩
abbrev cX12_fault : ByteArray := prog_14_method_27_code
def yX12_fault : MethodName := ⟨RX12, "fault", "()I"⟩
abbrev cX12_isLine : ByteArray := prog_14_method_28_code
def yX12_isLine : MethodName := ⟨RX12, "isLine", "()Z"⟩
abbrev cX12_isPerson : ByteArray := prog_14_method_29_code
def yX12_isPerson : MethodName := ⟨RX12, "isPerson", "(I)Z"⟩
abbrev cX12_isStop : ByteArray := prog_14_method_30_code
def yX12_isStop : MethodName := ⟨RX12, "isStop", "(I)Z"⟩
abbrev cX12_isFar : ByteArray := prog_14_method_31_code
def yX12_isFar : MethodName := ⟨RX12, "isFar", "(I)Z"⟩
abbrev cX12_atStop : ByteArray := prog_14_method_32_code
def yX12_atStop : MethodName := ⟨RX12, "atStop", "([II)I"⟩
abbrev cX12_hopes : ByteArray := prog_14_method_33_code
def yX12_hopes : MethodName := ⟨RX12, "hopes", "([II)I"⟩
abbrev cX12_hope : ByteArray := prog_14_method_34_code
def yX12_hope : MethodName := ⟨RX12, "hope", "([III)I"⟩
abbrev cX12_holds : ByteArray := prog_14_method_35_code
def yX12_holds : MethodName := ⟨RX12, "holds", "([II)Z"⟩
abbrev cX12_tramBy : ByteArray := prog_14_method_36_code
def yX12_tramBy : MethodName := ⟨RX12, "tramBy", "([II)I"⟩
abbrev cX12_isThere : ByteArray := prog_14_method_37_code
def yX12_isThere : MethodName := ⟨RX12, "isThere", "([II)Z"⟩
abbrev cX12_thereIn : ByteArray := prog_14_method_38_code
def yX12_thereIn : MethodName := ⟨RX12, "thereIn", "([I)I"⟩
abbrev cX12_everybody : ByteArray := prog_14_method_39_code
def yX12_everybody : MethodName := ⟨RX12, "everybody", "([I)I"⟩
abbrev cX12_passes : ByteArray := prog_14_method_40_code
def yX12_passes : MethodName := ⟨RX12, "passes", "([II)V"⟩
abbrev cX12_tries : ByteArray := prog_14_method_41_code
def yX12_tries : MethodName := ⟨RX12, "tries", "(I)V"⟩
abbrev cX12_notes : ByteArray := prog_14_method_42_code
def yX12_notes : MethodName := ⟨RX12, "notes", "()V"⟩
abbrev cX12_minutes : ByteArray := prog_14_method_43_code
def yX12_minutes : MethodName := ⟨RX12, "minutes", "(I)I"⟩
abbrev cX12_walk : ByteArray := prog_14_method_44_code
def yX12_walk : MethodName := ⟨RX12, "walk", "(II)I"⟩
abbrev cX12_puts : ByteArray := prog_14_method_45_code
def yX12_puts : MethodName := ⟨RX12, "puts", "(II)I"⟩
abbrev cX12_preach : ByteArray := prog_14_method_46_code
def yX12_preach : MethodName := ⟨RX12, "preach", "(II)I"⟩
abbrev cX12_wish : ByteArray := prog_14_method_47_code
def yX12_wish : MethodName := ⟨RX12, "wish", "(II)I"⟩
abbrev cX12_undo : ByteArray := prog_14_method_48_code
def yX12_undo : MethodName := ⟨RX12, "undo", "()I"⟩
abbrev cX12_person : ByteArray := prog_14_method_49_code
def yX12_person : MethodName := ⟨RX12, "person", "(II)I"⟩
abbrev cX12_stop : ByteArray := prog_14_method_50_code
def yX12_stop : MethodName := ⟨RX12, "stop", "(II)I"⟩
abbrev cX12_where : ByteArray := prog_14_method_51_code
def yX12_where : MethodName := ⟨RX12, "where", "(II)I"⟩
abbrev cX12_tram : ByteArray := prog_14_method_52_code
def yX12_tram : MethodName := ⟨RX12, "tram", "(I)I"⟩
abbrev cX12_there : ByteArray := prog_14_method_53_code
def yX12_there : MethodName := ⟨RX12, "there", "(I)I"⟩
abbrev cX12_behind : ByteArray := prog_14_method_54_code
def yX12_behind : MethodName := ⟨RX12, "behind", "(III)I"⟩
abbrev cX12_when : ByteArray := prog_14_method_55_code
def yX12_when : MethodName := ⟨RX12, "when", "(I)I"⟩
abbrev cX12_all : ByteArray := prog_14_method_56_code
def yX12_all : MethodName := ⟨RX12, "all", "()I"⟩
abbrev cX12_never : ByteArray := prog_14_method_57_code
def yX12_never : MethodName := ⟨RX12, "never", "()I"⟩
abbrev cX12_holding : ByteArray := prog_14_method_58_code
def yX12_holding : MethodName := ⟨RX12, "holding", "()I"⟩
abbrev cX12_call : ByteArray := prog_14_method_59_code
def yX12_call : MethodName := ⟨RX12, "call", "(II)I"⟩
abbrev cX12_go : ByteArray := prog_14_method_60_code
def yX12_go : MethodName := ⟨RX12, "go", "(II)I"⟩
abbrev cX12_walkers : ByteArray := prog_14_method_61_code
def yX12_walkers : MethodName := ⟨RX12, "walkers", "(II)I"⟩
abbrev cX12_goesSo : ByteArray := prog_14_method_62_code
def yX12_goesSo : MethodName := ⟨RX12, "goesSo", "(II)Z"⟩
abbrev cX12_fits : ByteArray := prog_14_method_63_code
def yX12_fits : MethodName := ⟨RX12, "fits", "(IIIII)I"⟩
abbrev cX12_bounds : ByteArray := prog_14_method_64_code
def yX12_bounds : MethodName := ⟨RX12, "bounds", "(III)I"⟩
abbrev cX12_rain : ByteArray := prog_14_method_65_code
def yX12_rain : MethodName := ⟨RX12, "rain", "(III)I"⟩
abbrev cX12_drawn : ByteArray := prog_14_method_66_code
def yX12_drawn : MethodName := ⟨RX12, "drawn", "(III)I"⟩
abbrev cX12_image : ByteArray := prog_14_method_67_code
def yX12_image : MethodName := ⟨RX12, "image", "(I)I"⟩
abbrev cX12_restore : ByteArray := prog_14_method_68_code
def yX12_restore : MethodName := ⟨RX12, "restore", "(I)I"⟩
abbrev cX12_kindIn : ByteArray := prog_14_method_69_code
def yX12_kindIn : MethodName := ⟨RX12, "kindIn", "(I)I"⟩
abbrev cX12_kind : ByteArray := prog_14_method_70_code
def yX12_kind : MethodName := ⟨RX12, "kind", "(I)I"⟩
abbrev cX12_as : ByteArray := prog_14_method_71_code
def yX12_as : MethodName := ⟨RX12, "as", "(II)I"⟩
abbrev cX12_begins : ByteArray := prog_14_method_72_code
def yX12_begins : MethodName := ⟨RX12, "begins", "(I)V"⟩
abbrev cX12_plainMark : ByteArray := prog_14_method_73_code
def yX12_plainMark : MethodName := ⟨RX12, "plainMark", "(I)I"⟩
abbrev cX12_childSize : ByteArray := prog_14_method_74_code
def yX12_childSize : MethodName := ⟨RX12, "childSize", "(I)I"⟩
abbrev cX12_plainSize : ByteArray := prog_14_method_75_code
def yX12_plainSize : MethodName := ⟨RX12, "plainSize", "(I)I"⟩
abbrev cX12_childMark : ByteArray := prog_14_method_76_code
def yX12_childMark : MethodName := ⟨RX12, "childMark", "(I)I"⟩
abbrev cX12_ask : ByteArray := prog_14_method_77_code
def yX12_ask : MethodName := ⟨RX12, "ask", "(II)I"⟩
abbrev cX12_trace : ByteArray := prog_14_method_78_code
def yX12_trace : MethodName := ⟨RX12, "trace", "(I)I"⟩
abbrev cX12_count : ByteArray := prog_14_method_79_code
def yX12_count : MethodName := ⟨RX12, "count", "(I)I"⟩
abbrev cX12_status : ByteArray := prog_14_method_80_code
def yX12_status : MethodName := ⟨RX12, "status", "()I"⟩
def RJx145de : String := "java/io/Serializable"
def TJx145de : u_T := fun k => match k with
  | _ => ("", "", "", false)
def tyJx145de : Nat → FieldType := fun k => match k with
  | _ => .int
abbrev wsJx145de0 : List Cond := u_ws RJx145de TJx145de 0
theorem nmJx145de : ∀ a, a < 0 → ∀ b, b < 0 → a ≠ b → (TJx145de a).2.1 ≠ (TJx145de b).2.1 := by decide +kernel
theorem tyJx145de_ok : ∀ k, k < 0 → parseFieldDescriptor (TJx145de k).2.2.1 = some (tyJx145de k) := by decide +kernel
def RJx9f9b0 : String := "java/lang/CharSequence"
def TJx9f9b0 : u_T := fun k => match k with
  | _ => ("", "", "", false)
def tyJx9f9b0 : Nat → FieldType := fun k => match k with
  | _ => .int
abbrev wsJx9f9b00 : List Cond := u_ws RJx9f9b0 TJx9f9b0 0
theorem nmJx9f9b0 : ∀ a, a < 0 → ∀ b, b < 0 → a ≠ b → (TJx9f9b0 a).2.1 ≠ (TJx9f9b0 b).2.1 := by decide +kernel
theorem tyJx9f9b0_ok : ∀ k, k < 0 → parseFieldDescriptor (TJx9f9b0 k).2.2.1 = some (tyJx9f9b0 k) := by decide +kernel
def RJ11 : String := "java/lang/Character"
def TJ11 : u_T := fun k => match k with
  | _ => ("", "", "", false)
def tyJ11 : Nat → FieldType := fun k => match k with
  | _ => .int
abbrev wsJ110 : List Cond := u_ws RJ11 TJ11 0
theorem nmJ11 : ∀ a, a < 0 → ∀ b, b < 0 → a ≠ b → (TJ11 a).2.1 ≠ (TJ11 b).2.1 := by decide +kernel
theorem tyJ11_ok : ∀ k, k < 0 → parseFieldDescriptor (TJ11 k).2.2.1 = some (tyJ11 k) := by decide +kernel
abbrev cJ11_isValidCodePoint_9a6ad : ByteArray := prog_15_method_11_code
def yJ11_isValidCodePoint_9a6ad : MethodName := ⟨RJ11, "isValidCodePoint", "(I)Z"⟩
abbrev cJ11_highSurrogate_5068e : ByteArray := prog_15_method_28_code
def yJ11_highSurrogate_5068e : MethodName := ⟨RJ11, "highSurrogate", "(I)C"⟩
abbrev cJ11_lowSurrogate_5068e : ByteArray := prog_15_method_29_code
def yJ11_lowSurrogate_5068e : MethodName := ⟨RJ11, "lowSurrogate", "(I)C"⟩
def RJxb160c : String := "java/lang/Comparable"
def TJxb160c : u_T := fun k => match k with
  | _ => ("", "", "", false)
def tyJxb160c : Nat → FieldType := fun k => match k with
  | _ => .int
abbrev wsJxb160c0 : List Cond := u_ws RJxb160c TJxb160c 0
theorem nmJxb160c : ∀ a, a < 0 → ∀ b, b < 0 → a ≠ b → (TJxb160c a).2.1 ≠ (TJxb160c b).2.1 := by decide +kernel
theorem tyJxb160c_ok : ∀ k, k < 0 → parseFieldDescriptor (TJxb160c k).2.2.1 = some (tyJxb160c k) := by decide +kernel
def RJ6 : String := "java/lang/Integer"
def TJ6 : u_T := fun k => match k with
  | _ => ("", "", "", false)
def tyJ6 : Nat → FieldType := fun k => match k with
  | _ => .int
abbrev wsJ60 : List Cond := u_ws RJ6 TJ6 0
theorem nmJ6 : ∀ a, a < 0 → ∀ b, b < 0 → a ≠ b → (TJ6 a).2.1 ≠ (TJ6 b).2.1 := by decide +kernel
theorem tyJ6_ok : ∀ k, k < 0 → parseFieldDescriptor (TJ6 k).2.2.1 = some (tyJ6 k) := by decide +kernel
abbrev cJ6_bitCount_0f7a4 : ByteArray := prog_16_method_49_code
def yJ6_bitCount_0f7a4 : MethodName := ⟨RJ6, "bitCount", "(I)I"⟩
def RJ9 : String := "java/lang/Math"
def TJ9 : u_T := fun k => match k with
  | _ => ("", "", "", false)
def tyJ9 : Nat → FieldType := fun k => match k with
  | _ => .int
abbrev wsJ90 : List Cond := u_ws RJ9 TJ9 0
theorem nmJ9 : ∀ a, a < 0 → ∀ b, b < 0 → a ≠ b → (TJ9 a).2.1 ≠ (TJ9 b).2.1 := by decide +kernel
theorem tyJ9_ok : ∀ k, k < 0 → parseFieldDescriptor (TJ9 k).2.2.1 = some (tyJ9 k) := by decide +kernel
abbrev cJ9_max_7cf53 : ByteArray := prog_17_method_65_code
def yJ9_max_7cf53 : MethodName := ⟨RJ9, "max", "(II)I"⟩
abbrev cJ9_min_7cf53 : ByteArray := prog_17_method_69_code
def yJ9_min_7cf53 : MethodName := ⟨RJ9, "min", "(II)I"⟩
def RJ0 : String := "java/lang/String"
def TJ0 : u_T := fun k => match k with
  | _ => ("", "", "", false)
def tyJ0 : Nat → FieldType := fun k => match k with
  | _ => .int
abbrev wsJ00 : List Cond := u_ws RJ0 TJ0 0
theorem nmJ0 : ∀ a, a < 0 → ∀ b, b < 0 → a ≠ b → (TJ0 a).2.1 ≠ (TJ0 b).2.1 := by decide +kernel
theorem tyJ0_ok : ∀ k, k < 0 → parseFieldDescriptor (TJ0 k).2.2.1 = some (tyJ0 k) := by decide +kernel
abbrev cJ0_length_8abf5 : ByteArray := prog_18_method_54_code
def yJ0_length_8abf5 : MethodName := ⟨RJ0, "length", "()I"⟩
abbrev cJ0_indexOf_0f7a4 : ByteArray := prog_18_method_79_code
def yJ0_indexOf_0f7a4 : MethodName := ⟨RJ0, "indexOf", "(I)I"⟩
abbrev cJ0_indexOf_7cf53 : ByteArray := prog_18_method_80_code
def yJ0_indexOf_7cf53 : MethodName := ⟨RJ0, "indexOf", "(II)I"⟩
abbrev cJ0_coder_7d493 : ByteArray := prog_18_method_152_code
def yJ0_coder_7d493 : MethodName := ⟨RJ0, "coder", "()B"⟩
abbrev cJ0_isLatin1_aae02 : ByteArray := prog_18_method_154_code
def yJ0_isLatin1_aae02 : MethodName := ⟨RJ0, "isLatin1", "()Z"⟩
abbrev cJ0_checkBoundsBeginEnd_23922 : ByteArray := prog_18_method_158_code
def yJ0_checkBoundsBeginEnd_23922 : MethodName := ⟨RJ0, "checkBoundsBeginEnd", "(III)V"⟩
def RJ1 : String := "java/lang/StringLatin1"
def TJ1 : u_T := fun k => match k with
  | _ => ("", "", "", false)
def tyJ1 : Nat → FieldType := fun k => match k with
  | _ => .int
abbrev wsJ10 : List Cond := u_ws RJ1 TJ1 0
theorem nmJ1 : ∀ a, a < 0 → ∀ b, b < 0 → a ≠ b → (TJ1 a).2.1 ≠ (TJ1 b).2.1 := by decide +kernel
theorem tyJ1_ok : ∀ k, k < 0 → parseFieldDescriptor (TJ1 k).2.2.1 = some (tyJ1 k) := by decide +kernel
abbrev cJ1_canEncode_9a6ad : ByteArray := prog_19_method_4_code
def yJ1_canEncode_9a6ad : MethodName := ⟨RJ1, "canEncode", "(I)Z"⟩
abbrev cJ1_indexOf_4cfef : ByteArray := prog_19_method_22_code
def yJ1_indexOf_4cfef : MethodName := ⟨RJ1, "indexOf", "([BIII)I"⟩
abbrev cJ1_indexOfChar_4cfef : ByteArray := prog_19_method_23_code
def yJ1_indexOfChar_4cfef : MethodName := ⟨RJ1, "indexOfChar", "([BIII)I"⟩
def RJ2 : String := "java/lang/StringUTF16"
def TJ2 : u_T := fun k => match k with
  | _ => ("", "", "", false)
def tyJ2 : Nat → FieldType := fun k => match k with
  | _ => .int
abbrev wsJ20 : List Cond := u_ws RJ2 TJ2 0
theorem nmJ2 : ∀ a, a < 0 → ∀ b, b < 0 → a ≠ b → (TJ2 a).2.1 ≠ (TJ2 b).2.1 := by decide +kernel
theorem tyJ2_ok : ∀ k, k < 0 → parseFieldDescriptor (TJ2 k).2.2.1 = some (tyJ2 k) := by decide +kernel
abbrev cJ2_getChar_3b067 : ByteArray := prog_20_method_5_code
def yJ2_getChar_3b067 : MethodName := ⟨RJ2, "getChar", "([BI)C"⟩
abbrev cJ2_length_9d52b : ByteArray := prog_20_method_6_code
def yJ2_length_9d52b : MethodName := ⟨RJ2, "length", "([B)I"⟩
abbrev cJ2_indexOf_4cfef : ByteArray := prog_20_method_40_code
def yJ2_indexOf_4cfef : MethodName := ⟨RJ2, "indexOf", "([BIII)I"⟩
abbrev cJ2_indexOfChar_4cfef : ByteArray := prog_20_method_47_code
def yJ2_indexOfChar_4cfef : MethodName := ⟨RJ2, "indexOfChar", "([BIII)I"⟩
abbrev cJ2_indexOfCharUnsafe_4cfef : ByteArray := prog_20_method_48_code
def yJ2_indexOfCharUnsafe_4cfef : MethodName := ⟨RJ2, "indexOfCharUnsafe", "([BIII)I"⟩
abbrev cJ2_indexOfSupplementary_4cfef : ByteArray := prog_20_method_49_code
def yJ2_indexOfSupplementary_4cfef : MethodName := ⟨RJ2, "indexOfSupplementary", "([BIII)I"⟩
abbrev cJ2_checkBoundsBeginEnd_d044e : ByteArray := prog_20_method_93_code
def yJ2_checkBoundsBeginEnd_d044e : MethodName := ⟨RJ2, "checkBoundsBeginEnd", "(II[B)V"⟩
def RJ10 : String := "java/lang/System"
def TJ10 : u_T := fun k => match k with
  | _ => ("", "", "", false)
def tyJ10 : Nat → FieldType := fun k => match k with
  | _ => .int
abbrev wsJ100 : List Cond := u_ws RJ10 TJ10 0
theorem nmJ10 : ∀ a, a < 0 → ∀ b, b < 0 → a ≠ b → (TJ10 a).2.1 ≠ (TJ10 b).2.1 := by decide +kernel
theorem tyJ10_ok : ∀ k, k < 0 → parseFieldDescriptor (TJ10 k).2.2.1 = some (tyJ10 k) := by decide +kernel
def RJxfd54e : String := "java/lang/constant/Constable"
def TJxfd54e : u_T := fun k => match k with
  | _ => ("", "", "", false)
def tyJxfd54e : Nat → FieldType := fun k => match k with
  | _ => .int
abbrev wsJxfd54e0 : List Cond := u_ws RJxfd54e TJxfd54e 0
theorem nmJxfd54e : ∀ a, a < 0 → ∀ b, b < 0 → a ≠ b → (TJxfd54e a).2.1 ≠ (TJxfd54e b).2.1 := by decide +kernel
theorem tyJxfd54e_ok : ∀ k, k < 0 → parseFieldDescriptor (TJxfd54e k).2.2.1 = some (tyJxfd54e k) := by decide +kernel
def RJx3cf43 : String := "java/lang/constant/ConstantDesc"
def TJx3cf43 : u_T := fun k => match k with
  | _ => ("", "", "", false)
def tyJx3cf43 : Nat → FieldType := fun k => match k with
  | _ => .int
abbrev wsJx3cf430 : List Cond := u_ws RJx3cf43 TJx3cf43 0
theorem nmJx3cf43 : ∀ a, a < 0 → ∀ b, b < 0 → a ≠ b → (TJx3cf43 a).2.1 ≠ (TJx3cf43 b).2.1 := by decide +kernel
theorem tyJx3cf43_ok : ∀ k, k < 0 → parseFieldDescriptor (TJx3cf43 k).2.2.1 = some (tyJx3cf43 k) := by decide +kernel
def RJ7 : String := "java/util/Arrays"
def TJ7 : u_T := fun k => match k with
  | _ => ("", "", "", false)
def tyJ7 : Nat → FieldType := fun k => match k with
  | _ => .int
abbrev wsJ70 : List Cond := u_ws RJ7 TJ7 0
theorem nmJ7 : ∀ a, a < 0 → ∀ b, b < 0 → a ≠ b → (TJ7 a).2.1 ≠ (TJ7 b).2.1 := by decide +kernel
theorem tyJ7_ok : ∀ k, k < 0 → parseFieldDescriptor (TJ7 k).2.2.1 = some (tyJ7 k) := by decide +kernel
abbrev cJ7_fill_53178 : ByteArray := prog_22_method_103_code
def yJ7_fill_53178 : MethodName := ⟨RJ7, "fill", "([II)V"⟩
def RJ3 : String := "jdk/internal/util/Preconditions"
def TJ3 : u_T := fun k => match k with
  | _ => ("", "", "", false)
def tyJ3 : Nat → FieldType := fun k => match k with
  | _ => .int
abbrev wsJ30 : List Cond := u_ws RJ3 TJ3 0
theorem nmJ3 : ∀ a, a < 0 → ∀ b, b < 0 → a ≠ b → (TJ3 a).2.1 ≠ (TJ3 b).2.1 := by decide +kernel
theorem tyJ3_ok : ∀ k, k < 0 → parseFieldDescriptor (TJ3 k).2.2.1 = some (tyJ3 k) := by decide +kernel
abbrev cJ3_checkFromToIndex_8c36e : ByteArray := prog_23_method_12_code
def yJ3_checkFromToIndex_8c36e : MethodName := ⟨RJ3, "checkFromToIndex", "(IIILjava/util/function/BiFunction;)I"⟩
def RL : String := "TramFaithLaw"
abbrev cL_law : ByteArray := code
def yL_law : MethodName := ⟨RL, "law", "([I)Z"⟩
abbrev vwCl : List vw_C := [(RX0, TX0, 5), (RX1, TX1, 0), (RX2, TX2, 0), (RX3, TX3, 0), (RX4, TX4, 12), (RX5, TX5, 3), (RX6, TX6, 0), (RX7, TX7, 0), (RX8, TX8, 3), (RX9, TX9, 6), (RX11, TX11, 9), (RX12, TX12, 22)]
theorem goodIn_rr {big : List Cond} (ws : List Cond) (ps : List Nat) (hp : ws = ps.filterMap (fun i => big[i]?)) : ∀ w ∈ ws, w ∈ big := by
  intro w hw
  rw [hp] at hw
  obtain ⟨i, -, hi⟩ := List.mem_filterMap.mp hw
  exact List.mem_of_getElem? hi
theorem inX0 : ∀ w ∈ wsX00, w ∈ lw_tbl := fun w h => (goodIn_rr wsX00 [263, 265, 267, 269, 271] (by decide +kernel) w h)
theorem inX1 : ∀ w ∈ wsX10, w ∈ lw_tbl := fun w h => (goodIn_rr wsX10 [] (by decide +kernel) w h)
theorem inX2 : ∀ w ∈ wsX20, w ∈ lw_tbl := fun w h => (goodIn_rr wsX20 [] (by decide +kernel) w h)
theorem inX3 : ∀ w ∈ wsX30, w ∈ lw_tbl := fun w h => (goodIn_rr wsX30 [] (by decide +kernel) w h)
theorem inX4 : ∀ w ∈ wsX40, w ∈ lw_tbl := fun w h => (goodIn_rr wsX40 [206, 208, 210, 212, 214, 216, 218, 220, 222, 224, 226, 228] (by decide +kernel) w h)
theorem inX5 : ∀ w ∈ wsX50, w ∈ lw_tbl := fun w h => (goodIn_rr wsX50 [242, 244, 246] (by decide +kernel) w h)
theorem inX6 : ∀ w ∈ wsX60, w ∈ lw_tbl := fun w h => (goodIn_rr wsX60 [] (by decide +kernel) w h)
theorem inX7 : ∀ w ∈ wsX70, w ∈ lw_tbl := fun w h => (goodIn_rr wsX70 [] (by decide +kernel) w h)
theorem inX8 : ∀ w ∈ wsX80, w ∈ lw_tbl := fun w h => (goodIn_rr wsX80 [137, 139, 141] (by decide +kernel) w h)
theorem inX9 : ∀ w ∈ wsX90, w ∈ lw_tbl := fun w h => (goodIn_rr wsX90 [160, 162, 164, 166, 168, 170] (by decide +kernel) w h)
theorem inX10 : ∀ w ∈ wsX100, w ∈ lw_tbl := fun w h => (goodIn_rr wsX100 [] (by decide +kernel) w h)
theorem inX11 : ∀ w ∈ wsX110, w ∈ lw_tbl := fun w h => (goodIn_rr wsX110 [283, 285, 287, 289, 291, 293, 295, 297, 299] (by decide +kernel) w h)
theorem inX12 : ∀ w ∈ wsX120, w ∈ lw_tbl := fun w h => (goodIn_rr wsX120 [906, 908, 910, 912, 914, 916, 918, 920, 922, 924, 926, 928, 930, 932, 934, 936, 938, 940, 942, 944, 946, 948] (by decide +kernel) w h)
