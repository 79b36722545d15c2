/-! ===== BEGIN words of one list among another's, by their places ===== -/
theorem goodIn_r {big : List Cond} (ws : List Cond) (ps : List Nat) (hp : ws = ps.filterMap (fun i => big[i]?)) (h : ws.all goodWord = true) : GoodIn big ws := by
  intro w hw
  have h1 := List.all_eq_true.mp h w hw
  rw [hp] at hw
  obtain ⟨i, -, hi⟩ := List.mem_filterMap.mp hw
  have hm : w ∈ big := by first | exact List.mem_of_getElem? hi | exact List.getElem?_mem hi
  exact ⟨hm, good_of_word h1⟩
theorem goodIn_app {big a b : List Cond} (ha : GoodIn big a) (hb : GoodIn big b) : GoodIn big (a ++ b) := fun w h => (List.mem_append.mp h).elim (ha w) (hb w)
theorem goodIn_ca {big a b : List Cond} {c : Cond} (ha : GoodIn big (c :: a)) (hb : GoodIn big b) : GoodIn big (c :: (a ++ b)) := fun w h => (List.mem_cons.mp h).elim (fun e => ha w (List.mem_cons.mpr (Or.inl e))) (fun h => (List.mem_append.mp h).elim (fun h => ha w (List.mem_cons.mpr (Or.inr h))) (hb w))
theorem goodIn_sub {big ws : List Cond} (hm : ∀ w ∈ ws, w ∈ big) (h : ws.all goodWord = true) : GoodIn big ws := fun w hw => ⟨hm w hw, good_of_word (List.all_eq_true.mp h w hw)⟩
/-! ===== END ===== -/

/-! ===== BEGIN printed: names, fields, word lists, decode rows ===== -/
def RX0 : String := "FurrowNames$Choice"
def TX0 : u_T := fun k => match k with
  | 0 => ("FurrowNames$Choice", "kinds", "[LFurrowNames$Plain;", true)
  | 1 => ("FurrowNames$Choice", "off", "[I", true)
  | 2 => ("FurrowNames$Choice", "line", "[I", true)
  | _ => ("FurrowNames$Choice", "chosen", "[I", true)
def tyX0 : Nat → FieldType := fun k => match k with
  | 0 => .array (.object "FurrowNames$Plain")
  | 1 => .array .int
  | 2 => .array .int
  | _ => .array .int
abbrev wsX00 : List Cond := u_ws RX0 TX0 4
theorem nmX0 : ∀ a, a < 4 → ∀ b, b < 4 → a ≠ b → (TX0 a).2.1 ≠ (TX0 b).2.1 := by decide +kernel
theorem tyX0_ok : ∀ k, k < 4 → parseFieldDescriptor (TX0 k).2.2.1 = some (tyX0 k) := by decide +kernel
abbrev cX0_init : ByteArray := prog_2_method_1_code
def yX0_init : MethodName := ⟨RX0, "<init>", "()V"⟩
abbrev cX0_offOf : ByteArray := prog_2_method_2_code
def yX0_offOf : MethodName := ⟨RX0, "offOf", "(LFurrowNames$Parish;II)I"⟩
abbrev cX0_esteem : ByteArray := prog_2_method_3_code
def yX0_esteem : MethodName := ⟨RX0, "esteem", "(LFurrowNames$Parish;II)I"⟩
abbrev cX0_placeOf : ByteArray := prog_2_method_4_code
def yX0_placeOf : MethodName := ⟨RX0, "placeOf", "(LFurrowNames$Parish;I)I"⟩
abbrev cX0_lineUp : ByteArray := prog_2_method_5_code
def yX0_lineUp : MethodName := ⟨RX0, "lineUp", "(LFurrowNames$Parish;I)V"⟩
abbrev cX0_wish : ByteArray := prog_2_method_6_code
def yX0_wish : MethodName := ⟨RX0, "wish", "(LFurrowNames$Parish;II)I"⟩
abbrev cX0_make : ByteArray := prog_2_method_7_code
def yX0_make : MethodName := ⟨RX0, "make", "(LFurrowNames$Parish;I)I"⟩
abbrev cX0_hold : ByteArray := prog_2_method_8_code
def yX0_hold : MethodName := ⟨RX0, "hold", "(LFurrowNames$Parish;I)V"⟩
def RX1 : String := "FurrowNames$Drinker"
def TX1 : u_T := fun k => match k with
  | _ => ("", "", "", false)
def tyX1 : Nat → FieldType := fun k => match k with
  | _ => .int
abbrev wsX10 : List Cond := u_ws RX1 TX1 0
theorem nmX1 : ∀ a, a < 0 → ∀ b, b < 0 → a ≠ b → (TX1 a).2.1 ≠ (TX1 b).2.1 := by decide +kernel
theorem tyX1_ok : ∀ k, k < 0 → parseFieldDescriptor (TX1 k).2.2.1 = some (tyX1 k) := by decide +kernel
abbrev cX1_init : ByteArray := prog_3_method_1_code
def yX1_init : MethodName := ⟨RX1, "<init>", "()V"⟩
abbrev cX1_furrow : ByteArray := prog_3_method_2_code
def yX1_furrow : MethodName := ⟨RX1, "furrow", "(IIII)I"⟩
def RX2 : String := "FurrowNames$Heir"
def TX2 : u_T := fun k => match k with
  | _ => ("", "", "", false)
def tyX2 : Nat → FieldType := fun k => match k with
  | _ => .int
abbrev wsX20 : List Cond := u_ws RX2 TX2 0
theorem nmX2 : ∀ a, a < 0 → ∀ b, b < 0 → a ≠ b → (TX2 a).2.1 ≠ (TX2 b).2.1 := by decide +kernel
theorem tyX2_ok : ∀ k, k < 0 → parseFieldDescriptor (TX2 k).2.2.1 = some (tyX2 k) := by decide +kernel
abbrev cX2_init : ByteArray := prog_4_method_1_code
def yX2_init : MethodName := ⟨RX2, "<init>", "()V"⟩
abbrev cX2_worthOf : ByteArray := prog_4_method_2_code
def yX2_worthOf : MethodName := ⟨RX2, "worthOf", "(IIZ)I"⟩
def RX3 : String := "FurrowNames$Luck"
def TX3 : u_T := fun k => match k with
  | 0 => ("FurrowNames$Luck", "choice", "LFurrowNames$Choice;", true)
  | 1 => ("FurrowNames$Luck", "whose", "[I", true)
  | 2 => ("FurrowNames$Luck", "left", "[I", true)
  | _ => ("FurrowNames$Luck", "furrows", "I", false)
def tyX3 : Nat → FieldType := fun k => match k with
  | 0 => .object "FurrowNames$Choice"
  | 1 => .array .int
  | 2 => .array .int
  | _ => .int
abbrev wsX30 : List Cond := u_ws RX3 TX3 4
theorem nmX3 : ∀ a, a < 4 → ∀ b, b < 4 → a ≠ b → (TX3 a).2.1 ≠ (TX3 b).2.1 := by decide +kernel
theorem tyX3_ok : ∀ k, k < 4 → parseFieldDescriptor (TX3 k).2.2.1 = some (tyX3 k) := by decide +kernel
abbrev cX3_init : ByteArray := prog_5_method_1_code
def yX3_init : MethodName := ⟨RX3, "<init>", "(LFurrowNames$Choice;)V"⟩
abbrev cX3_all : ByteArray := prog_5_method_2_code
def yX3_all : MethodName := ⟨RX3, "all", "(I)I"⟩
abbrev cX3_waysOf : ByteArray := prog_5_method_3_code
def yX3_waysOf : MethodName := ⟨RX3, "waysOf", "(LFurrowNames$Parish;II)I"⟩
abbrev cX3_waysFrom : ByteArray := prog_5_method_4_code
def yX3_waysFrom : MethodName := ⟨RX3, "waysFrom", "(LFurrowNames$Parish;IIIII)I"⟩
abbrev cX3_waysOfOthers : ByteArray := prog_5_method_5_code
def yX3_waysOfOthers : MethodName := ⟨RX3, "waysOfOthers", "(II)I"⟩
def RX4 : String := "FurrowNames$Parish"
def TX4 : u_T := fun k => match k with
  | 0 => ("FurrowNames$Parish", "men", "I", false)
  | 1 => ("FurrowNames$Parish", "names", "I", false)
  | 2 => ("FurrowNames$Parish", "stones", "I", false)
  | 3 => ("FurrowNames$Parish", "march", "I", false)
  | 4 => ("FurrowNames$Parish", "draw", "I", false)
  | 5 => ("FurrowNames$Parish", "kind", "[I", true)
  | 6 => ("FurrowNames$Parish", "hand", "[I", true)
  | 7 => ("FurrowNames$Parish", "oxen", "[I", true)
  | 8 => ("FurrowNames$Parish", "credit", "[I", true)
  | 9 => ("FurrowNames$Parish", "called", "[I", true)
  | 10 => ("FurrowNames$Parish", "worth", "[I", true)
  | _ => ("FurrowNames$Parish", "debt", "[I", true)
def tyX4 : Nat → FieldType := fun k => match k with
  | 0 => .int
  | 1 => .int
  | 2 => .int
  | 3 => .int
  | 4 => .int
  | 5 => .array .int
  | 6 => .array .int
  | 7 => .array .int
  | 8 => .array .int
  | 9 => .array .int
  | 10 => .array .int
  | _ => .array .int
abbrev wsX40 : List Cond := u_ws RX4 TX4 12
theorem nmX4 : ∀ a, a < 12 → ∀ b, b < 12 → a ≠ b → (TX4 a).2.1 ≠ (TX4 b).2.1 := by decide +kernel
theorem tyX4_ok : ∀ k, k < 12 → parseFieldDescriptor (TX4 k).2.2.1 = some (tyX4 k) := by decide +kernel
abbrev cX4_init : ByteArray := prog_6_method_1_code
def yX4_init : MethodName := ⟨RX4, "<init>", "()V"⟩
abbrev cX4_become : ByteArray := prog_6_method_2_code
def yX4_become : MethodName := ⟨RX4, "become", "(LFurrowNames$Parish;)V"⟩
abbrev cX4_empty : ByteArray := prog_6_method_3_code
def yX4_empty : MethodName := ⟨RX4, "empty", "()V"⟩
abbrev cX4_addMan : ByteArray := prog_6_method_4_code
def yX4_addMan : MethodName := ⟨RX4, "addMan", "(III)V"⟩
abbrev cX4_addName : ByteArray := prog_6_method_5_code
def yX4_addName : MethodName := ⟨RX4, "addName", "(II)V"⟩
abbrev cX4_whoIsCalled : ByteArray := prog_6_method_6_code
def yX4_whoIsCalled : MethodName := ⟨RX4, "whoIsCalled", "(I)I"⟩
abbrev cX4_drawStones : ByteArray := prog_6_method_7_code
def yX4_drawStones : MethodName := ⟨RX4, "drawStones", "()I"⟩
def RX5 : String := "FurrowNames$Past"
def TX5 : u_T := fun k => match k with
  | 0 => ("FurrowNames$Past", "before", "[LFurrowNames$Parish;", true)
  | 1 => ("FurrowNames$Past", "newest", "I", false)
  | _ => ("FurrowNames$Past", "size", "I", false)
def tyX5 : Nat → FieldType := fun k => match k with
  | 0 => .array (.object "FurrowNames$Parish")
  | 1 => .int
  | _ => .int
abbrev wsX50 : List Cond := u_ws RX5 TX5 3
theorem nmX5 : ∀ a, a < 3 → ∀ b, b < 3 → a ≠ b → (TX5 a).2.1 ≠ (TX5 b).2.1 := by decide +kernel
theorem tyX5_ok : ∀ k, k < 3 → parseFieldDescriptor (TX5 k).2.2.1 = some (tyX5 k) := by decide +kernel
abbrev cX5_init : ByteArray := prog_7_method_1_code
def yX5_init : MethodName := ⟨RX5, "<init>", "()V"⟩
abbrev cX5_forget : ByteArray := prog_7_method_2_code
def yX5_forget : MethodName := ⟨RX5, "forget", "()V"⟩
abbrev cX5_keep : ByteArray := prog_7_method_3_code
def yX5_keep : MethodName := ⟨RX5, "keep", "(LFurrowNames$Parish;)V"⟩
abbrev cX5_latest : ByteArray := prog_7_method_4_code
def yX5_latest : MethodName := ⟨RX5, "latest", "()LFurrowNames$Parish;"⟩
abbrev cX5_dropLatest : ByteArray := prog_7_method_5_code
def yX5_dropLatest : MethodName := ⟨RX5, "dropLatest", "()V"⟩
abbrev cX5_become : ByteArray := prog_7_method_6_code
def yX5_become : MethodName := ⟨RX5, "become", "(LFurrowNames$Past;)V"⟩
def RX6 : String := "FurrowNames$Plain"
def TX6 : u_T := fun k => match k with
  | _ => ("", "", "", false)
def tyX6 : Nat → FieldType := fun k => match k with
  | _ => .int
abbrev wsX60 : List Cond := u_ws RX6 TX6 0
theorem nmX6 : ∀ a, a < 0 → ∀ b, b < 0 → a ≠ b → (TX6 a).2.1 ≠ (TX6 b).2.1 := by decide +kernel
theorem tyX6_ok : ∀ k, k < 0 → parseFieldDescriptor (TX6 k).2.2.1 = some (tyX6 k) := by decide +kernel
abbrev cX6_init : ByteArray := prog_8_method_1_code
def yX6_init : MethodName := ⟨RX6, "<init>", "()V"⟩
abbrev cX6_furrow : ByteArray := prog_8_method_2_code
def yX6_furrow : MethodName := ⟨RX6, "furrow", "(IIII)I"⟩
abbrev cX6_worthOf : ByteArray := prog_8_method_3_code
def yX6_worthOf : MethodName := ⟨RX6, "worthOf", "(IIZ)I"⟩
def RX7 : String := "FurrowNames$Poor"
def TX7 : u_T := fun k => match k with
  | _ => ("", "", "", false)
def tyX7 : Nat → FieldType := fun k => match k with
  | _ => .int
abbrev wsX70 : List Cond := u_ws RX7 TX7 0
theorem nmX7 : ∀ a, a < 0 → ∀ b, b < 0 → a ≠ b → (TX7 a).2.1 ≠ (TX7 b).2.1 := by decide +kernel
theorem tyX7_ok : ∀ k, k < 0 → parseFieldDescriptor (TX7 k).2.2.1 = some (tyX7 k) := by decide +kernel
abbrev cX7_init : ByteArray := prog_9_method_1_code
def yX7_init : MethodName := ⟨RX7, "<init>", "()V"⟩
abbrev cX7_worthOf : ByteArray := prog_9_method_2_code
def yX7_worthOf : MethodName := ⟨RX7, "worthOf", "(IIZ)I"⟩
def RX8 : String := "FurrowNames$Proud"
def TX8 : u_T := fun k => match k with
  | _ => ("", "", "", false)
def tyX8 : Nat → FieldType := fun k => match k with
  | _ => .int
abbrev wsX80 : List Cond := u_ws RX8 TX8 0
theorem nmX8 : ∀ a, a < 0 → ∀ b, b < 0 → a ≠ b → (TX8 a).2.1 ≠ (TX8 b).2.1 := by decide +kernel
theorem tyX8_ok : ∀ k, k < 0 → parseFieldDescriptor (TX8 k).2.2.1 = some (tyX8 k) := by decide +kernel
abbrev cX8_init : ByteArray := prog_10_method_1_code
def yX8_init : MethodName := ⟨RX8, "<init>", "()V"⟩
abbrev cX8_worthOf : ByteArray := prog_10_method_2_code
def yX8_worthOf : MethodName := ⟨RX8, "worthOf", "(IIZ)I"⟩
def RX9 : String := "FurrowNames$Sheet"
def TX9 : u_T := fun k => match k with
  | 0 => ("FurrowNames$Sheet", "isMissing", "Z", false)
  | 1 => ("FurrowNames$Sheet", "lane", "I", false)
  | 2 => ("FurrowNames$Sheet", "length", "I", false)
  | _ => ("FurrowNames$Sheet", "items", "[J", true)
def tyX9 : Nat → FieldType := fun k => match k with
  | 0 => .boolean
  | 1 => .int
  | 2 => .int
  | _ => .array .long
abbrev wsX90 : List Cond := u_ws RX9 TX9 4
theorem nmX9 : ∀ a, a < 4 → ∀ b, b < 4 → a ≠ b → (TX9 a).2.1 ≠ (TX9 b).2.1 := by decide +kernel
theorem tyX9_ok : ∀ k, k < 4 → parseFieldDescriptor (TX9 k).2.2.1 = some (tyX9 k) := by decide +kernel
abbrev cX9_init : ByteArray := prog_11_method_1_code
def yX9_init : MethodName := ⟨RX9, "<init>", "()V"⟩
abbrev cX9_renew : ByteArray := prog_11_method_2_code
def yX9_renew : MethodName := ⟨RX9, "renew", "(II)V"⟩
abbrev cX9_has : ByteArray := prog_11_method_3_code
def yX9_has : MethodName := ⟨RX9, "has", "(II)Z"⟩
abbrev cX9_put : ByteArray := prog_11_method_4_code
def yX9_put : MethodName := ⟨RX9, "put", "(IJ)V"⟩
def RX10 : String := "FurrowNames$Tape"
def TX10 : u_T := fun k => match k with
  | 0 => ("FurrowNames$Tape", "letters", "[C", true)
  | 1 => ("FurrowNames$Tape", "length", "I", false)
  | _ => ("FurrowNames$Tape", "place", "I", false)
def tyX10 : Nat → FieldType := fun k => match k with
  | 0 => .array .char
  | 1 => .int
  | _ => .int
abbrev wsX100 : List Cond := u_ws RX10 TX10 3
theorem nmX10 : ∀ a, a < 3 → ∀ b, b < 3 → a ≠ b → (TX10 a).2.1 ≠ (TX10 b).2.1 := by decide +kernel
theorem tyX10_ok : ∀ k, k < 3 → parseFieldDescriptor (TX10 k).2.2.1 = some (tyX10 k) := by decide +kernel
abbrev cX10_init : ByteArray := prog_12_method_1_code
def yX10_init : MethodName := ⟨RX10, "<init>", "()V"⟩
abbrev cX10_takes : ByteArray := prog_12_method_2_code
def yX10_takes : MethodName := ⟨RX10, "takes", "(C)Z"⟩
abbrev cX10_reads : ByteArray := prog_12_method_3_code
def yX10_reads : MethodName := ⟨RX10, "reads", "(LFurrowNames$Parish;)Z"⟩
abbrev cX10_readsMen : ByteArray := prog_12_method_4_code
def yX10_readsMen : MethodName := ⟨RX10, "readsMen", "(LFurrowNames$Parish;)Z"⟩
abbrev cX10_readsNames : ByteArray := prog_12_method_5_code
def yX10_readsNames : MethodName := ⟨RX10, "readsNames", "(LFurrowNames$Parish;)Z"⟩
abbrev cX10_skipBlanks : ByteArray := prog_12_method_6_code
def yX10_skipBlanks : MethodName := ⟨RX10, "skipBlanks", "()V"⟩
abbrev cX10_oneOf : ByteArray := prog_12_method_7_code
def yX10_oneOf : MethodName := ⟨RX10, "oneOf", "(Ljava/lang/String;)I"⟩
abbrev cX10_number : ByteArray := prog_12_method_8_code
def yX10_number : MethodName := ⟨RX10, "number", "()I"⟩
def RX11 : String := "FurrowNames"
def TX11 : u_T := fun k => match k with
  | 0 => ("FurrowNames", "choice", "LFurrowNames$Choice;", true)
  | 1 => ("FurrowNames", "odds", "LFurrowNames$Luck;", true)
  | 2 => ("FurrowNames", "now", "LFurrowNames$Parish;", true)
  | 3 => ("FurrowNames", "past", "LFurrowNames$Past;", true)
  | 4 => ("FurrowNames", "kept", "LFurrowNames$Parish;", true)
  | 5 => ("FurrowNames", "keptPast", "LFurrowNames$Past;", true)
  | 6 => ("FurrowNames", "isKept", "Z", false)
  | 7 => ("FurrowNames", "trial", "LFurrowNames$Parish;", true)
  | 8 => ("FurrowNames", "tape", "LFurrowNames$Tape;", true)
  | 9 => ("FurrowNames", "sheets", "[LFurrowNames$Sheet;", true)
  | _ => ("FurrowNames", "together", "[[I", true)
def tyX11 : Nat → FieldType := fun k => match k with
  | 0 => .object "FurrowNames$Choice"
  | 1 => .object "FurrowNames$Luck"
  | 2 => .object "FurrowNames$Parish"
  | 3 => .object "FurrowNames$Past"
  | 4 => .object "FurrowNames$Parish"
  | 5 => .object "FurrowNames$Past"
  | 6 => .boolean
  | 7 => .object "FurrowNames$Parish"
  | 8 => .object "FurrowNames$Tape"
  | 9 => .array (.object "FurrowNames$Sheet")
  | _ => .array (.array .int)
abbrev wsX110 : List Cond := u_ws RX11 TX11 11
theorem nmX11 : ∀ a, a < 11 → ∀ b, b < 11 → a ≠ b → (TX11 a).2.1 ≠ (TX11 b).2.1 := by decide +kernel
theorem tyX11_ok : ∀ k, k < 11 → parseFieldDescriptor (TX11 k).2.2.1 = some (tyX11 k) := by decide +kernel
abbrev cX11_init : ByteArray := prog_1_method_1_code
def yX11_init : MethodName := ⟨RX11, "<init>", "()V"⟩
abbrev cX11_man : ByteArray := prog_1_method_2_code
def yX11_man : MethodName := ⟨RX11, "man", "(III)I"⟩
abbrev cX11_name : ByteArray := prog_1_method_3_code
def yX11_name : MethodName := ⟨RX11, "name", "(II)I"⟩
abbrev cX11_of : ByteArray := prog_1_method_4_code
def yX11_of : MethodName := ⟨RX11, "of", "(II)I"⟩
abbrev cX11_named : ByteArray := prog_1_method_5_code
def yX11_named : MethodName := ⟨RX11, "named", "(II)I"⟩
abbrev cX11_values : ByteArray := prog_1_method_6_code
def yX11_values : MethodName := ⟨RX11, "values", "(II)I"⟩
abbrev cX11_stones : ByteArray := prog_1_method_7_code
def yX11_stones : MethodName := ⟨RX11, "stones", "(I)I"⟩
abbrev cX11_type : ByteArray := prog_1_method_8_code
def yX11_type : MethodName := ⟨RX11, "type", "(I)I"⟩
abbrev cX11_parish : ByteArray := prog_1_method_9_code
def yX11_parish : MethodName := ⟨RX11, "parish", "()I"⟩
abbrev cX11_count : ByteArray := prog_1_method_10_code
def yX11_count : MethodName := ⟨RX11, "count", "(I)I"⟩
abbrev cX11_marches : ByteArray := prog_1_method_11_code
def yX11_marches : MethodName := ⟨RX11, "marches", "(I)I"⟩
abbrev cX11_train : ByteArray := prog_1_method_12_code
def yX11_train : MethodName := ⟨RX11, "train", "(I)I"⟩
abbrev cX11_hire : ByteArray := prog_1_method_13_code
def yX11_hire : MethodName := ⟨RX11, "hire", "(II)I"⟩
abbrev cX11_swap : ByteArray := prog_1_method_14_code
def yX11_swap : MethodName := ⟨RX11, "swap", "(II)I"⟩
abbrev cX11_drift : ByteArray := prog_1_method_15_code
def yX11_drift : MethodName := ⟨RX11, "drift", "(I)I"⟩
abbrev cX11_undo : ByteArray := prog_1_method_16_code
def yX11_undo : MethodName := ⟨RX11, "undo", "()I"⟩
abbrev cX11_seed : ByteArray := prog_1_method_17_code
def yX11_seed : MethodName := ⟨RX11, "seed", "(I)I"⟩
abbrev cX11_ahead : ByteArray := prog_1_method_18_code
def yX11_ahead : MethodName := ⟨RX11, "ahead", "(III)I"⟩
abbrev cX11_nameAhead : ByteArray := prog_1_method_19_code
def yX11_nameAhead : MethodName := ⟨RX11, "nameAhead", "(III)I"⟩
abbrev cX11_needs : ByteArray := prog_1_method_20_code
def yX11_needs : MethodName := ⟨RX11, "needs", "(II)I"⟩
abbrev cX11_field : ByteArray := prog_1_method_21_code
def yX11_field : MethodName := ⟨RX11, "field", "(I)I"⟩
abbrev cX11_parting : ByteArray := prog_1_method_22_code
def yX11_parting : MethodName := ⟨RX11, "parting", "(I)I"⟩
abbrev cX11_change : ByteArray := prog_1_method_23_code
def yX11_change : MethodName := ⟨RX11, "change", "(I)I"⟩
abbrev cX11_luck : ByteArray := prog_1_method_24_code
def yX11_luck : MethodName := ⟨RX11, "luck", "(III)I"⟩
abbrev cX11_top : ByteArray := prog_1_method_25_code
def yX11_top : MethodName := ⟨RX11, "top", "(II)I"⟩
abbrev cX11_image : ByteArray := prog_1_method_26_code
def yX11_image : MethodName := ⟨RX11, "image", "()I"⟩
abbrev cX11_restore : ByteArray := prog_1_method_27_code
def yX11_restore : MethodName := ⟨RX11, "restore", "()I"⟩
abbrev cX11_ledger : ByteArray := prog_1_method_28_code
def yX11_ledger : MethodName := ⟨RX11, "ledger", "(IIIII)I"⟩
abbrev cX11_film : ByteArray := prog_1_method_29_code
def yX11_film : MethodName := ⟨RX11, "film", "(IIIII)I"⟩
abbrev cX11_sheet : ByteArray := prog_1_method_30_code
def yX11_sheet : MethodName := ⟨RX11, "sheet", "(III)I"⟩
abbrev cX11_drop : ByteArray := prog_1_method_31_code
def yX11_drop : MethodName := ⟨RX11, "drop", "(I)I"⟩
abbrev cX11_item : ByteArray := prog_1_method_32_code
def yX11_item : MethodName := ⟨RX11, "item", "(IIIJ)I"⟩
abbrev cX11_copy : ByteArray := prog_1_method_33_code
def yX11_copy : MethodName := ⟨RX11, "copy", "(IIIII)I"⟩
abbrev cX11_outside : ByteArray := prog_1_method_34_code
def yX11_outside : MethodName := ⟨RX11, "outside", "(III)Z"⟩
abbrev cX11_noMan : ByteArray := prog_1_method_35_code
def yX11_noMan : MethodName := ⟨RX11, "noMan", "(I)Z"⟩
abbrev cX11_noName : ByteArray := prog_1_method_36_code
def yX11_noName : MethodName := ⟨RX11, "noName", "(I)Z"⟩
abbrev cX11_orNone : ByteArray := prog_1_method_37_code
def yX11_orNone : MethodName := ⟨RX11, "orNone", "(I)I"⟩
abbrev cX11_setOfNamed : ByteArray := prog_1_method_38_code
def yX11_setOfNamed : MethodName := ⟨RX11, "setOfNamed", "([I)I"⟩
abbrev cX11_sum : ByteArray := prog_1_method_39_code
def yX11_sum : MethodName := ⟨RX11, "sum", "([I)I"⟩
abbrev cX11_foretell : ByteArray := prog_1_method_40_code
def yX11_foretell : MethodName := ⟨RX11, "foretell", "(I)V"⟩
abbrev cX11_weighPartings : ByteArray := prog_1_method_41_code
def yX11_weighPartings : MethodName := ⟨RX11, "weighPartings", "()V"⟩
abbrev cX11_firstBest : ByteArray := prog_1_method_42_code
def yX11_firstBest : MethodName := ⟨RX11, "firstBest", "(II)I"⟩
abbrev cX11_wouldChange : ByteArray := prog_1_method_43_code
def yX11_wouldChange : MethodName := ⟨RX11, "wouldChange", "(II)Z"⟩
abbrev cX11_wrongWith : ByteArray := prog_1_method_44_code
def yX11_wrongWith : MethodName := ⟨RX11, "wrongWith", "(IIII)I"⟩
abbrev cX11_isCalledSo : ByteArray := prog_1_method_45_code
def yX11_isCalledSo : MethodName := ⟨RX11, "isCalledSo", "(II[JII)Z"⟩
def RX12 : String := "FurrowNamesModel"
def TX12 : u_T := fun k => match k with
  | 0 => ("FurrowNamesModel", "now", "[I", true)
  | 1 => ("FurrowNamesModel", "aside", "[I", true)
  | 2 => ("FurrowNamesModel", "read", "[I", true)
  | 3 => ("FurrowNamesModel", "kept", "[I", true)
  | 4 => ("FurrowNamesModel", "isKept", "Z", false)
  | 5 => ("FurrowNamesModel", "tape", "[I", true)
  | 6 => ("FurrowNamesModel", "size", "I", false)
  | 7 => ("FurrowNamesModel", "lanes", "[I", true)
  | 8 => ("FurrowNamesModel", "sizes", "[I", true)
  | 9 => ("FurrowNamesModel", "items", "[J", true)
  | 10 => ("FurrowNamesModel", "off", "[I", true)
  | 11 => ("FurrowNamesModel", "line", "[I", true)
  | 12 => ("FurrowNamesModel", "calls", "[I", true)
  | 13 => ("FurrowNamesModel", "at", "I", false)
  | 14 => ("FurrowNamesModel", "wrong", "I", false)
  | _ => ("FurrowNamesModel", "table", "[I", true)
def tyX12 : Nat → FieldType := fun k => match k with
  | 0 => .array .int
  | 1 => .array .int
  | 2 => .array .int
  | 3 => .array .int
  | 4 => .boolean
  | 5 => .array .int
  | 6 => .int
  | 7 => .array .int
  | 8 => .array .int
  | 9 => .array .long
  | 10 => .array .int
  | 11 => .array .int
  | 12 => .array .int
  | 13 => .int
  | 14 => .int
  | _ => .array .int
abbrev wsX120 : List Cond := u_ws RX12 TX12 16
theorem nmX12 : ∀ a, a < 16 → ∀ b, b < 16 → a ≠ b → (TX12 a).2.1 ≠ (TX12 b).2.1 := by decide +kernel
theorem tyX12_ok : ∀ k, k < 16 → parseFieldDescriptor (TX12 k).2.2.1 = some (tyX12 k) := by decide +kernel
abbrev cX12_init : ByteArray := prog_14_method_1_code
def yX12_init : MethodName := ⟨RX12, "<init>", "()V"⟩
abbrev cX12_in : ByteArray := prog_14_method_3_code
def yX12_in : MethodName := ⟨RX12, "in", "(JJJ)Z"⟩
abbrev cX12_copies : ByteArray := prog_14_method_4_code
def yX12_copies : MethodName := ⟨RX12, "copies", "([II[III)V"⟩
abbrev cX12_begins : ByteArray := prog_14_method_5_code
def yX12_begins : MethodName := ⟨RX12, "begins", "([III)V"⟩
abbrev cX12_isMan : ByteArray := prog_14_method_6_code
def yX12_isMan : MethodName := ⟨RX12, "isMan", "(I)Z"⟩
abbrev cX12_isName : ByteArray := prog_14_method_7_code
def yX12_isName : MethodName := ⟨RX12, "isName", "(I)Z"⟩
abbrev cX12_isTwo : ByteArray := prog_14_method_8_code
def yX12_isTwo : MethodName := ⟨RX12, "isTwo", "(I)Z"⟩
abbrev cX12_offOf : ByteArray := prog_14_method_9_code
def yX12_offOf : MethodName := ⟨RX12, "offOf", "([III)I"⟩
abbrev cX12_valueOf : ByteArray := prog_14_method_10_code
def yX12_valueOf : MethodName := ⟨RX12, "valueOf", "([III)I"⟩
abbrev cX12_layOff : ByteArray := prog_14_method_11_code
def yX12_layOff : MethodName := ⟨RX12, "layOff", "([II)V"⟩
abbrev cX12_layLine : ByteArray := prog_14_method_12_code
def yX12_layLine : MethodName := ⟨RX12, "layLine", "([I)V"⟩
abbrev cX12_chooses : ByteArray := prog_14_method_13_code
def yX12_chooses : MethodName := ⟨RX12, "chooses", "([I)I"⟩
abbrev cX12_goes : ByteArray := prog_14_method_14_code
def yX12_goes : MethodName := ⟨RX12, "goes", "([II)V"⟩
abbrev cX12_calledOf : ByteArray := prog_14_method_15_code
def yX12_calledOf : MethodName := ⟨RX12, "calledOf", "([I)I"⟩
abbrev cX12_sumOf : ByteArray := prog_14_method_16_code
def yX12_sumOf : MethodName := ⟨RX12, "sumOf", "([II)I"⟩
abbrev cX12_man : ByteArray := prog_14_method_17_code
def yX12_man : MethodName := ⟨RX12, "man", "(III)I"⟩
abbrev cX12_name : ByteArray := prog_14_method_18_code
def yX12_name : MethodName := ⟨RX12, "name", "(II)I"⟩
abbrev cX12_placeOf : ByteArray := prog_14_method_19_code
def yX12_placeOf : MethodName := ⟨RX12, "placeOf", "(I)I"⟩
abbrev cX12_of : ByteArray := prog_14_method_20_code
def yX12_of : MethodName := ⟨RX12, "of", "(II)I"⟩
abbrev cX12_whoIs : ByteArray := prog_14_method_21_code
def yX12_whoIs : MethodName := ⟨RX12, "whoIs", "(I)I"⟩
abbrev cX12_named : ByteArray := prog_14_method_22_code
def yX12_named : MethodName := ⟨RX12, "named", "(II)I"⟩
abbrev cX12_values : ByteArray := prog_14_method_23_code
def yX12_values : MethodName := ⟨RX12, "values", "(II)I"⟩
abbrev cX12_becomes : ByteArray := prog_14_method_24_code
def yX12_becomes : MethodName := ⟨RX12, "becomes", "(II)I"⟩
abbrev cX12_stones : ByteArray := prog_14_method_25_code
def yX12_stones : MethodName := ⟨RX12, "stones", "(I)I"⟩
abbrev cX12_type : ByteArray := prog_14_method_26_code
def yX12_type : MethodName := ⟨RX12, "type", "(I)I"⟩
abbrev cX12_here : ByteArray := prog_14_method_27_code
def yX12_here : MethodName := ⟨RX12, "here", "()I"⟩
abbrev cX12_isFigure : ByteArray := prog_14_method_28_code
def yX12_isFigure : MethodName := ⟨RX12, "isFigure", "(I)Z"⟩
abbrev cX12_number : ByteArray := prog_14_method_29_code
def yX12_number : MethodName := ⟨RX12, "number", "(I)Z"⟩
abbrev cX12_figure : ByteArray := prog_14_method_30_code
def yX12_figure : MethodName := ⟨RX12, "figure", "(III)Z"⟩
abbrev cX12_sign : ByteArray := prog_14_method_31_code
def yX12_sign : MethodName := ⟨RX12, "sign", "(I)Z"⟩
abbrev cX12_kindOf : ByteArray := prog_14_method_32_code
def yX12_kindOf : MethodName := ⟨RX12, "kindOf", "(I)I"⟩
abbrev cX12_readsMan : ByteArray := prog_14_method_33_code
def yX12_readsMan : MethodName := ⟨RX12, "readsMan", "()Z"⟩
abbrev cX12_readsName : ByteArray := prog_14_method_34_code
def yX12_readsName : MethodName := ⟨RX12, "readsName", "()Z"⟩
abbrev cX12_reads : ByteArray := prog_14_method_35_code
def yX12_reads : MethodName := ⟨RX12, "reads", "()Z"⟩
abbrev cX12_parish : ByteArray := prog_14_method_36_code
def yX12_parish : MethodName := ⟨RX12, "parish", "()I"⟩
abbrev cX12_wouldBe : ByteArray := prog_14_method_37_code
def yX12_wouldBe : MethodName := ⟨RX12, "wouldBe", "()I"⟩
abbrev cX12_count : ByteArray := prog_14_method_38_code
def yX12_count : MethodName := ⟨RX12, "count", "(I)I"⟩
abbrev cX12_remember : ByteArray := prog_14_method_39_code
def yX12_remember : MethodName := ⟨RX12, "remember", "()V"⟩
abbrev cX12_marches : ByteArray := prog_14_method_40_code
def yX12_marches : MethodName := ⟨RX12, "marches", "(I)I"⟩
abbrev cX12_train : ByteArray := prog_14_method_41_code
def yX12_train : MethodName := ⟨RX12, "train", "(I)I"⟩
abbrev cX12_hire : ByteArray := prog_14_method_42_code
def yX12_hire : MethodName := ⟨RX12, "hire", "(II)I"⟩
abbrev cX12_swap : ByteArray := prog_14_method_43_code
def yX12_swap : MethodName := ⟨RX12, "swap", "(II)I"⟩
abbrev cX12_drift : ByteArray := prog_14_method_44_code
def yX12_drift : MethodName := ⟨RX12, "drift", "(I)I"⟩
abbrev cX12_undo : ByteArray := prog_14_method_45_code
def yX12_undo : MethodName := ⟨RX12, "undo", "()I"⟩
abbrev cX12_seed : ByteArray := prog_14_method_46_code
def yX12_seed : MethodName := ⟨RX12, "seed", "(I)I"⟩
abbrev cX12_layAside : ByteArray := prog_14_method_47_code
def yX12_layAside : MethodName := ⟨RX12, "layAside", "()V"⟩
abbrev cX12_go : ByteArray := prog_14_method_48_code
def yX12_go : MethodName := ⟨RX12, "go", "(I)V"⟩
abbrev cX12_ahead : ByteArray := prog_14_method_49_code
def yX12_ahead : MethodName := ⟨RX12, "ahead", "(III)I"⟩
abbrev cX12_nameAhead : ByteArray := prog_14_method_50_code
def yX12_nameAhead : MethodName := ⟨RX12, "nameAhead", "(III)I"⟩
abbrev cX12_needs : ByteArray := prog_14_method_51_code
def yX12_needs : MethodName := ⟨RX12, "needs", "(II)I"⟩
abbrev cX12_field : ByteArray := prog_14_method_52_code
def yX12_field : MethodName := ⟨RX12, "field", "(I)I"⟩
abbrev cX12_has : ByteArray := prog_14_method_53_code
def yX12_has : MethodName := ⟨RX12, "has", "(III)I"⟩
abbrev cX12_layTable : ByteArray := prog_14_method_54_code
def yX12_layTable : MethodName := ⟨RX12, "layTable", "()V"⟩
abbrev cX12_parting : ByteArray := prog_14_method_55_code
def yX12_parting : MethodName := ⟨RX12, "parting", "(I)I"⟩
abbrev cX12_change : ByteArray := prog_14_method_56_code
def yX12_change : MethodName := ⟨RX12, "change", "(I)I"⟩
abbrev cX12_luck : ByteArray := prog_14_method_57_code
def yX12_luck : MethodName := ⟨RX12, "luck", "(III)I"⟩
abbrev cX12_top : ByteArray := prog_14_method_58_code
def yX12_top : MethodName := ⟨RX12, "top", "(II)I"⟩
abbrev cX12_image : ByteArray := prog_14_method_59_code
def yX12_image : MethodName := ⟨RX12, "image", "()I"⟩
abbrev cX12_restore : ByteArray := prog_14_method_60_code
def yX12_restore : MethodName := ⟨RX12, "restore", "()I"⟩
abbrev cX12_isSheet : ByteArray := prog_14_method_61_code
def yX12_isSheet : MethodName := ⟨RX12, "isSheet", "(II)Z"⟩
abbrev cX12_found : ByteArray := prog_14_method_62_code
def yX12_found : MethodName := ⟨RX12, "found", "(IIII)I"⟩
abbrev cX12_cut : ByteArray := prog_14_method_63_code
def yX12_cut : MethodName := ⟨RX12, "cut", "(IJ)J"⟩
abbrev cX12_told : ByteArray := prog_14_method_64_code
def yX12_told : MethodName := ⟨RX12, "told", "(I)I"⟩
abbrev cX12_ledger : ByteArray := prog_14_method_65_code
def yX12_ledger : MethodName := ⟨RX12, "ledger", "(IIIII)I"⟩
abbrev cX12_film : ByteArray := prog_14_method_66_code
def yX12_film : MethodName := ⟨RX12, "film", "(IIIII)I"⟩
abbrev cX12_sheet : ByteArray := prog_14_method_67_code
def yX12_sheet : MethodName := ⟨RX12, "sheet", "(III)I"⟩
abbrev cX12_drop : ByteArray := prog_14_method_68_code
def yX12_drop : MethodName := ⟨RX12, "drop", "(I)I"⟩
abbrev cX12_item : ByteArray := prog_14_method_69_code
def yX12_item : MethodName := ⟨RX12, "item", "(IIIJ)I"⟩
abbrev cX12_copy : ByteArray := prog_14_method_70_code
def yX12_copy : MethodName := ⟨RX12, "copy", "(IIIII)I"⟩
def RJx145de : String := "java/io/Serializable"
def TJx145de : u_T := fun k => match k with
  | _ => ("", "", "", false)
def tyJx145de : Nat → FieldType := fun k => match k with
  | _ => .int
abbrev wsJx145de0 : List Cond := u_ws RJx145de TJx145de 0
theorem nmJx145de : ∀ a, a < 0 → ∀ b, b < 0 → a ≠ b → (TJx145de a).2.1 ≠ (TJx145de b).2.1 := by decide +kernel
theorem tyJx145de_ok : ∀ k, k < 0 → parseFieldDescriptor (TJx145de k).2.2.1 = some (tyJx145de k) := by decide +kernel
def RJx9f9b0 : String := "java/lang/CharSequence"
def TJx9f9b0 : u_T := fun k => match k with
  | _ => ("", "", "", false)
def tyJx9f9b0 : Nat → FieldType := fun k => match k with
  | _ => .int
abbrev wsJx9f9b00 : List Cond := u_ws RJx9f9b0 TJx9f9b0 0
theorem nmJx9f9b0 : ∀ a, a < 0 → ∀ b, b < 0 → a ≠ b → (TJx9f9b0 a).2.1 ≠ (TJx9f9b0 b).2.1 := by decide +kernel
theorem tyJx9f9b0_ok : ∀ k, k < 0 → parseFieldDescriptor (TJx9f9b0 k).2.2.1 = some (tyJx9f9b0 k) := by decide +kernel
def RJ11 : String := "java/lang/Character"
def TJ11 : u_T := fun k => match k with
  | _ => ("", "", "", false)
def tyJ11 : Nat → FieldType := fun k => match k with
  | _ => .int
abbrev wsJ110 : List Cond := u_ws RJ11 TJ11 0
theorem nmJ11 : ∀ a, a < 0 → ∀ b, b < 0 → a ≠ b → (TJ11 a).2.1 ≠ (TJ11 b).2.1 := by decide +kernel
theorem tyJ11_ok : ∀ k, k < 0 → parseFieldDescriptor (TJ11 k).2.2.1 = some (tyJ11 k) := by decide +kernel
abbrev cJ11_isValidCodePoint_9a6ad : ByteArray := prog_15_method_11_code
def yJ11_isValidCodePoint_9a6ad : MethodName := ⟨RJ11, "isValidCodePoint", "(I)Z"⟩
abbrev cJ11_highSurrogate_5068e : ByteArray := prog_15_method_28_code
def yJ11_highSurrogate_5068e : MethodName := ⟨RJ11, "highSurrogate", "(I)C"⟩
abbrev cJ11_lowSurrogate_5068e : ByteArray := prog_15_method_29_code
def yJ11_lowSurrogate_5068e : MethodName := ⟨RJ11, "lowSurrogate", "(I)C"⟩
def RJxb160c : String := "java/lang/Comparable"
def TJxb160c : u_T := fun k => match k with
  | _ => ("", "", "", false)
def tyJxb160c : Nat → FieldType := fun k => match k with
  | _ => .int
abbrev wsJxb160c0 : List Cond := u_ws RJxb160c TJxb160c 0
theorem nmJxb160c : ∀ a, a < 0 → ∀ b, b < 0 → a ≠ b → (TJxb160c a).2.1 ≠ (TJxb160c b).2.1 := by decide +kernel
theorem tyJxb160c_ok : ∀ k, k < 0 → parseFieldDescriptor (TJxb160c k).2.2.1 = some (tyJxb160c k) := by decide +kernel
def RJ6 : String := "java/lang/Integer"
def TJ6 : u_T := fun k => match k with
  | _ => ("", "", "", false)
def tyJ6 : Nat → FieldType := fun k => match k with
  | _ => .int
abbrev wsJ60 : List Cond := u_ws RJ6 TJ6 0
theorem nmJ6 : ∀ a, a < 0 → ∀ b, b < 0 → a ≠ b → (TJ6 a).2.1 ≠ (TJ6 b).2.1 := by decide +kernel
theorem tyJ6_ok : ∀ k, k < 0 → parseFieldDescriptor (TJ6 k).2.2.1 = some (tyJ6 k) := by decide +kernel
abbrev cJ6_bitCount_0f7a4 : ByteArray := prog_16_method_49_code
def yJ6_bitCount_0f7a4 : MethodName := ⟨RJ6, "bitCount", "(I)I"⟩
def RJ9 : String := "java/lang/Math"
def TJ9 : u_T := fun k => match k with
  | _ => ("", "", "", false)
def tyJ9 : Nat → FieldType := fun k => match k with
  | _ => .int
abbrev wsJ90 : List Cond := u_ws RJ9 TJ9 0
theorem nmJ9 : ∀ a, a < 0 → ∀ b, b < 0 → a ≠ b → (TJ9 a).2.1 ≠ (TJ9 b).2.1 := by decide +kernel
theorem tyJ9_ok : ∀ k, k < 0 → parseFieldDescriptor (TJ9 k).2.2.1 = some (tyJ9 k) := by decide +kernel
abbrev cJ9_max_7cf53 : ByteArray := prog_17_method_65_code
def yJ9_max_7cf53 : MethodName := ⟨RJ9, "max", "(II)I"⟩
abbrev cJ9_min_7cf53 : ByteArray := prog_17_method_69_code
def yJ9_min_7cf53 : MethodName := ⟨RJ9, "min", "(II)I"⟩
def RJ0 : String := "java/lang/String"
def TJ0 : u_T := fun k => match k with
  | _ => ("", "", "", false)
def tyJ0 : Nat → FieldType := fun k => match k with
  | _ => .int
abbrev wsJ00 : List Cond := u_ws RJ0 TJ0 0
theorem nmJ0 : ∀ a, a < 0 → ∀ b, b < 0 → a ≠ b → (TJ0 a).2.1 ≠ (TJ0 b).2.1 := by decide +kernel
theorem tyJ0_ok : ∀ k, k < 0 → parseFieldDescriptor (TJ0 k).2.2.1 = some (tyJ0 k) := by decide +kernel
abbrev cJ0_length_8abf5 : ByteArray := prog_18_method_54_code
def yJ0_length_8abf5 : MethodName := ⟨RJ0, "length", "()I"⟩
abbrev cJ0_indexOf_0f7a4 : ByteArray := prog_18_method_79_code
def yJ0_indexOf_0f7a4 : MethodName := ⟨RJ0, "indexOf", "(I)I"⟩
abbrev cJ0_indexOf_7cf53 : ByteArray := prog_18_method_80_code
def yJ0_indexOf_7cf53 : MethodName := ⟨RJ0, "indexOf", "(II)I"⟩
abbrev cJ0_coder_7d493 : ByteArray := prog_18_method_152_code
def yJ0_coder_7d493 : MethodName := ⟨RJ0, "coder", "()B"⟩
abbrev cJ0_isLatin1_aae02 : ByteArray := prog_18_method_154_code
def yJ0_isLatin1_aae02 : MethodName := ⟨RJ0, "isLatin1", "()Z"⟩
abbrev cJ0_checkBoundsBeginEnd_23922 : ByteArray := prog_18_method_158_code
def yJ0_checkBoundsBeginEnd_23922 : MethodName := ⟨RJ0, "checkBoundsBeginEnd", "(III)V"⟩
def RJ1 : String := "java/lang/StringLatin1"
def TJ1 : u_T := fun k => match k with
  | _ => ("", "", "", false)
def tyJ1 : Nat → FieldType := fun k => match k with
  | _ => .int
abbrev wsJ10 : List Cond := u_ws RJ1 TJ1 0
theorem nmJ1 : ∀ a, a < 0 → ∀ b, b < 0 → a ≠ b → (TJ1 a).2.1 ≠ (TJ1 b).2.1 := by decide +kernel
theorem tyJ1_ok : ∀ k, k < 0 → parseFieldDescriptor (TJ1 k).2.2.1 = some (tyJ1 k) := by decide +kernel
abbrev cJ1_canEncode_9a6ad : ByteArray := prog_19_method_4_code
def yJ1_canEncode_9a6ad : MethodName := ⟨RJ1, "canEncode", "(I)Z"⟩
abbrev cJ1_indexOf_4cfef : ByteArray := prog_19_method_22_code
def yJ1_indexOf_4cfef : MethodName := ⟨RJ1, "indexOf", "([BIII)I"⟩
abbrev cJ1_indexOfChar_4cfef : ByteArray := prog_19_method_23_code
def yJ1_indexOfChar_4cfef : MethodName := ⟨RJ1, "indexOfChar", "([BIII)I"⟩
def RJ2 : String := "java/lang/StringUTF16"
def TJ2 : u_T := fun k => match k with
  | _ => ("", "", "", false)
def tyJ2 : Nat → FieldType := fun k => match k with
  | _ => .int
abbrev wsJ20 : List Cond := u_ws RJ2 TJ2 0
theorem nmJ2 : ∀ a, a < 0 → ∀ b, b < 0 → a ≠ b → (TJ2 a).2.1 ≠ (TJ2 b).2.1 := by decide +kernel
theorem tyJ2_ok : ∀ k, k < 0 → parseFieldDescriptor (TJ2 k).2.2.1 = some (tyJ2 k) := by decide +kernel
abbrev cJ2_getChar_3b067 : ByteArray := prog_20_method_5_code
def yJ2_getChar_3b067 : MethodName := ⟨RJ2, "getChar", "([BI)C"⟩
abbrev cJ2_length_9d52b : ByteArray := prog_20_method_6_code
def yJ2_length_9d52b : MethodName := ⟨RJ2, "length", "([B)I"⟩
abbrev cJ2_indexOf_4cfef : ByteArray := prog_20_method_40_code
def yJ2_indexOf_4cfef : MethodName := ⟨RJ2, "indexOf", "([BIII)I"⟩
abbrev cJ2_indexOfChar_4cfef : ByteArray := prog_20_method_47_code
def yJ2_indexOfChar_4cfef : MethodName := ⟨RJ2, "indexOfChar", "([BIII)I"⟩
abbrev cJ2_indexOfCharUnsafe_4cfef : ByteArray := prog_20_method_48_code
def yJ2_indexOfCharUnsafe_4cfef : MethodName := ⟨RJ2, "indexOfCharUnsafe", "([BIII)I"⟩
abbrev cJ2_indexOfSupplementary_4cfef : ByteArray := prog_20_method_49_code
def yJ2_indexOfSupplementary_4cfef : MethodName := ⟨RJ2, "indexOfSupplementary", "([BIII)I"⟩
abbrev cJ2_checkBoundsBeginEnd_d044e : ByteArray := prog_20_method_93_code
def yJ2_checkBoundsBeginEnd_d044e : MethodName := ⟨RJ2, "checkBoundsBeginEnd", "(II[B)V"⟩
def RJ10 : String := "java/lang/System"
def TJ10 : u_T := fun k => match k with
  | _ => ("", "", "", false)
def tyJ10 : Nat → FieldType := fun k => match k with
  | _ => .int
abbrev wsJ100 : List Cond := u_ws RJ10 TJ10 0
theorem nmJ10 : ∀ a, a < 0 → ∀ b, b < 0 → a ≠ b → (TJ10 a).2.1 ≠ (TJ10 b).2.1 := by decide +kernel
theorem tyJ10_ok : ∀ k, k < 0 → parseFieldDescriptor (TJ10 k).2.2.1 = some (tyJ10 k) := by decide +kernel
def RJxfd54e : String := "java/lang/constant/Constable"
def TJxfd54e : u_T := fun k => match k with
  | _ => ("", "", "", false)
def tyJxfd54e : Nat → FieldType := fun k => match k with
  | _ => .int
abbrev wsJxfd54e0 : List Cond := u_ws RJxfd54e TJxfd54e 0
theorem nmJxfd54e : ∀ a, a < 0 → ∀ b, b < 0 → a ≠ b → (TJxfd54e a).2.1 ≠ (TJxfd54e b).2.1 := by decide +kernel
theorem tyJxfd54e_ok : ∀ k, k < 0 → parseFieldDescriptor (TJxfd54e k).2.2.1 = some (tyJxfd54e k) := by decide +kernel
def RJx3cf43 : String := "java/lang/constant/ConstantDesc"
def TJx3cf43 : u_T := fun k => match k with
  | _ => ("", "", "", false)
def tyJx3cf43 : Nat → FieldType := fun k => match k with
  | _ => .int
abbrev wsJx3cf430 : List Cond := u_ws RJx3cf43 TJx3cf43 0
theorem nmJx3cf43 : ∀ a, a < 0 → ∀ b, b < 0 → a ≠ b → (TJx3cf43 a).2.1 ≠ (TJx3cf43 b).2.1 := by decide +kernel
theorem tyJx3cf43_ok : ∀ k, k < 0 → parseFieldDescriptor (TJx3cf43 k).2.2.1 = some (tyJx3cf43 k) := by decide +kernel
def RJ7 : String := "java/util/Arrays"
def TJ7 : u_T := fun k => match k with
  | _ => ("", "", "", false)
def tyJ7 : Nat → FieldType := fun k => match k with
  | _ => .int
abbrev wsJ70 : List Cond := u_ws RJ7 TJ7 0
theorem nmJ7 : ∀ a, a < 0 → ∀ b, b < 0 → a ≠ b → (TJ7 a).2.1 ≠ (TJ7 b).2.1 := by decide +kernel
theorem tyJ7_ok : ∀ k, k < 0 → parseFieldDescriptor (TJ7 k).2.2.1 = some (tyJ7 k) := by decide +kernel
abbrev cJ7_fill_d0a16 : ByteArray := prog_22_method_101_code
def yJ7_fill_d0a16 : MethodName := ⟨RJ7, "fill", "([JJ)V"⟩
abbrev cJ7_fill_53178 : ByteArray := prog_22_method_103_code
def yJ7_fill_53178 : MethodName := ⟨RJ7, "fill", "([II)V"⟩
def RJ3 : String := "jdk/internal/util/Preconditions"
def TJ3 : u_T := fun k => match k with
  | _ => ("", "", "", false)
def tyJ3 : Nat → FieldType := fun k => match k with
  | _ => .int
abbrev wsJ30 : List Cond := u_ws RJ3 TJ3 0
theorem nmJ3 : ∀ a, a < 0 → ∀ b, b < 0 → a ≠ b → (TJ3 a).2.1 ≠ (TJ3 b).2.1 := by decide +kernel
theorem tyJ3_ok : ∀ k, k < 0 → parseFieldDescriptor (TJ3 k).2.2.1 = some (tyJ3 k) := by decide +kernel
abbrev cJ3_checkFromToIndex_8c36e : ByteArray := prog_23_method_12_code
def yJ3_checkFromToIndex_8c36e : MethodName := ⟨RJ3, "checkFromToIndex", "(IIILjava/util/function/BiFunction;)I"⟩
def RL : String := "FurrowNamesLaw"
abbrev cL_law : ByteArray := code
def yL_law : MethodName := ⟨RL, "law", "([I)Z"⟩
abbrev vwCl : List vw_C := [(RX0, TX0, 4), (RX1, TX1, 0), (RX2, TX2, 0), (RX3, TX3, 4), (RX4, TX4, 12), (RX5, TX5, 3), (RX6, TX6, 0), (RX7, TX7, 0), (RX8, TX8, 0), (RX9, TX9, 4), (RX10, TX10, 3), (RX11, TX11, 11), (RX12, TX12, 16)]
