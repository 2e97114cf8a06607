def RX0 : String := "SkyPlan$Clouds"
def TX0 : u_T := fun k => match k with
  | 0 => ("SkyPlan$Clouds", "from", "[I", true)
  | 1 => ("SkyPlan$Clouds", "to", "[I", true)
  | _ => ("SkyPlan$Clouds", "told", "I", false)
def tyX0 : Nat → FieldType := fun k => match k with
  | 0 => .array .int
  | 1 => .array .int
  | _ => .int
abbrev wsX00 : List Cond := u_ws RX0 TX0 3
theorem nmX0 : ∀ a, a < 3 → ∀ b, b < 3 → a ≠ b → (TX0 a).2.1 ≠ (TX0 b).2.1 := by decide +kernel
theorem tyX0_ok : ∀ k, k < 3 → parseFieldDescriptor (TX0 k).2.2.1 = some (tyX0 k) := by decide +kernel
abbrev cX0_init : ByteArray := prog_2_method_1_code
def yX0_init : MethodName := ⟨RX0, "<init>", "()V"⟩
abbrev cX0_tell : ByteArray := prog_2_method_2_code
def yX0_tell : MethodName := ⟨RX0, "tell", "(II)V"⟩
abbrev cX0_cover : ByteArray := prog_2_method_3_code
def yX0_cover : MethodName := ⟨RX0, "cover", "(I)Z"⟩
def RX1 : String := "SkyPlan$Outlook"
def TX1 : u_T := fun k => match k with
  | 0 => ("SkyPlan$Outlook", "runs", "[I", true)
  | 1 => ("SkyPlan$Outlook", "stands", "Z", false)
  | 2 => ("SkyPlan$Outlook", "first", "I", false)
  | 3 => ("SkyPlan$Outlook", "last", "I", false)
  | 4 => ("SkyPlan$Outlook", "seen", "I", false)
  | 5 => ("SkyPlan$Outlook", "highest", "I", false)
  | 6 => ("SkyPlan$Outlook", "top", "I", false)
  | _ => ("SkyPlan$Outlook", "begin", "I", false)
def tyX1 : Nat → FieldType := fun k => match k with
  | 0 => .array .int
  | 1 => .boolean
  | 2 => .int
  | 3 => .int
  | 4 => .int
  | 5 => .int
  | 6 => .int
  | _ => .int
abbrev wsX10 : List Cond := u_ws RX1 TX1 8
theorem nmX1 : ∀ a, a < 8 → ∀ b, b < 8 → a ≠ b → (TX1 a).2.1 ≠ (TX1 b).2.1 := by decide +kernel
theorem tyX1_ok : ∀ k, k < 8 → parseFieldDescriptor (TX1 k).2.2.1 = some (tyX1 k) := by decide +kernel
abbrev cX1_init : ByteArray := prog_3_method_1_code
def yX1_init : MethodName := ⟨RX1, "<init>", "()V"⟩
abbrev cX1_clear : ByteArray := prog_3_method_2_code
def yX1_clear : MethodName := ⟨RX1, "clear", "()V"⟩
abbrev cX1_noteHeight : ByteArray := prog_3_method_3_code
def yX1_noteHeight : MethodName := ⟨RX1, "noteHeight", "(II)V"⟩
abbrev cX1_noteRun : ByteArray := prog_3_method_4_code
def yX1_noteRun : MethodName := ⟨RX1, "noteRun", "(III)V"⟩
abbrev cX1_lasts : ByteArray := prog_3_method_5_code
def yX1_lasts : MethodName := ⟨RX1, "lasts", "(II)Z"⟩
abbrev cX1_fact : ByteArray := prog_3_method_6_code
def yX1_fact : MethodName := ⟨RX1, "fact", "(I)I"⟩
def RX2 : String := "SkyPlan$Plan"
def TX2 : u_T := fun k => match k with
  | 0 => ("SkyPlan$Plan", "rows", "[[I", true)
  | 1 => ("SkyPlan$Plan", "stands", "Z", false)
  | 2 => ("SkyPlan$Plan", "size", "I", false)
  | 3 => ("SkyPlan$Plan", "minutes", "I", false)
  | _ => ("SkyPlan$Plan", "pointed", "LSkyPlan$Target;", false)
def tyX2 : Nat → FieldType := fun k => match k with
  | 0 => .array (.array .int)
  | 1 => .boolean
  | 2 => .int
  | 3 => .int
  | _ => .object "SkyPlan$Target"
abbrev wsX20 : List Cond := u_ws RX2 TX2 5
theorem nmX2 : ∀ a, a < 5 → ∀ b, b < 5 → a ≠ b → (TX2 a).2.1 ≠ (TX2 b).2.1 := by decide +kernel
theorem tyX2_ok : ∀ k, k < 5 → parseFieldDescriptor (TX2 k).2.2.1 = some (tyX2 k) := by decide +kernel
abbrev cX2_init : ByteArray := prog_4_method_1_code
def yX2_init : MethodName := ⟨RX2, "<init>", "()V"⟩
abbrev cX2_clear : ByteArray := prog_4_method_2_code
def yX2_clear : MethodName := ⟨RX2, "clear", "()V"⟩
abbrev cX2_minutesUntilReady : ByteArray := prog_4_method_3_code
def yX2_minutesUntilReady : MethodName := ⟨RX2, "minutesUntilReady", "(LSkyPlan$Target;)I"⟩
abbrev cX2_take : ByteArray := prog_4_method_4_code
def yX2_take : MethodName := ⟨RX2, "take", "(LSkyPlan$Target;II)I"⟩
def RX3 : String := "SkyPlan$Point"
def TX3 : u_T := fun k => match k with
  | 0 => ("SkyPlan$Point", "rise", "I", true)
  | 1 => ("SkyPlan$Point", "declination", "I", true)
  | 2 => ("SkyPlan$Point", "sine", "I", true)
  | _ => ("SkyPlan$Point", "cosine", "I", true)
def tyX3 : Nat → FieldType := fun k => match k with
  | 0 => .int
  | 1 => .int
  | 2 => .int
  | _ => .int
abbrev wsX30 : List Cond := u_ws RX3 TX3 4
theorem nmX3 : ∀ a, a < 4 → ∀ b, b < 4 → a ≠ b → (TX3 a).2.1 ≠ (TX3 b).2.1 := by decide +kernel
theorem tyX3_ok : ∀ k, k < 4 → parseFieldDescriptor (TX3 k).2.2.1 = some (tyX3 k) := by decide +kernel
abbrev cX3_init : ByteArray := prog_5_method_1_code
def yX3_init : MethodName := ⟨RX3, "<init>", "(II)V"⟩
def RX4 : String := "SkyPlan$Target"
def TX4 : u_T := fun k => match k with
  | 0 => ("SkyPlan$Target", "number", "I", true)
  | 1 => ("SkyPlan$Target", "place", "LSkyPlan$Point;", true)
  | 2 => ("SkyPlan$Target", "filter", "I", true)
  | 3 => ("SkyPlan$Target", "rank", "I", true)
  | 4 => ("SkyPlan$Target", "minutes", "I", true)
  | 5 => ("SkyPlan$Target", "outlook", "LSkyPlan$Outlook;", true)
  | 6 => ("SkyPlan$Target", "least", "I", false)
  | 7 => ("SkyPlan$Target", "wanted", "I", false)
  | 8 => ("SkyPlan$Target", "gap", "I", false)
  | 9 => ("SkyPlan$Target", "had", "I", false)
  | 10 => ("SkyPlan$Target", "latest", "I", false)
  | _ => ("SkyPlan$Target", "planned", "Z", false)
def tyX4 : Nat → FieldType := fun k => match k with
  | 0 => .int
  | 1 => .object "SkyPlan$Point"
  | 2 => .int
  | 3 => .int
  | 4 => .int
  | 5 => .object "SkyPlan$Outlook"
  | 6 => .int
  | 7 => .int
  | 8 => .int
  | 9 => .int
  | 10 => .int
  | _ => .boolean
abbrev wsX40 : List Cond := u_ws RX4 TX4 12
theorem nmX4 : ∀ a, a < 12 → ∀ b, b < 12 → a ≠ b → (TX4 a).2.1 ≠ (TX4 b).2.1 := by decide +kernel
theorem tyX4_ok : ∀ k, k < 12 → parseFieldDescriptor (TX4 k).2.2.1 = some (tyX4 k) := by decide +kernel
abbrev cX4_init : ByteArray := prog_6_method_1_code
def yX4_init : MethodName := ⟨RX4, "<init>", "(ILSkyPlan$Point;III)V"⟩
abbrev cX4_isOpenOn : ByteArray := prog_6_method_2_code
def yX4_isOpenOn : MethodName := ⟨RX4, "isOpenOn", "(I)Z"⟩
abbrev cX4_takeVisit : ByteArray := prog_6_method_3_code
def yX4_takeVisit : MethodName := ⟨RX4, "takeVisit", "(I)V"⟩
abbrev cX4_fact : ByteArray := prog_6_method_4_code
def yX4_fact : MethodName := ⟨RX4, "fact", "(I)I"⟩
def RX5 : String := "SkyPlan"
def TX5 : u_T := fun k => match k with
  | 0 => ("SkyPlan", "zenith", "LSkyPlan$Point;", false)
  | 1 => ("SkyPlan", "moon", "LSkyPlan$Point;", false)
  | 2 => ("SkyPlan", "moonAge", "I", false)
  | 3 => ("SkyPlan", "length", "I", false)
  | 4 => ("SkyPlan", "night", "I", false)
  | 5 => ("SkyPlan", "clouds", "LSkyPlan$Clouds;", true)
  | 6 => ("SkyPlan", "targets", "Ljava/util/ArrayList;", true)
  | _ => ("SkyPlan", "plan", "LSkyPlan$Plan;", true)
def tyX5 : Nat → FieldType := fun k => match k with
  | 0 => .object "SkyPlan$Point"
  | 1 => .object "SkyPlan$Point"
  | 2 => .int
  | 3 => .int
  | 4 => .int
  | 5 => .object "SkyPlan$Clouds"
  | 6 => .object "java/util/ArrayList"
  | _ => .object "SkyPlan$Plan"
abbrev wsX50 : List Cond := u_ws RX5 TX5 8
theorem nmX5 : ∀ a, a < 8 → ∀ b, b < 8 → a ≠ b → (TX5 a).2.1 ≠ (TX5 b).2.1 := by decide +kernel
theorem tyX5_ok : ∀ k, k < 8 → parseFieldDescriptor (TX5 k).2.2.1 = some (tyX5 k) := by decide +kernel
abbrev cX5_init : ByteArray := prog_1_method_1_code
def yX5_init : MethodName := ⟨RX5, "<init>", "()V"⟩
abbrev cX5_setSite : ByteArray := prog_1_method_2_code
def yX5_setSite : MethodName := ⟨RX5, "setSite", "(II)I"⟩
abbrev cX5_setLength : ByteArray := prog_1_method_3_code
def yX5_setLength : MethodName := ⟨RX5, "setLength", "(I)I"⟩
abbrev cX5_setMoon : ByteArray := prog_1_method_4_code
def yX5_setMoon : MethodName := ⟨RX5, "setMoon", "(III)I"⟩
abbrev cX5_addClouds : ByteArray := prog_1_method_5_code
def yX5_addClouds : MethodName := ⟨RX5, "addClouds", "(II)I"⟩
abbrev cX5_addTarget : ByteArray := prog_1_method_7_code
def yX5_addTarget : MethodName := ⟨RX5, "addTarget", "(IIIII)I"⟩
abbrev cX5_want : ByteArray := prog_1_method_8_code
def yX5_want : MethodName := ⟨RX5, "want", "(IIII)I"⟩
abbrev cX5_target : ByteArray := prog_1_method_9_code
def yX5_target : MethodName := ⟨RX5, "target", "(II)I"⟩
abbrev cX5_reason : ByteArray := prog_1_method_14_code
def yX5_reason : MethodName := ⟨RX5, "reason", "(II)I"⟩
abbrev cX5_window : ByteArray := prog_1_method_15_code
def yX5_window : MethodName := ⟨RX5, "window", "(II)I"⟩
abbrev cX5_isOpen : ByteArray := prog_1_method_16_code
def yX5_isOpen : MethodName := ⟨RX5, "isOpen", "(I)Z"⟩
abbrev cX5_count : ByteArray := prog_1_method_17_code
def yX5_count : MethodName := ⟨RX5, "count", "(I)I"⟩
abbrev cX5_visits : ByteArray := prog_1_method_18_code
def yX5_visits : MethodName := ⟨RX5, "visits", "()I"⟩
abbrev cX5_visit : ByteArray := prog_1_method_19_code
def yX5_visit : MethodName := ⟨RX5, "visit", "(II)I"⟩
abbrev cX5_use : ByteArray := prog_1_method_20_code
def yX5_use : MethodName := ⟨RX5, "use", "()D"⟩
abbrev cX5_observe : ByteArray := prog_1_method_21_code
def yX5_observe : MethodName := ⟨RX5, "observe", "()I"⟩
abbrev cX5_night : ByteArray := prog_1_method_23_code
def yX5_night : MethodName := ⟨RX5, "night", "()I"⟩
abbrev cX5_isWithin : ByteArray := prog_1_method_26_code
def yX5_isWithin : MethodName := ⟨RX5, "isWithin", "(III)Z"⟩
abbrev cX5_isPoint : ByteArray := prog_1_method_27_code
def yX5_isPoint : MethodName := ⟨RX5, "isPoint", "(II)Z"⟩
abbrev cX5_findTarget : ByteArray := prog_1_method_28_code
def yX5_findTarget : MethodName := ⟨RX5, "findTarget", "(I)LSkyPlan$Target;"⟩
abbrev cX5_checkMinute : ByteArray := prog_1_method_29_code
def yX5_checkMinute : MethodName := ⟨RX5, "checkMinute", "(I)V"⟩
abbrev cX5_checkWhat : ByteArray := prog_1_method_30_code
def yX5_checkWhat : MethodName := ⟨RX5, "checkWhat", "(II)V"⟩
abbrev cX5_sineOf : ByteArray := prog_1_method_31_code
def yX5_sineOf : MethodName := ⟨RX5, "sineOf", "(I)I"⟩
abbrev cX5_closeness : ByteArray := prog_1_method_32_code
def yX5_closeness : MethodName := ⟨RX5, "closeness", "(LSkyPlan$Point;LSkyPlan$Point;I)I"⟩
abbrev cX5_nearnessOf : ByteArray := prog_1_method_33_code
def yX5_nearnessOf : MethodName := ⟨RX5, "nearnessOf", "(LSkyPlan$Point;LSkyPlan$Point;)I"⟩
abbrev cX5_heightOf : ByteArray := prog_1_method_34_code
def yX5_heightOf : MethodName := ⟨RX5, "heightOf", "(LSkyPlan$Point;I)I"⟩
abbrev cX5_moonLight : ByteArray := prog_1_method_35_code
def yX5_moonLight : MethodName := ⟨RX5, "moonLight", "()I"⟩
abbrev cX5_clearMinutes : ByteArray := prog_1_method_36_code
def yX5_clearMinutes : MethodName := ⟨RX5, "clearMinutes", "()I"⟩
abbrev cX5_reasonAgainst : ByteArray := prog_1_method_37_code
def yX5_reasonAgainst : MethodName := ⟨RX5, "reasonAgainst", "(LSkyPlan$Target;II)I"⟩
abbrev cX5_survey : ByteArray := prog_1_method_38_code
def yX5_survey : MethodName := ⟨RX5, "survey", "(LSkyPlan$Target;)V"⟩
abbrev cX5_share : ByteArray := prog_1_method_39_code
def yX5_share : MethodName := ⟨RX5, "share", "(LSkyPlan$Target;I)I"⟩
abbrev cX5_settlePlan : ByteArray := prog_1_method_40_code
def yX5_settlePlan : MethodName := ⟨RX5, "settlePlan", "()V"⟩
abbrev cX5_takeBest : ByteArray := prog_1_method_41_code
def yX5_takeBest : MethodName := ⟨RX5, "takeBest", "(I)I"⟩
abbrev cX5_meritAt : ByteArray := prog_1_method_42_code
def yX5_meritAt : MethodName := ⟨RX5, "meritAt", "(LSkyPlan$Target;I)I"⟩
abbrev cX5_beginNextNight : ByteArray := prog_1_method_43_code
def yX5_beginNextNight : MethodName := ⟨RX5, "beginNextNight", "()V"⟩
abbrev cX5_forgetNight : ByteArray := prog_1_method_44_code
def yX5_forgetNight : MethodName := ⟨RX5, "forgetNight", "()V"⟩
def RX6 : String := "SkyPlanModel"
def TX6 : u_T := fun k => match k with
  | _ => ("", "", "", false)
def tyX6 : Nat → FieldType := fun k => match k with
  | _ => .int
abbrev wsX60 : List Cond := u_ws RX6 TX6 0
theorem nmX6 : ∀ a, a < 0 → ∀ b, b < 0 → a ≠ b → (TX6 a).2.1 ≠ (TX6 b).2.1 := by decide +kernel
theorem tyX6_ok : ∀ k, k < 0 → parseFieldDescriptor (TX6 k).2.2.1 = some (tyX6 k) := by decide +kernel
def RJx145de : String := "java/io/Serializable"
def TJx145de : u_T := fun k => match k with
  | _ => ("", "", "", false)
def tyJx145de : Nat → FieldType := fun k => match k with
  | _ => .int
abbrev wsJx145de0 : List Cond := u_ws RJx145de TJx145de 0
theorem nmJx145de : ∀ a, a < 0 → ∀ b, b < 0 → a ≠ b → (TJx145de a).2.1 ≠ (TJx145de b).2.1 := by decide +kernel
theorem tyJx145de_ok : ∀ k, k < 0 → parseFieldDescriptor (TJx145de k).2.2.1 = some (tyJx145de k) := by decide +kernel
def RJx8e188 : String := "java/lang/Cloneable"
def TJx8e188 : u_T := fun k => match k with
  | _ => ("", "", "", false)
def tyJx8e188 : Nat → FieldType := fun k => match k with
  | _ => .int
abbrev wsJx8e1880 : List Cond := u_ws RJx8e188 TJx8e188 0
theorem nmJx8e188 : ∀ a, a < 0 → ∀ b, b < 0 → a ≠ b → (TJx8e188 a).2.1 ≠ (TJx8e188 b).2.1 := by decide +kernel
theorem tyJx8e188_ok : ∀ k, k < 0 → parseFieldDescriptor (TJx8e188 k).2.2.1 = some (tyJx8e188 k) := by decide +kernel
def RJxab1ab : String := "java/lang/Iterable"
def TJxab1ab : u_T := fun k => match k with
  | _ => ("", "", "", false)
def tyJxab1ab : Nat → FieldType := fun k => match k with
  | _ => .int
abbrev wsJxab1ab0 : List Cond := u_ws RJxab1ab TJxab1ab 0
theorem nmJxab1ab : ∀ a, a < 0 → ∀ b, b < 0 → a ≠ b → (TJxab1ab a).2.1 ≠ (TJxab1ab b).2.1 := by decide +kernel
theorem tyJxab1ab_ok : ∀ k, k < 0 → parseFieldDescriptor (TJxab1ab k).2.2.1 = some (tyJxab1ab k) := by decide +kernel
def RJ9 : String := "java/lang/Math"
def TJ9 : u_T := fun k => match k with
  | _ => ("", "", "", false)
def tyJ9 : Nat → FieldType := fun k => match k with
  | _ => .int
abbrev wsJ90 : List Cond := u_ws RJ9 TJ9 0
theorem nmJ9 : ∀ a, a < 0 → ∀ b, b < 0 → a ≠ b → (TJ9 a).2.1 ≠ (TJ9 b).2.1 := by decide +kernel
theorem tyJ9_ok : ∀ k, k < 0 → parseFieldDescriptor (TJ9 k).2.2.1 = some (tyJ9 k) := by decide +kernel
abbrev cJ9_abs_0f7a4 : ByteArray := prog_16_method_59_code
def yJ9_abs_0f7a4 : MethodName := ⟨RJ9, "abs", "(I)I"⟩
abbrev cJ9_max_7cf53 : ByteArray := prog_16_method_65_code
def yJ9_max_7cf53 : MethodName := ⟨RJ9, "max", "(II)I"⟩
abbrev cJ9_min_7cf53 : ByteArray := prog_16_method_69_code
def yJ9_min_7cf53 : MethodName := ⟨RJ9, "min", "(II)I"⟩
def RJ0 : String := "java/lang/String"
def TJ0 : u_T := fun k => match k with
  | _ => ("", "", "", false)
def tyJ0 : Nat → FieldType := fun k => match k with
  | _ => .int
abbrev wsJ00 : List Cond := u_ws RJ0 TJ0 0
theorem nmJ0 : ∀ a, a < 0 → ∀ b, b < 0 → a ≠ b → (TJ0 a).2.1 ≠ (TJ0 b).2.1 := by decide +kernel
theorem tyJ0_ok : ∀ k, k < 0 → parseFieldDescriptor (TJ0 k).2.2.1 = some (tyJ0 k) := by decide +kernel
def RJ10 : String := "java/lang/System"
def TJ10 : u_T := fun k => match k with
  | _ => ("", "", "", false)
def tyJ10 : Nat → FieldType := fun k => match k with
  | _ => .int
abbrev wsJ100 : List Cond := u_ws RJ10 TJ10 0
theorem nmJ10 : ∀ a, a < 0 → ∀ b, b < 0 → a ≠ b → (TJ10 a).2.1 ≠ (TJ10 b).2.1 := by decide +kernel
theorem tyJ10_ok : ∀ k, k < 0 → parseFieldDescriptor (TJ10 k).2.2.1 = some (tyJ10 k) := by decide +kernel
def RJxa1e45 : String := "java/util/AbstractCollection"
def TJxa1e45 : u_T := fun k => match k with
  | _ => ("", "", "", false)
def tyJxa1e45 : Nat → FieldType := fun k => match k with
  | _ => .int
abbrev wsJxa1e450 : List Cond := u_ws RJxa1e45 TJxa1e45 0
theorem nmJxa1e45 : ∀ a, a < 0 → ∀ b, b < 0 → a ≠ b → (TJxa1e45 a).2.1 ≠ (TJxa1e45 b).2.1 := by decide +kernel
theorem tyJxa1e45_ok : ∀ k, k < 0 → parseFieldDescriptor (TJxa1e45 k).2.2.1 = some (tyJxa1e45 k) := by decide +kernel
abbrev cJxa1e45_init_da8c8 : ByteArray := prog_21_method_1_code
def yJxa1e45_init_da8c8 : MethodName := ⟨RJxa1e45, "<init>", "()V"⟩
def RJxc12de : String := "java/util/AbstractList"
def TJxc12de : u_T := fun k => match k with
  | _ => ("", "", "", false)
def tyJxc12de : Nat → FieldType := fun k => match k with
  | _ => .int
abbrev wsJxc12de0 : List Cond := u_ws RJxc12de TJxc12de 0
theorem nmJxc12de : ∀ a, a < 0 → ∀ b, b < 0 → a ≠ b → (TJxc12de a).2.1 ≠ (TJxc12de b).2.1 := by decide +kernel
theorem tyJxc12de_ok : ∀ k, k < 0 → parseFieldDescriptor (TJxc12de k).2.2.1 = some (tyJxc12de k) := by decide +kernel
abbrev cJxc12de_init_da8c8 : ByteArray := prog_22_method_1_code
def yJxc12de_init_da8c8 : MethodName := ⟨RJxc12de, "<init>", "()V"⟩
def RJx4a65c : String := "java/util/ArrayList"
def TJx4a65c : u_T := fun k => match k with
  | 0 => ("java/util/AbstractList", "modCount", "I", false)
  | 1 => ("java/util/ArrayList", "elementData", "[Ljava/lang/Object;", false)
  | _ => ("java/util/ArrayList", "size", "I", false)
def tyJx4a65c : Nat → FieldType := fun k => match k with
  | 0 => .int
  | 1 => .array (.object "java/lang/Object")
  | _ => .int
abbrev wsJx4a65c0 : List Cond := u_ws RJx4a65c TJx4a65c 3
theorem nmJx4a65c : ∀ a, a < 3 → ∀ b, b < 3 → a ≠ b → (TJx4a65c a).2.1 ≠ (TJx4a65c b).2.1 := by decide +kernel
theorem tyJx4a65c_ok : ∀ k, k < 3 → parseFieldDescriptor (TJx4a65c k).2.2.1 = some (tyJx4a65c k) := by decide +kernel
abbrev cJx4a65c_init_da8c8 : ByteArray := prog_23_method_2_code
def yJx4a65c_init_da8c8 : MethodName := ⟨RJx4a65c, "<init>", "()V"⟩
abbrev cJx4a65c_grow_92f84 : ByteArray := prog_23_method_6_code
def yJx4a65c_grow_92f84 : MethodName := ⟨RJx4a65c, "grow", "(I)[Ljava/lang/Object;"⟩
abbrev cJx4a65c_grow_d5877 : ByteArray := prog_23_method_7_code
def yJx4a65c_grow_d5877 : MethodName := ⟨RJx4a65c, "grow", "()[Ljava/lang/Object;"⟩
abbrev cJx4a65c_size_8abf5 : ByteArray := prog_23_method_8_code
def yJx4a65c_size_8abf5 : MethodName := ⟨RJx4a65c, "size", "()I"⟩
abbrev cJx4a65c_elementData_915e3 : ByteArray := prog_23_method_18_code
def yJx4a65c_elementData_915e3 : MethodName := ⟨RJx4a65c, "elementData", "(I)Ljava/lang/Object;"⟩
abbrev cJx4a65c_get_915e3 : ByteArray := prog_23_method_20_code
def yJx4a65c_get_915e3 : MethodName := ⟨RJx4a65c, "get", "(I)Ljava/lang/Object;"⟩
abbrev cJx4a65c_add_72be8 : ByteArray := prog_23_method_24_code
def yJx4a65c_add_72be8 : MethodName := ⟨RJx4a65c, "add", "(Ljava/lang/Object;[Ljava/lang/Object;I)V"⟩
abbrev cJx4a65c_add_9ea2d : ByteArray := prog_23_method_25_code
def yJx4a65c_add_9ea2d : MethodName := ⟨RJx4a65c, "add", "(Ljava/lang/Object;)Z"⟩
def RJ7 : String := "java/util/Arrays"
def TJ7 : u_T := fun k => match k with
  | _ => ("", "", "", false)
def tyJ7 : Nat → FieldType := fun k => match k with
  | _ => .int
abbrev wsJ70 : List Cond := u_ws RJ7 TJ7 0
theorem nmJ7 : ∀ a, a < 0 → ∀ b, b < 0 → a ≠ b → (TJ7 a).2.1 ≠ (TJ7 b).2.1 := by decide +kernel
theorem tyJ7_ok : ∀ k, k < 0 → parseFieldDescriptor (TJ7 k).2.2.1 = some (tyJ7 k) := by decide +kernel
abbrev cJ7_fill_53178 : ByteArray := prog_24_method_103_code
def yJ7_fill_53178 : MethodName := ⟨RJ7, "fill", "([II)V"⟩
abbrev cJ7_copyOf_1904c : ByteArray := prog_24_method_119_code
def yJ7_copyOf_1904c : MethodName := ⟨RJ7, "copyOf", "([Ljava/lang/Object;I)[Ljava/lang/Object;"⟩
abbrev cJ7_copyOf_6403c : ByteArray := prog_24_method_120_code
def yJ7_copyOf_6403c : MethodName := ⟨RJ7, "copyOf", "([Ljava/lang/Object;ILjava/lang/Class;)[Ljava/lang/Object;"⟩
def RJx5ef63 : String := "java/util/Collection"
def TJx5ef63 : u_T := fun k => match k with
  | _ => ("", "", "", false)
def tyJx5ef63 : Nat → FieldType := fun k => match k with
  | _ => .int
abbrev wsJx5ef630 : List Cond := u_ws RJx5ef63 TJx5ef63 0
theorem nmJx5ef63 : ∀ a, a < 0 → ∀ b, b < 0 → a ≠ b → (TJx5ef63 a).2.1 ≠ (TJx5ef63 b).2.1 := by decide +kernel
theorem tyJx5ef63_ok : ∀ k, k < 0 → parseFieldDescriptor (TJx5ef63 k).2.2.1 = some (tyJx5ef63 k) := by decide +kernel
def RJxbd725 : String := "java/util/List"
def TJxbd725 : u_T := fun k => match k with
  | _ => ("", "", "", false)
def tyJxbd725 : Nat → FieldType := fun k => match k with
  | _ => .int
abbrev wsJxbd7250 : List Cond := u_ws RJxbd725 TJxbd725 0
theorem nmJxbd725 : ∀ a, a < 0 → ∀ b, b < 0 → a ≠ b → (TJxbd725 a).2.1 ≠ (TJxbd725 b).2.1 := by decide +kernel
theorem tyJxbd725_ok : ∀ k, k < 0 → parseFieldDescriptor (TJxbd725 k).2.2.1 = some (tyJxbd725 k) := by decide +kernel
def RJ15 : String := "java/util/Objects"
def TJ15 : u_T := fun k => match k with
  | _ => ("", "", "", false)
def tyJ15 : Nat → FieldType := fun k => match k with
  | _ => .int
abbrev wsJ150 : List Cond := u_ws RJ15 TJ15 0
theorem nmJ15 : ∀ a, a < 0 → ∀ b, b < 0 → a ≠ b → (TJ15 a).2.1 ≠ (TJ15 b).2.1 := by decide +kernel
theorem tyJ15_ok : ∀ k, k < 0 → parseFieldDescriptor (TJ15 k).2.2.1 = some (tyJ15 k) := by decide +kernel
abbrev cJ15_checkIndex_7cf53 : ByteArray := prog_27_method_17_code
def yJ15_checkIndex_7cf53 : MethodName := ⟨RJ15, "checkIndex", "(II)I"⟩
def RJxf0a74 : String := "java/util/RandomAccess"
def TJxf0a74 : u_T := fun k => match k with
  | _ => ("", "", "", false)
def tyJxf0a74 : Nat → FieldType := fun k => match k with
  | _ => .int
abbrev wsJxf0a740 : List Cond := u_ws RJxf0a74 TJxf0a74 0
theorem nmJxf0a74 : ∀ a, a < 0 → ∀ b, b < 0 → a ≠ b → (TJxf0a74 a).2.1 ≠ (TJxf0a74 b).2.1 := by decide +kernel
theorem tyJxf0a74_ok : ∀ k, k < 0 → parseFieldDescriptor (TJxf0a74 k).2.2.1 = some (tyJxf0a74 k) := by decide +kernel
def RJxa66e6 : String := "java/util/SequencedCollection"
def TJxa66e6 : u_T := fun k => match k with
  | _ => ("", "", "", false)
def tyJxa66e6 : Nat → FieldType := fun k => match k with
  | _ => .int
abbrev wsJxa66e60 : List Cond := u_ws RJxa66e6 TJxa66e6 0
theorem nmJxa66e6 : ∀ a, a < 0 → ∀ b, b < 0 → a ≠ b → (TJxa66e6 a).2.1 ≠ (TJxa66e6 b).2.1 := by decide +kernel
theorem tyJxa66e6_ok : ∀ k, k < 0 → parseFieldDescriptor (TJxa66e6 k).2.2.1 = some (tyJxa66e6 k) := by decide +kernel
def RJ8 : String := "jdk/internal/util/ArraysSupport"
def TJ8 : u_T := fun k => match k with
  | _ => ("", "", "", false)
def tyJ8 : Nat → FieldType := fun k => match k with
  | _ => .int
abbrev wsJ80 : List Cond := u_ws RJ8 TJ8 0
theorem nmJ8 : ∀ a, a < 0 → ∀ b, b < 0 → a ≠ b → (TJ8 a).2.1 ≠ (TJ8 b).2.1 := by decide +kernel
theorem tyJ8_ok : ∀ k, k < 0 → parseFieldDescriptor (TJ8 k).2.2.1 = some (tyJ8 k) := by decide +kernel
abbrev cJ8_newLength_cabcc : ByteArray := prog_30_method_27_code
def yJ8_newLength_cabcc : MethodName := ⟨RJ8, "newLength", "(III)I"⟩
abbrev cJ8_hugeLength_7cf53 : ByteArray := prog_30_method_28_code
def yJ8_hugeLength_7cf53 : MethodName := ⟨RJ8, "hugeLength", "(II)I"⟩
def RJ3 : String := "jdk/internal/util/Preconditions"
def TJ3 : u_T := fun k => match k with
  | _ => ("", "", "", false)
def tyJ3 : Nat → FieldType := fun k => match k with
  | _ => .int
abbrev wsJ30 : List Cond := u_ws RJ3 TJ3 0
theorem nmJ3 : ∀ a, a < 0 → ∀ b, b < 0 → a ≠ b → (TJ3 a).2.1 ≠ (TJ3 b).2.1 := by decide +kernel
theorem tyJ3_ok : ∀ k, k < 0 → parseFieldDescriptor (TJ3 k).2.2.1 = some (tyJ3 k) := by decide +kernel
abbrev cJ3_checkIndex_8e157 : ByteArray := prog_31_method_11_code
def yJ3_checkIndex_8e157 : MethodName := ⟨RJ3, "checkIndex", "(IILjava/util/function/BiFunction;)I"⟩
def RL : String := "SkyPlanLaw"
abbrev cL_below : ByteArray := method_2_code
def yL_below : MethodName := ⟨RL, "below", "(II)I"⟩
abbrev cL_cell : ByteArray := method_3_code
def yL_cell : MethodName := ⟨RL, "cell", "([II)I"⟩
abbrev cL_targets : ByteArray := method_4_code
def yL_targets : MethodName := ⟨RL, "targets", "(LSkyPlan;[III[I)V"⟩
abbrev cL_law : ByteArray := code
def yL_law : MethodName := ⟨RL, "law", "([I)Z"⟩
abbrev vwCl : List vw_C := [(RJx4a65c, TJx4a65c, 3), (RX0, TX0, 3), (RX1, TX1, 8), (RX2, TX2, 5), (RX3, TX3, 4), (RX4, TX4, 12), (RX5, TX5, 8)]
