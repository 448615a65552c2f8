/-! ===== BEGIN printed: names, fields, word lists, decode rows ===== -/
def RX0 : String := "RefusePlanner$Bin"
def TX0 : u_T := fun k => match k with
  | 0 => ("RefusePlanner$Bin", "place", "I", true)
  | 1 => ("RefusePlanner$Bin", "kind", "I", true)
  | 2 => ("RefusePlanner$Bin", "size", "I", true)
  | 3 => ("RefusePlanner$Bin", "growth", "I", false)
  | 4 => ("RefusePlanner$Bin", "content", "I", false)
  | 5 => ("RefusePlanner$Bin", "rate", "I", false)
  | 6 => ("RefusePlanner$Bin", "emptiedOn", "I", false)
  | 7 => ("RefusePlanner$Bin", "overflows", "I", false)
  | 8 => ("RefusePlanner$Bin", "warnings", "I", false)
  | _ => ("RefusePlanner$Bin", "dirty", "Z", false)
def tyX0 : Nat → FieldType := fun k => match k with
  | 0 => .int
  | 1 => .int
  | 2 => .int
  | 3 => .int
  | 4 => .int
  | 5 => .int
  | 6 => .int
  | 7 => .int
  | 8 => .int
  | _ => .boolean
abbrev wsX00 : List Cond := u_ws RX0 TX0 10
theorem nmX0 : ∀ a, a < 10 → ∀ b, b < 10 → a ≠ b → (TX0 a).2.1 ≠ (TX0 b).2.1 := by decide +kernel
theorem tyX0_ok : ∀ k, k < 10 → parseFieldDescriptor (TX0 k).2.2.1 = some (tyX0 k) := by decide +kernel
abbrev cX0_init : ByteArray := prog_2_method_1_code
def yX0_init : MethodName := ⟨RX0, "<init>", "(IIIII)V"⟩
abbrev cX0_fact : ByteArray := prog_2_method_2_code
def yX0_fact : MethodName := ⟨RX0, "fact", "(I)I"⟩
abbrev cX0_forecast : ByteArray := prog_2_method_3_code
def yX0_forecast : MethodName := ⟨RX0, "forecast", "(I)I"⟩
abbrev cX0_isFullOn : ByteArray := prog_2_method_4_code
def yX0_isFullOn : MethodName := ⟨RX0, "isFullOn", "(I)Z"⟩
abbrev cX0_isDue : ByteArray := prog_2_method_5_code
def yX0_isDue : MethodName := ⟨RX0, "isDue", "(II)Z"⟩
abbrev cX0_fill : ByteArray := prog_2_method_6_code
def yX0_fill : MethodName := ⟨RX0, "fill", "()I"⟩
abbrev cX0_endVisit : ByteArray := prog_2_method_7_code
def yX0_endVisit : MethodName := ⟨RX0, "endVisit", "(II)V"⟩
def RX1 : String := "RefusePlanner$Region"
def TX1 : u_T := fun k => match k with
  | 0 => ("RefusePlanner$Region", "minutes", "[I", true)
  | 1 => ("RefusePlanner$Region", "tips", "[I", true)
  | _ => ("RefusePlanner$Region", "places", "I", false)
def tyX1 : Nat → FieldType := fun k => match k with
  | 0 => .array .int
  | 1 => .array .int
  | _ => .int
abbrev wsX10 : List Cond := u_ws RX1 TX1 3
theorem nmX1 : ∀ a, a < 3 → ∀ b, b < 3 → a ≠ b → (TX1 a).2.1 ≠ (TX1 b).2.1 := by decide +kernel
theorem tyX1_ok : ∀ k, k < 3 → parseFieldDescriptor (TX1 k).2.2.1 = some (tyX1 k) := by decide +kernel
abbrev cX1_init : ByteArray := prog_3_method_1_code
def yX1_init : MethodName := ⟨RX1, "<init>", "()V"⟩
abbrev cX1_add : ByteArray := prog_3_method_2_code
def yX1_add : MethodName := ⟨RX1, "add", "()I"⟩
abbrev cX1_between : ByteArray := prog_3_method_3_code
def yX1_between : MethodName := ⟨RX1, "between", "(II)I"⟩
abbrev cX1_join : ByteArray := prog_3_method_4_code
def yX1_join : MethodName := ⟨RX1, "join", "(III)V"⟩
abbrev cX1_hasTip : ByteArray := prog_3_method_5_code
def yX1_hasTip : MethodName := ⟨RX1, "hasTip", "(II)Z"⟩
abbrev cX1_putTip : ByteArray := prog_3_method_6_code
def yX1_putTip : MethodName := ⟨RX1, "putTip", "(IIZ)V"⟩
abbrev cX1_countTips : ByteArray := prog_3_method_7_code
def yX1_countTips : MethodName := ⟨RX1, "countTips", "(I)I"⟩
abbrev cX1_overTip : ByteArray := prog_3_method_8_code
def yX1_overTip : MethodName := ⟨RX1, "overTip", "(III)I"⟩
def RX2 : String := "RefusePlanner$Tour"
def TX2 : u_T := fun k => match k with
  | 0 => ("RefusePlanner$Tour", "region", "LRefusePlanner$Region;", true)
  | 1 => ("RefusePlanner$Tour", "kind", "I", true)
  | 2 => ("RefusePlanner$Tour", "capacity", "I", true)
  | 3 => ("RefusePlanner$Tour", "at", "I", false)
  | 4 => ("RefusePlanner$Tour", "load", "I", false)
  | 5 => ("RefusePlanner$Tour", "minutes", "I", false)
  | 6 => ("RefusePlanner$Tour", "tipVisits", "I", false)
  | _ => ("RefusePlanner$Tour", "litres", "I", false)
def tyX2 : Nat → FieldType := fun k => match k with
  | 0 => .object "RefusePlanner$Region"
  | 1 => .int
  | 2 => .int
  | 3 => .int
  | 4 => .int
  | 5 => .int
  | 6 => .int
  | _ => .int
abbrev wsX20 : List Cond := u_ws RX2 TX2 8
theorem nmX2 : ∀ a, a < 8 → ∀ b, b < 8 → a ≠ b → (TX2 a).2.1 ≠ (TX2 b).2.1 := by decide +kernel
theorem tyX2_ok : ∀ k, k < 8 → parseFieldDescriptor (TX2 k).2.2.1 = some (tyX2 k) := by decide +kernel
abbrev cX2_init : ByteArray := prog_4_method_1_code
def yX2_init : MethodName := ⟨RX2, "<init>", "(LRefusePlanner$Region;II)V"⟩
abbrev cX2_visit : ByteArray := prog_4_method_2_code
def yX2_visit : MethodName := ⟨RX2, "visit", "(LRefusePlanner$Bin;)I"⟩
abbrev cX2_end : ByteArray := prog_4_method_3_code
def yX2_end : MethodName := ⟨RX2, "end", "()V"⟩
abbrev cX2_driveTo : ByteArray := prog_4_method_4_code
def yX2_driveTo : MethodName := ⟨RX2, "driveTo", "(I)V"⟩
abbrev cX2_unloadOnTheWayTo : ByteArray := prog_4_method_5_code
def yX2_unloadOnTheWayTo : MethodName := ⟨RX2, "unloadOnTheWayTo", "(I)V"⟩
def RX3 : String := "RefusePlanner"
def TX3 : u_T := fun k => match k with
  | 0 => ("RefusePlanner", "region", "LRefusePlanner$Region;", true)
  | 1 => ("RefusePlanner", "bins", "Ljava/util/ArrayList;", true)
  | 2 => ("RefusePlanner", "holidays", "[Z", true)
  | 3 => ("RefusePlanner", "totals", "[J", true)
  | 4 => ("RefusePlanner", "wastes", "[J", true)
  | 5 => ("RefusePlanner", "route", "[I", true)
  | 6 => ("RefusePlanner", "stops", "I", false)
  | _ => ("RefusePlanner", "day", "I", false)
def tyX3 : Nat → FieldType := fun k => match k with
  | 0 => .object "RefusePlanner$Region"
  | 1 => .object "java/util/ArrayList"
  | 2 => .array .boolean
  | 3 => .array .long
  | 4 => .array .long
  | 5 => .array .int
  | 6 => .int
  | _ => .int
abbrev wsX30 : List Cond := u_ws RX3 TX3 8
theorem nmX3 : ∀ a, a < 8 → ∀ b, b < 8 → a ≠ b → (TX3 a).2.1 ≠ (TX3 b).2.1 := by decide +kernel
theorem tyX3_ok : ∀ k, k < 8 → parseFieldDescriptor (TX3 k).2.2.1 = some (tyX3 k) := by decide +kernel
abbrev cX3_init : ByteArray := prog_1_method_1_code
def yX3_init : MethodName := ⟨RX3, "<init>", "()V"⟩
abbrev cX3_addPlace : ByteArray := prog_1_method_2_code
def yX3_addPlace : MethodName := ⟨RX3, "addPlace", "()I"⟩
abbrev cX3_setMinutes : ByteArray := prog_1_method_3_code
def yX3_setMinutes : MethodName := ⟨RX3, "setMinutes", "(III)I"⟩
abbrev cX3_setTip : ByteArray := prog_1_method_4_code
def yX3_setTip : MethodName := ⟨RX3, "setTip", "(IIZ)Z"⟩
abbrev cX3_pass : ByteArray := prog_1_method_6_code
def yX3_pass : MethodName := ⟨RX3, "pass", "(I)I"⟩
abbrev cX3_today : ByteArray := prog_1_method_7_code
def yX3_today : MethodName := ⟨RX3, "today", "()I"⟩
abbrev cX3_nextWorkday : ByteArray := prog_1_method_8_code
def yX3_nextWorkday : MethodName := ⟨RX3, "nextWorkday", "()I"⟩
abbrev cX3_addBin : ByteArray := prog_1_method_9_code
def yX3_addBin : MethodName := ⟨RX3, "addBin", "(IIII)I"⟩
abbrev cX3_soil : ByteArray := prog_1_method_11_code
def yX3_soil : MethodName := ⟨RX3, "soil", "(I)Z"⟩
abbrev cX3_bin : ByteArray := prog_1_method_13_code
def yX3_bin : MethodName := ⟨RX3, "bin", "(II)I"⟩
abbrev cX3_expected : ByteArray := prog_1_method_14_code
def yX3_expected : MethodName := ⟨RX3, "expected", "(II)I"⟩
abbrev cX3_planSize : ByteArray := prog_1_method_16_code
def yX3_planSize : MethodName := ⟨RX3, "planSize", "(I)I"⟩
abbrev cX3_planned : ByteArray := prog_1_method_17_code
def yX3_planned : MethodName := ⟨RX3, "planned", "(II)I"⟩
abbrev cX3_collect : ByteArray := prog_1_method_18_code
def yX3_collect : MethodName := ⟨RX3, "collect", "(II)I"⟩
abbrev cX3_total : ByteArray := prog_1_method_21_code
def yX3_total : MethodName := ⟨RX3, "total", "(II)J"⟩
abbrev cX3_checkPlace : ByteArray := prog_1_method_25_code
def yX3_checkPlace : MethodName := ⟨RX3, "checkPlace", "(I)V"⟩
abbrev cX3_checkKind : ByteArray := prog_1_method_26_code
def yX3_checkKind : MethodName := ⟨RX3, "checkKind", "(I)V"⟩
abbrev cX3_checkBin : ByteArray := prog_1_method_27_code
def yX3_checkBin : MethodName := ⟨RX3, "checkBin", "(I)V"⟩
abbrev cX3_checkRange : ByteArray := prog_1_method_28_code
def yX3_checkRange : MethodName := ⟨RX3, "checkRange", "(III)V"⟩
abbrev cX3_checkWorkday : ByteArray := prog_1_method_29_code
def yX3_checkWorkday : MethodName := ⟨RX3, "checkWorkday", "()V"⟩
abbrev cX3_passOneDay : ByteArray := prog_1_method_30_code
def yX3_passOneDay : MethodName := ⟨RX3, "passOneDay", "()I"⟩
abbrev cX3_planRoute : ByteArray := prog_1_method_31_code
def yX3_planRoute : MethodName := ⟨RX3, "planRoute", "(I)V"⟩
abbrev cX3_nearestStop : ByteArray := prog_1_method_32_code
def yX3_nearestStop : MethodName := ⟨RX3, "nearestStop", "(II)I"⟩
abbrev cX3_makeTour : ByteArray := prog_1_method_33_code
def yX3_makeTour : MethodName := ⟨RX3, "makeTour", "(II)I"⟩
def RX4 : String := "RefusePlannerModel"
def TX4 : u_T := fun k => match k with
  | _ => ("", "", "", false)
def tyX4 : Nat → FieldType := fun k => match k with
  | _ => .int
abbrev wsX40 : List Cond := u_ws RX4 TX4 0
theorem nmX4 : ∀ a, a < 0 → ∀ b, b < 0 → a ≠ b → (TX4 a).2.1 ≠ (TX4 b).2.1 := by decide +kernel
theorem tyX4_ok : ∀ k, k < 0 → parseFieldDescriptor (TX4 k).2.2.1 = some (tyX4 k) := by decide +kernel
def RJx145de : String := "java/io/Serializable"
def TJx145de : u_T := fun k => match k with
  | _ => ("", "", "", false)
def tyJx145de : Nat → FieldType := fun k => match k with
  | _ => .int
abbrev wsJx145de0 : List Cond := u_ws RJx145de TJx145de 0
theorem nmJx145de : ∀ a, a < 0 → ∀ b, b < 0 → a ≠ b → (TJx145de a).2.1 ≠ (TJx145de b).2.1 := by decide +kernel
theorem tyJx145de_ok : ∀ k, k < 0 → parseFieldDescriptor (TJx145de k).2.2.1 = some (tyJx145de k) := by decide +kernel
def RJx8e188 : String := "java/lang/Cloneable"
def TJx8e188 : u_T := fun k => match k with
  | _ => ("", "", "", false)
def tyJx8e188 : Nat → FieldType := fun k => match k with
  | _ => .int
abbrev wsJx8e1880 : List Cond := u_ws RJx8e188 TJx8e188 0
theorem nmJx8e188 : ∀ a, a < 0 → ∀ b, b < 0 → a ≠ b → (TJx8e188 a).2.1 ≠ (TJx8e188 b).2.1 := by decide +kernel
theorem tyJx8e188_ok : ∀ k, k < 0 → parseFieldDescriptor (TJx8e188 k).2.2.1 = some (tyJx8e188 k) := by decide +kernel
def RJxab1ab : String := "java/lang/Iterable"
def TJxab1ab : u_T := fun k => match k with
  | _ => ("", "", "", false)
def tyJxab1ab : Nat → FieldType := fun k => match k with
  | _ => .int
abbrev wsJxab1ab0 : List Cond := u_ws RJxab1ab TJxab1ab 0
theorem nmJxab1ab : ∀ a, a < 0 → ∀ b, b < 0 → a ≠ b → (TJxab1ab a).2.1 ≠ (TJxab1ab b).2.1 := by decide +kernel
theorem tyJxab1ab_ok : ∀ k, k < 0 → parseFieldDescriptor (TJxab1ab k).2.2.1 = some (tyJxab1ab k) := by decide +kernel
def RJ9 : String := "java/lang/Math"
def TJ9 : u_T := fun k => match k with
  | _ => ("", "", "", false)
def tyJ9 : Nat → FieldType := fun k => match k with
  | _ => .int
abbrev wsJ90 : List Cond := u_ws RJ9 TJ9 0
theorem nmJ9 : ∀ a, a < 0 → ∀ b, b < 0 → a ≠ b → (TJ9 a).2.1 ≠ (TJ9 b).2.1 := by decide +kernel
theorem tyJ9_ok : ∀ k, k < 0 → parseFieldDescriptor (TJ9 k).2.2.1 = some (tyJ9 k) := by decide +kernel
abbrev cJ9_max_7cf53 : ByteArray := prog_14_method_65_code
def yJ9_max_7cf53 : MethodName := ⟨RJ9, "max", "(II)I"⟩
abbrev cJ9_min_7cf53 : ByteArray := prog_14_method_69_code
def yJ9_min_7cf53 : MethodName := ⟨RJ9, "min", "(II)I"⟩
def RJ0 : String := "java/lang/String"
def TJ0 : u_T := fun k => match k with
  | _ => ("", "", "", false)
def tyJ0 : Nat → FieldType := fun k => match k with
  | _ => .int
abbrev wsJ00 : List Cond := u_ws RJ0 TJ0 0
theorem nmJ0 : ∀ a, a < 0 → ∀ b, b < 0 → a ≠ b → (TJ0 a).2.1 ≠ (TJ0 b).2.1 := by decide +kernel
theorem tyJ0_ok : ∀ k, k < 0 → parseFieldDescriptor (TJ0 k).2.2.1 = some (tyJ0 k) := by decide +kernel
def RJ10 : String := "java/lang/System"
def TJ10 : u_T := fun k => match k with
  | _ => ("", "", "", false)
def tyJ10 : Nat → FieldType := fun k => match k with
  | _ => .int
abbrev wsJ100 : List Cond := u_ws RJ10 TJ10 0
theorem nmJ10 : ∀ a, a < 0 → ∀ b, b < 0 → a ≠ b → (TJ10 a).2.1 ≠ (TJ10 b).2.1 := by decide +kernel
theorem tyJ10_ok : ∀ k, k < 0 → parseFieldDescriptor (TJ10 k).2.2.1 = some (tyJ10 k) := by decide +kernel
def RJxa1e45 : String := "java/util/AbstractCollection"
def TJxa1e45 : u_T := fun k => match k with
  | _ => ("", "", "", false)
def tyJxa1e45 : Nat → FieldType := fun k => match k with
  | _ => .int
abbrev wsJxa1e450 : List Cond := u_ws RJxa1e45 TJxa1e45 0
theorem nmJxa1e45 : ∀ a, a < 0 → ∀ b, b < 0 → a ≠ b → (TJxa1e45 a).2.1 ≠ (TJxa1e45 b).2.1 := by decide +kernel
theorem tyJxa1e45_ok : ∀ k, k < 0 → parseFieldDescriptor (TJxa1e45 k).2.2.1 = some (tyJxa1e45 k) := by decide +kernel
abbrev cJxa1e45_init_da8c8 : ByteArray := prog_19_method_1_code
def yJxa1e45_init_da8c8 : MethodName := ⟨RJxa1e45, "<init>", "()V"⟩
def RJxc12de : String := "java/util/AbstractList"
def TJxc12de : u_T := fun k => match k with
  | _ => ("", "", "", false)
def tyJxc12de : Nat → FieldType := fun k => match k with
  | _ => .int
abbrev wsJxc12de0 : List Cond := u_ws RJxc12de TJxc12de 0
theorem nmJxc12de : ∀ a, a < 0 → ∀ b, b < 0 → a ≠ b → (TJxc12de a).2.1 ≠ (TJxc12de b).2.1 := by decide +kernel
theorem tyJxc12de_ok : ∀ k, k < 0 → parseFieldDescriptor (TJxc12de k).2.2.1 = some (tyJxc12de k) := by decide +kernel
abbrev cJxc12de_init_da8c8 : ByteArray := prog_20_method_1_code
def yJxc12de_init_da8c8 : MethodName := ⟨RJxc12de, "<init>", "()V"⟩
def RJx4a65c : String := "java/util/ArrayList"
def TJx4a65c : u_T := fun k => match k with
  | 0 => ("java/util/AbstractList", "modCount", "I", false)
  | 1 => ("java/util/ArrayList", "elementData", "[Ljava/lang/Object;", false)
  | _ => ("java/util/ArrayList", "size", "I", false)
def tyJx4a65c : Nat → FieldType := fun k => match k with
  | 0 => .int
  | 1 => .array (.object "java/lang/Object")
  | _ => .int
abbrev wsJx4a65c0 : List Cond := u_ws RJx4a65c TJx4a65c 3
theorem nmJx4a65c : ∀ a, a < 3 → ∀ b, b < 3 → a ≠ b → (TJx4a65c a).2.1 ≠ (TJx4a65c b).2.1 := by decide +kernel
theorem tyJx4a65c_ok : ∀ k, k < 3 → parseFieldDescriptor (TJx4a65c k).2.2.1 = some (tyJx4a65c k) := by decide +kernel
abbrev cJx4a65c_init_da8c8 : ByteArray := prog_21_method_2_code
def yJx4a65c_init_da8c8 : MethodName := ⟨RJx4a65c, "<init>", "()V"⟩
abbrev cJx4a65c_grow_92f84 : ByteArray := prog_21_method_6_code
def yJx4a65c_grow_92f84 : MethodName := ⟨RJx4a65c, "grow", "(I)[Ljava/lang/Object;"⟩
abbrev cJx4a65c_grow_d5877 : ByteArray := prog_21_method_7_code
def yJx4a65c_grow_d5877 : MethodName := ⟨RJx4a65c, "grow", "()[Ljava/lang/Object;"⟩
abbrev cJx4a65c_size_8abf5 : ByteArray := prog_21_method_8_code
def yJx4a65c_size_8abf5 : MethodName := ⟨RJx4a65c, "size", "()I"⟩
abbrev cJx4a65c_elementData_915e3 : ByteArray := prog_21_method_18_code
def yJx4a65c_elementData_915e3 : MethodName := ⟨RJx4a65c, "elementData", "(I)Ljava/lang/Object;"⟩
abbrev cJx4a65c_get_915e3 : ByteArray := prog_21_method_20_code
def yJx4a65c_get_915e3 : MethodName := ⟨RJx4a65c, "get", "(I)Ljava/lang/Object;"⟩
abbrev cJx4a65c_add_72be8 : ByteArray := prog_21_method_24_code
def yJx4a65c_add_72be8 : MethodName := ⟨RJx4a65c, "add", "(Ljava/lang/Object;[Ljava/lang/Object;I)V"⟩
abbrev cJx4a65c_add_9ea2d : ByteArray := prog_21_method_25_code
def yJx4a65c_add_9ea2d : MethodName := ⟨RJx4a65c, "add", "(Ljava/lang/Object;)Z"⟩
def RJ7 : String := "java/util/Arrays"
def TJ7 : u_T := fun k => match k with
  | _ => ("", "", "", false)
def tyJ7 : Nat → FieldType := fun k => match k with
  | _ => .int
abbrev wsJ70 : List Cond := u_ws RJ7 TJ7 0
theorem nmJ7 : ∀ a, a < 0 → ∀ b, b < 0 → a ≠ b → (TJ7 a).2.1 ≠ (TJ7 b).2.1 := by decide +kernel
theorem tyJ7_ok : ∀ k, k < 0 → parseFieldDescriptor (TJ7 k).2.2.1 = some (tyJ7 k) := by decide +kernel
abbrev cJ7_copyOf_1904c : ByteArray := prog_22_method_119_code
def yJ7_copyOf_1904c : MethodName := ⟨RJ7, "copyOf", "([Ljava/lang/Object;I)[Ljava/lang/Object;"⟩
abbrev cJ7_copyOf_6403c : ByteArray := prog_22_method_120_code
def yJ7_copyOf_6403c : MethodName := ⟨RJ7, "copyOf", "([Ljava/lang/Object;ILjava/lang/Class;)[Ljava/lang/Object;"⟩
def RJx5ef63 : String := "java/util/Collection"
def TJx5ef63 : u_T := fun k => match k with
  | _ => ("", "", "", false)
def tyJx5ef63 : Nat → FieldType := fun k => match k with
  | _ => .int
abbrev wsJx5ef630 : List Cond := u_ws RJx5ef63 TJx5ef63 0
theorem nmJx5ef63 : ∀ a, a < 0 → ∀ b, b < 0 → a ≠ b → (TJx5ef63 a).2.1 ≠ (TJx5ef63 b).2.1 := by decide +kernel
theorem tyJx5ef63_ok : ∀ k, k < 0 → parseFieldDescriptor (TJx5ef63 k).2.2.1 = some (tyJx5ef63 k) := by decide +kernel
def RJxbd725 : String := "java/util/List"
def TJxbd725 : u_T := fun k => match k with
  | _ => ("", "", "", false)
def tyJxbd725 : Nat → FieldType := fun k => match k with
  | _ => .int
abbrev wsJxbd7250 : List Cond := u_ws RJxbd725 TJxbd725 0
theorem nmJxbd725 : ∀ a, a < 0 → ∀ b, b < 0 → a ≠ b → (TJxbd725 a).2.1 ≠ (TJxbd725 b).2.1 := by decide +kernel
theorem tyJxbd725_ok : ∀ k, k < 0 → parseFieldDescriptor (TJxbd725 k).2.2.1 = some (tyJxbd725 k) := by decide +kernel
def RJ15 : String := "java/util/Objects"
def TJ15 : u_T := fun k => match k with
  | _ => ("", "", "", false)
def tyJ15 : Nat → FieldType := fun k => match k with
  | _ => .int
abbrev wsJ150 : List Cond := u_ws RJ15 TJ15 0
theorem nmJ15 : ∀ a, a < 0 → ∀ b, b < 0 → a ≠ b → (TJ15 a).2.1 ≠ (TJ15 b).2.1 := by decide +kernel
theorem tyJ15_ok : ∀ k, k < 0 → parseFieldDescriptor (TJ15 k).2.2.1 = some (tyJ15 k) := by decide +kernel
abbrev cJ15_checkIndex_7cf53 : ByteArray := prog_25_method_17_code
def yJ15_checkIndex_7cf53 : MethodName := ⟨RJ15, "checkIndex", "(II)I"⟩
def RJxf0a74 : String := "java/util/RandomAccess"
def TJxf0a74 : u_T := fun k => match k with
  | _ => ("", "", "", false)
def tyJxf0a74 : Nat → FieldType := fun k => match k with
  | _ => .int
abbrev wsJxf0a740 : List Cond := u_ws RJxf0a74 TJxf0a74 0
theorem nmJxf0a74 : ∀ a, a < 0 → ∀ b, b < 0 → a ≠ b → (TJxf0a74 a).2.1 ≠ (TJxf0a74 b).2.1 := by decide +kernel
theorem tyJxf0a74_ok : ∀ k, k < 0 → parseFieldDescriptor (TJxf0a74 k).2.2.1 = some (tyJxf0a74 k) := by decide +kernel
def RJxa66e6 : String := "java/util/SequencedCollection"
def TJxa66e6 : u_T := fun k => match k with
  | _ => ("", "", "", false)
def tyJxa66e6 : Nat → FieldType := fun k => match k with
  | _ => .int
abbrev wsJxa66e60 : List Cond := u_ws RJxa66e6 TJxa66e6 0
theorem nmJxa66e6 : ∀ a, a < 0 → ∀ b, b < 0 → a ≠ b → (TJxa66e6 a).2.1 ≠ (TJxa66e6 b).2.1 := by decide +kernel
theorem tyJxa66e6_ok : ∀ k, k < 0 → parseFieldDescriptor (TJxa66e6 k).2.2.1 = some (tyJxa66e6 k) := by decide +kernel
def RJ8 : String := "jdk/internal/util/ArraysSupport"
def TJ8 : u_T := fun k => match k with
  | _ => ("", "", "", false)
def tyJ8 : Nat → FieldType := fun k => match k with
  | _ => .int
abbrev wsJ80 : List Cond := u_ws RJ8 TJ8 0
theorem nmJ8 : ∀ a, a < 0 → ∀ b, b < 0 → a ≠ b → (TJ8 a).2.1 ≠ (TJ8 b).2.1 := by decide +kernel
theorem tyJ8_ok : ∀ k, k < 0 → parseFieldDescriptor (TJ8 k).2.2.1 = some (tyJ8 k) := by decide +kernel
abbrev cJ8_newLength_cabcc : ByteArray := prog_28_method_27_code
def yJ8_newLength_cabcc : MethodName := ⟨RJ8, "newLength", "(III)I"⟩
abbrev cJ8_hugeLength_7cf53 : ByteArray := prog_28_method_28_code
def yJ8_hugeLength_7cf53 : MethodName := ⟨RJ8, "hugeLength", "(II)I"⟩
def RJ3 : String := "jdk/internal/util/Preconditions"
def TJ3 : u_T := fun k => match k with
  | _ => ("", "", "", false)
def tyJ3 : Nat → FieldType := fun k => match k with
  | _ => .int
abbrev wsJ30 : List Cond := u_ws RJ3 TJ3 0
theorem nmJ3 : ∀ a, a < 0 → ∀ b, b < 0 → a ≠ b → (TJ3 a).2.1 ≠ (TJ3 b).2.1 := by decide +kernel
theorem tyJ3_ok : ∀ k, k < 0 → parseFieldDescriptor (TJ3 k).2.2.1 = some (tyJ3 k) := by decide +kernel
abbrev cJ3_checkIndex_8e157 : ByteArray := prog_29_method_11_code
def yJ3_checkIndex_8e157 : MethodName := ⟨RJ3, "checkIndex", "(IILjava/util/function/BiFunction;)I"⟩
def RL : String := "RefusePlannerLaw"
abbrev cL_below : ByteArray := method_2_code
def yL_below : MethodName := ⟨RL, "below", "(II)I"⟩
abbrev cL_cell : ByteArray := method_3_code
def yL_cell : MethodName := ⟨RL, "cell", "([II)I"⟩
abbrev cL_build : ByteArray := method_4_code
def yL_build : MethodName := ⟨RL, "build", "(LRefusePlanner;[II[I[I[I)[I"⟩
abbrev cL_law : ByteArray := code
def yL_law : MethodName := ⟨RL, "law", "([I)Z"⟩
abbrev vwCl : List vw_C := [(RJx4a65c, TJx4a65c, 3), (RX0, TX0, 10), (RX1, TX1, 3), (RX2, TX2, 8), (RX3, TX3, 8)]
