def RX0 : String := "BadgeZones$Badge"
def TX0 : u_T := fun k => match k with
  | 0 => ("BadgeZones$Badge", "number", "I", true)
  | 1 => ("BadgeZones$Badge", "host", "LBadgeZones$Badge;", true)
  | 2 => ("BadgeZones$Badge", "stays", "Ljava/util/ArrayList;", true)
  | 3 => ("BadgeZones$Badge", "stay", "LBadgeZones$Stay;", false)
  | 4 => ("BadgeZones$Badge", "ownRights", "I", false)
  | 5 => ("BadgeZones$Badge", "isBlocked", "Z", false)
  | _ => ("BadgeZones$Badge", "refusals", "I", false)
def tyX0 : Nat → FieldType := fun k => match k with
  | 0 => .int
  | 1 => .object "BadgeZones$Badge"
  | 2 => .object "java/util/ArrayList"
  | 3 => .object "BadgeZones$Stay"
  | 4 => .int
  | 5 => .boolean
  | _ => .int
abbrev wsX00 : List Cond := u_ws RX0 TX0 7
theorem nmX0 : ∀ a, a < 7 → ∀ b, b < 7 → a ≠ b → (TX0 a).2.1 ≠ (TX0 b).2.1 := by decide +kernel
theorem tyX0_ok : ∀ k, k < 7 → parseFieldDescriptor (TX0 k).2.2.1 = some (tyX0 k) := by decide +kernel
abbrev cX0_init : ByteArray := prog_2_method_1_code
def yX0_init : MethodName := ⟨RX0, "<init>", "(ILBadgeZones$Badge;ILBadgeZones$Zone;)V"⟩
abbrev cX0_rightsNow : ByteArray := prog_2_method_2_code
def yX0_rightsNow : MethodName := ⟨RX0, "rightsNow", "()I"⟩
abbrev cX0_hasRightFor : ByteArray := prog_2_method_3_code
def yX0_hasRightFor : MethodName := ⟨RX0, "hasRightFor", "(LBadgeZones$Zone;)Z"⟩
abbrev cX0_tell : ByteArray := prog_2_method_4_code
def yX0_tell : MethodName := ⟨RX0, "tell", "(I)I"⟩
abbrev cX0_countRefusal : ByteArray := prog_2_method_5_code
def yX0_countRefusal : MethodName := ⟨RX0, "countRefusal", "()V"⟩
abbrev cX0_enter : ByteArray := prog_2_method_6_code
def yX0_enter : MethodName := ⟨RX0, "enter", "(LBadgeZones$Zone;I)V"⟩
abbrev cX0_wouldLackHost : ByteArray := prog_2_method_8_code
def yX0_wouldLackHost : MethodName := ⟨RX0, "wouldLackHost", "(LBadgeZones$Zone;LBadgeZones$Zone;)Z"⟩
abbrev cX0_zoneAtEndOf : ByteArray := prog_2_method_9_code
def yX0_zoneAtEndOf : MethodName := ⟨RX0, "zoneAtEndOf", "(I)LBadgeZones$Zone;"⟩
abbrev cX0_minutesSpent : ByteArray := prog_2_method_10_code
def yX0_minutesSpent : MethodName := ⟨RX0, "minutesSpent", "(LBadgeZones$Zone;I)I"⟩
def RX1 : String := "BadgeZones$Door"
def TX1 : u_T := fun k => match k with
  | 0 => ("BadgeZones$Door", "sideA", "LBadgeZones$Zone;", true)
  | 1 => ("BadgeZones$Door", "sideB", "LBadgeZones$Zone;", true)
  | 2 => ("BadgeZones$Door", "hold", "I", true)
  | 3 => ("BadgeZones$Door", "lock", "I", true)
  | _ => ("BadgeZones$Door", "openUntil", "I", false)
def tyX1 : Nat → FieldType := fun k => match k with
  | 0 => .object "BadgeZones$Zone"
  | 1 => .object "BadgeZones$Zone"
  | 2 => .int
  | 3 => .int
  | _ => .int
abbrev wsX10 : List Cond := u_ws RX1 TX1 5
theorem nmX1 : ∀ a, a < 5 → ∀ b, b < 5 → a ≠ b → (TX1 a).2.1 ≠ (TX1 b).2.1 := by decide +kernel
theorem tyX1_ok : ∀ k, k < 5 → parseFieldDescriptor (TX1 k).2.2.1 = some (tyX1 k) := by decide +kernel
abbrev cX1_init : ByteArray := prog_3_method_1_code
def yX1_init : MethodName := ⟨RX1, "<init>", "(LBadgeZones$Zone;LBadgeZones$Zone;II)V"⟩
abbrev cX1_otherSide : ByteArray := prog_3_method_2_code
def yX1_otherSide : MethodName := ⟨RX1, "otherSide", "(LBadgeZones$Zone;)LBadgeZones$Zone;"⟩
abbrev cX1_openAt : ByteArray := prog_3_method_3_code
def yX1_openAt : MethodName := ⟨RX1, "openAt", "(I)V"⟩
abbrev cX1_minutesLeft : ByteArray := prog_3_method_4_code
def yX1_minutesLeft : MethodName := ⟨RX1, "minutesLeft", "(I)I"⟩
abbrev cX1_excludes : ByteArray := prog_3_method_5_code
def yX1_excludes : MethodName := ⟨RX1, "excludes", "(LBadgeZones$Door;)Z"⟩
abbrev cX1_measureBack : ByteArray := prog_3_method_6_code
def yX1_measureBack : MethodName := ⟨RX1, "measureBack", "(I)V"⟩
abbrev cX1_measureFrom : ByteArray := prog_3_method_7_code
def yX1_measureFrom : MethodName := ⟨RX1, "measureFrom", "(LBadgeZones$Zone;LBadgeZones$Zone;I)V"⟩
def RX2 : String := "BadgeZones$Stay"
def TX2 : u_T := fun k => match k with
  | 0 => ("BadgeZones$Stay", "zone", "LBadgeZones$Zone;", false)
  | _ => ("BadgeZones$Stay", "since", "I", true)
def tyX2 : Nat → FieldType := fun k => match k with
  | 0 => .object "BadgeZones$Zone"
  | _ => .int
abbrev wsX20 : List Cond := u_ws RX2 TX2 2
theorem nmX2 : ∀ a, a < 2 → ∀ b, b < 2 → a ≠ b → (TX2 a).2.1 ≠ (TX2 b).2.1 := by decide +kernel
theorem tyX2_ok : ∀ k, k < 2 → parseFieldDescriptor (TX2 k).2.2.1 = some (tyX2 k) := by decide +kernel
abbrev cX2_init : ByteArray := prog_4_method_1_code
def yX2_init : MethodName := ⟨RX2, "<init>", "(LBadgeZones$Zone;I)V"⟩
def RX3 : String := "BadgeZones$Zone"
def TX3 : u_T := fun k => match k with
  | 0 => ("BadgeZones$Zone", "number", "I", true)
  | 1 => ("BadgeZones$Zone", "capacity", "I", false)
  | 2 => ("BadgeZones$Zone", "begin", "I", false)
  | 3 => ("BadgeZones$Zone", "end", "I", false)
  | 4 => ("BadgeZones$Zone", "isOnTheWay", "Z", false)
  | _ => ("BadgeZones$Zone", "doorsLeft", "I", false)
def tyX3 : Nat → FieldType := fun k => match k with
  | 0 => .int
  | 1 => .int
  | 2 => .int
  | 3 => .int
  | 4 => .boolean
  | _ => .int
abbrev wsX30 : List Cond := u_ws RX3 TX3 6
theorem nmX3 : ∀ a, a < 6 → ∀ b, b < 6 → a ≠ b → (TX3 a).2.1 ≠ (TX3 b).2.1 := by decide +kernel
theorem tyX3_ok : ∀ k, k < 6 → parseFieldDescriptor (TX3 k).2.2.1 = some (tyX3 k) := by decide +kernel
abbrev cX3_init : ByteArray := prog_5_method_1_code
def yX3_init : MethodName := ⟨RX3, "<init>", "(IIII)V"⟩
abbrev cX3_hasHoursAt : ByteArray := prog_5_method_2_code
def yX3_hasHoursAt : MethodName := ⟨RX3, "hasHoursAt", "(I)Z"⟩
def RX4 : String := "BadgeZones"
def TX4 : u_T := fun k => match k with
  | 0 => ("BadgeZones", "outside", "LBadgeZones$Zone;", true)
  | 1 => ("BadgeZones", "zones", "Ljava/util/ArrayList;", true)
  | 2 => ("BadgeZones", "doors", "Ljava/util/ArrayList;", true)
  | 3 => ("BadgeZones", "badges", "Ljava/util/ArrayList;", true)
  | 4 => ("BadgeZones", "minute", "I", false)
  | _ => ("BadgeZones", "isAlarm", "Z", false)
def tyX4 : Nat → FieldType := fun k => match k with
  | 0 => .object "BadgeZones$Zone"
  | 1 => .object "java/util/ArrayList"
  | 2 => .object "java/util/ArrayList"
  | 3 => .object "java/util/ArrayList"
  | 4 => .int
  | _ => .boolean
abbrev wsX40 : List Cond := u_ws RX4 TX4 6
theorem nmX4 : ∀ a, a < 6 → ∀ b, b < 6 → a ≠ b → (TX4 a).2.1 ≠ (TX4 b).2.1 := by decide +kernel
theorem tyX4_ok : ∀ k, k < 6 → parseFieldDescriptor (TX4 k).2.2.1 = some (tyX4 k) := by decide +kernel
abbrev cX4_init : ByteArray := prog_1_method_1_code
def yX4_init : MethodName := ⟨RX4, "<init>", "()V"⟩
abbrev cX4_addZone : ByteArray := prog_1_method_2_code
def yX4_addZone : MethodName := ⟨RX4, "addZone", "(III)I"⟩
abbrev cX4_addDoor : ByteArray := prog_1_method_4_code
def yX4_addDoor : MethodName := ⟨RX4, "addDoor", "(IIII)I"⟩
abbrev cX4_openFor : ByteArray := prog_1_method_7_code
def yX4_openFor : MethodName := ⟨RX4, "openFor", "(I)I"⟩
abbrev cX4_addBadge : ByteArray := prog_1_method_8_code
def yX4_addBadge : MethodName := ⟨RX4, "addBadge", "(I)I"⟩
abbrev cX4_addVisitor : ByteArray := prog_1_method_9_code
def yX4_addVisitor : MethodName := ⟨RX4, "addVisitor", "(I)I"⟩
abbrev cX4_block : ByteArray := prog_1_method_11_code
def yX4_block : MethodName := ⟨RX4, "block", "(IZ)Z"⟩
abbrev cX4_badge : ByteArray := prog_1_method_12_code
def yX4_badge : MethodName := ⟨RX4, "badge", "(II)I"⟩
abbrev cX4_tick : ByteArray := prog_1_method_13_code
def yX4_tick : MethodName := ⟨RX4, "tick", "(I)I"⟩
abbrev cX4_alarm : ByteArray := prog_1_method_14_code
def yX4_alarm : MethodName := ⟨RX4, "alarm", "(Z)Z"⟩
abbrev cX4_request : ByteArray := prog_1_method_15_code
def yX4_request : MethodName := ⟨RX4, "request", "(II)I"⟩
abbrev cX4_now : ByteArray := prog_1_method_17_code
def yX4_now : MethodName := ⟨RX4, "now", "()I"⟩
abbrev cX4_inside : ByteArray := prog_1_method_18_code
def yX4_inside : MethodName := ⟨RX4, "inside", "(I)I"⟩
abbrev cX4_wasIn : ByteArray := prog_1_method_20_code
def yX4_wasIn : MethodName := ⟨RX4, "wasIn", "(II)I"⟩
abbrev cX4_minutesIn : ByteArray := prog_1_method_21_code
def yX4_minutesIn : MethodName := ⟨RX4, "minutesIn", "(II)I"⟩
abbrev cX4_isWithin : ByteArray := prog_1_method_27_code
def yX4_isWithin : MethodName := ⟨RX4, "isWithin", "(III)Z"⟩
abbrev cX4_zoneAt : ByteArray := prog_1_method_28_code
def yX4_zoneAt : MethodName := ⟨RX4, "zoneAt", "(I)LBadgeZones$Zone;"⟩
abbrev cX4_doorAt : ByteArray := prog_1_method_29_code
def yX4_doorAt : MethodName := ⟨RX4, "doorAt", "(I)LBadgeZones$Door;"⟩
abbrev cX4_badgeAt : ByteArray := prog_1_method_30_code
def yX4_badgeAt : MethodName := ⟨RX4, "badgeAt", "(I)LBadgeZones$Badge;"⟩
abbrev cX4_checkZone : ByteArray := prog_1_method_31_code
def yX4_checkZone : MethodName := ⟨RX4, "checkZone", "(III)V"⟩
abbrev cX4_checkRights : ByteArray := prog_1_method_32_code
def yX4_checkRights : MethodName := ⟨RX4, "checkRights", "(I)V"⟩
abbrev cX4_keepBadge : ByteArray := prog_1_method_33_code
def yX4_keepBadge : MethodName := ⟨RX4, "keepBadge", "(LBadgeZones$Badge;I)I"⟩
abbrev cX4_badgesIn : ByteArray := prog_1_method_35_code
def yX4_badgesIn : MethodName := ⟨RX4, "badgesIn", "(LBadgeZones$Zone;)I"⟩
abbrev cX4_countIn : ByteArray := prog_1_method_36_code
def yX4_countIn : MethodName := ⟨RX4, "countIn", "(LBadgeZones$Zone;)I"⟩
abbrev cX4_answerTo : ByteArray := prog_1_method_37_code
def yX4_answerTo : MethodName := ⟨RX4, "answerTo", "(LBadgeZones$Badge;LBadgeZones$Door;)I"⟩
abbrev cX4_answerInPeace : ByteArray := prog_1_method_38_code
def yX4_answerInPeace : MethodName := ⟨RX4, "answerInPeace", "(LBadgeZones$Badge;LBadgeZones$Door;LBadgeZones$Zone;)I"⟩
abbrev cX4_answerInAlarm : ByteArray := prog_1_method_39_code
def yX4_answerInAlarm : MethodName := ⟨RX4, "answerInAlarm", "(LBadgeZones$Badge;LBadgeZones$Zone;)I"⟩
abbrev cX4_isExcluded : ByteArray := prog_1_method_40_code
def yX4_isExcluded : MethodName := ⟨RX4, "isExcluded", "(LBadgeZones$Door;)Z"⟩
abbrev cX4_wouldLeaveVisitor : ByteArray := prog_1_method_41_code
def yX4_wouldLeaveVisitor : MethodName := ⟨RX4, "wouldLeaveVisitor", "(LBadgeZones$Badge;)Z"⟩
abbrev cX4_pass : ByteArray := prog_1_method_42_code
def yX4_pass : MethodName := ⟨RX4, "pass", "(LBadgeZones$Badge;LBadgeZones$Door;)V"⟩
abbrev cX4_measureDistances : ByteArray := prog_1_method_43_code
def yX4_measureDistances : MethodName := ⟨RX4, "measureDistances", "()V"⟩
abbrev cX4_measureTo : ByteArray := prog_1_method_45_code
def yX4_measureTo : MethodName := ⟨RX4, "measureTo", "(LBadgeZones$Zone;)V"⟩
def RX5 : String := "BadgeZonesModel"
def TX5 : u_T := fun k => match k with
  | _ => ("", "", "", false)
def tyX5 : Nat → FieldType := fun k => match k with
  | _ => .int
abbrev wsX50 : List Cond := u_ws RX5 TX5 0
theorem nmX5 : ∀ a, a < 0 → ∀ b, b < 0 → a ≠ b → (TX5 a).2.1 ≠ (TX5 b).2.1 := by decide +kernel
theorem tyX5_ok : ∀ k, k < 0 → parseFieldDescriptor (TX5 k).2.2.1 = some (tyX5 k) := by decide +kernel
def RJx145de : String := "java/io/Serializable"
def TJx145de : u_T := fun k => match k with
  | _ => ("", "", "", false)
def tyJx145de : Nat → FieldType := fun k => match k with
  | _ => .int
abbrev wsJx145de0 : List Cond := u_ws RJx145de TJx145de 0
theorem nmJx145de : ∀ a, a < 0 → ∀ b, b < 0 → a ≠ b → (TJx145de a).2.1 ≠ (TJx145de b).2.1 := by decide +kernel
theorem tyJx145de_ok : ∀ k, k < 0 → parseFieldDescriptor (TJx145de k).2.2.1 = some (tyJx145de k) := by decide +kernel
def RJx8e188 : String := "java/lang/Cloneable"
def TJx8e188 : u_T := fun k => match k with
  | _ => ("", "", "", false)
def tyJx8e188 : Nat → FieldType := fun k => match k with
  | _ => .int
abbrev wsJx8e1880 : List Cond := u_ws RJx8e188 TJx8e188 0
theorem nmJx8e188 : ∀ a, a < 0 → ∀ b, b < 0 → a ≠ b → (TJx8e188 a).2.1 ≠ (TJx8e188 b).2.1 := by decide +kernel
theorem tyJx8e188_ok : ∀ k, k < 0 → parseFieldDescriptor (TJx8e188 k).2.2.1 = some (tyJx8e188 k) := by decide +kernel
def RJ6 : String := "java/lang/Integer"
def TJ6 : u_T := fun k => match k with
  | _ => ("", "", "", false)
def tyJ6 : Nat → FieldType := fun k => match k with
  | _ => .int
abbrev wsJ60 : List Cond := u_ws RJ6 TJ6 0
theorem nmJ6 : ∀ a, a < 0 → ∀ b, b < 0 → a ≠ b → (TJ6 a).2.1 ≠ (TJ6 b).2.1 := by decide +kernel
theorem tyJ6_ok : ∀ k, k < 0 → parseFieldDescriptor (TJ6 k).2.2.1 = some (tyJ6 k) := by decide +kernel
abbrev cJ6_bitCount_0f7a4 : ByteArray := prog_14_method_49_code
def yJ6_bitCount_0f7a4 : MethodName := ⟨RJ6, "bitCount", "(I)I"⟩
def RJxab1ab : String := "java/lang/Iterable"
def TJxab1ab : u_T := fun k => match k with
  | _ => ("", "", "", false)
def tyJxab1ab : Nat → FieldType := fun k => match k with
  | _ => .int
abbrev wsJxab1ab0 : List Cond := u_ws RJxab1ab TJxab1ab 0
theorem nmJxab1ab : ∀ a, a < 0 → ∀ b, b < 0 → a ≠ b → (TJxab1ab a).2.1 ≠ (TJxab1ab b).2.1 := by decide +kernel
theorem tyJxab1ab_ok : ∀ k, k < 0 → parseFieldDescriptor (TJxab1ab k).2.2.1 = some (tyJxab1ab k) := by decide +kernel
def RJ9 : String := "java/lang/Math"
def TJ9 : u_T := fun k => match k with
  | _ => ("", "", "", false)
def tyJ9 : Nat → FieldType := fun k => match k with
  | _ => .int
abbrev wsJ90 : List Cond := u_ws RJ9 TJ9 0
theorem nmJ9 : ∀ a, a < 0 → ∀ b, b < 0 → a ≠ b → (TJ9 a).2.1 ≠ (TJ9 b).2.1 := by decide +kernel
theorem tyJ9_ok : ∀ k, k < 0 → parseFieldDescriptor (TJ9 k).2.2.1 = some (tyJ9 k) := by decide +kernel
abbrev cJ9_max_7cf53 : ByteArray := prog_16_method_65_code
def yJ9_max_7cf53 : MethodName := ⟨RJ9, "max", "(II)I"⟩
abbrev cJ9_min_7cf53 : ByteArray := prog_16_method_69_code
def yJ9_min_7cf53 : MethodName := ⟨RJ9, "min", "(II)I"⟩
def RJ0 : String := "java/lang/String"
def TJ0 : u_T := fun k => match k with
  | _ => ("", "", "", false)
def tyJ0 : Nat → FieldType := fun k => match k with
  | _ => .int
abbrev wsJ00 : List Cond := u_ws RJ0 TJ0 0
theorem nmJ0 : ∀ a, a < 0 → ∀ b, b < 0 → a ≠ b → (TJ0 a).2.1 ≠ (TJ0 b).2.1 := by decide +kernel
theorem tyJ0_ok : ∀ k, k < 0 → parseFieldDescriptor (TJ0 k).2.2.1 = some (tyJ0 k) := by decide +kernel
def RJ10 : String := "java/lang/System"
def TJ10 : u_T := fun k => match k with
  | _ => ("", "", "", false)
def tyJ10 : Nat → FieldType := fun k => match k with
  | _ => .int
abbrev wsJ100 : List Cond := u_ws RJ10 TJ10 0
theorem nmJ10 : ∀ a, a < 0 → ∀ b, b < 0 → a ≠ b → (TJ10 a).2.1 ≠ (TJ10 b).2.1 := by decide +kernel
theorem tyJ10_ok : ∀ k, k < 0 → parseFieldDescriptor (TJ10 k).2.2.1 = some (tyJ10 k) := by decide +kernel
def RJxa1e45 : String := "java/util/AbstractCollection"
def TJxa1e45 : u_T := fun k => match k with
  | _ => ("", "", "", false)
def tyJxa1e45 : Nat → FieldType := fun k => match k with
  | _ => .int
abbrev wsJxa1e450 : List Cond := u_ws RJxa1e45 TJxa1e45 0
theorem nmJxa1e45 : ∀ a, a < 0 → ∀ b, b < 0 → a ≠ b → (TJxa1e45 a).2.1 ≠ (TJxa1e45 b).2.1 := by decide +kernel
theorem tyJxa1e45_ok : ∀ k, k < 0 → parseFieldDescriptor (TJxa1e45 k).2.2.1 = some (tyJxa1e45 k) := by decide +kernel
abbrev cJxa1e45_init_da8c8 : ByteArray := prog_21_method_1_code
def yJxa1e45_init_da8c8 : MethodName := ⟨RJxa1e45, "<init>", "()V"⟩
def RJxc12de : String := "java/util/AbstractList"
def TJxc12de : u_T := fun k => match k with
  | _ => ("", "", "", false)
def tyJxc12de : Nat → FieldType := fun k => match k with
  | _ => .int
abbrev wsJxc12de0 : List Cond := u_ws RJxc12de TJxc12de 0
theorem nmJxc12de : ∀ a, a < 0 → ∀ b, b < 0 → a ≠ b → (TJxc12de a).2.1 ≠ (TJxc12de b).2.1 := by decide +kernel
theorem tyJxc12de_ok : ∀ k, k < 0 → parseFieldDescriptor (TJxc12de k).2.2.1 = some (tyJxc12de k) := by decide +kernel
abbrev cJxc12de_init_da8c8 : ByteArray := prog_22_method_1_code
def yJxc12de_init_da8c8 : MethodName := ⟨RJxc12de, "<init>", "()V"⟩
def RJx4a65c : String := "java/util/ArrayList"
def TJx4a65c : u_T := fun k => match k with
  | 0 => ("java/util/AbstractList", "modCount", "I", false)
  | 1 => ("java/util/ArrayList", "elementData", "[Ljava/lang/Object;", false)
  | _ => ("java/util/ArrayList", "size", "I", false)
def tyJx4a65c : Nat → FieldType := fun k => match k with
  | 0 => .int
  | 1 => .array (.object "java/lang/Object")
  | _ => .int
abbrev wsJx4a65c0 : List Cond := u_ws RJx4a65c TJx4a65c 3
theorem nmJx4a65c : ∀ a, a < 3 → ∀ b, b < 3 → a ≠ b → (TJx4a65c a).2.1 ≠ (TJx4a65c b).2.1 := by decide +kernel
theorem tyJx4a65c_ok : ∀ k, k < 3 → parseFieldDescriptor (TJx4a65c k).2.2.1 = some (tyJx4a65c k) := by decide +kernel
abbrev cJx4a65c_init_da8c8 : ByteArray := prog_23_method_2_code
def yJx4a65c_init_da8c8 : MethodName := ⟨RJx4a65c, "<init>", "()V"⟩
abbrev cJx4a65c_grow_92f84 : ByteArray := prog_23_method_6_code
def yJx4a65c_grow_92f84 : MethodName := ⟨RJx4a65c, "grow", "(I)[Ljava/lang/Object;"⟩
abbrev cJx4a65c_grow_d5877 : ByteArray := prog_23_method_7_code
def yJx4a65c_grow_d5877 : MethodName := ⟨RJx4a65c, "grow", "()[Ljava/lang/Object;"⟩
abbrev cJx4a65c_size_8abf5 : ByteArray := prog_23_method_8_code
def yJx4a65c_size_8abf5 : MethodName := ⟨RJx4a65c, "size", "()I"⟩
abbrev cJx4a65c_elementData_915e3 : ByteArray := prog_23_method_18_code
def yJx4a65c_elementData_915e3 : MethodName := ⟨RJx4a65c, "elementData", "(I)Ljava/lang/Object;"⟩
abbrev cJx4a65c_get_915e3 : ByteArray := prog_23_method_20_code
def yJx4a65c_get_915e3 : MethodName := ⟨RJx4a65c, "get", "(I)Ljava/lang/Object;"⟩
abbrev cJx4a65c_add_72be8 : ByteArray := prog_23_method_24_code
def yJx4a65c_add_72be8 : MethodName := ⟨RJx4a65c, "add", "(Ljava/lang/Object;[Ljava/lang/Object;I)V"⟩
abbrev cJx4a65c_add_9ea2d : ByteArray := prog_23_method_25_code
def yJx4a65c_add_9ea2d : MethodName := ⟨RJx4a65c, "add", "(Ljava/lang/Object;)Z"⟩
def RJ7 : String := "java/util/Arrays"
def TJ7 : u_T := fun k => match k with
  | _ => ("", "", "", false)
def tyJ7 : Nat → FieldType := fun k => match k with
  | _ => .int
abbrev wsJ70 : List Cond := u_ws RJ7 TJ7 0
theorem nmJ7 : ∀ a, a < 0 → ∀ b, b < 0 → a ≠ b → (TJ7 a).2.1 ≠ (TJ7 b).2.1 := by decide +kernel
theorem tyJ7_ok : ∀ k, k < 0 → parseFieldDescriptor (TJ7 k).2.2.1 = some (tyJ7 k) := by decide +kernel
abbrev cJ7_copyOf_1904c : ByteArray := prog_24_method_119_code
def yJ7_copyOf_1904c : MethodName := ⟨RJ7, "copyOf", "([Ljava/lang/Object;I)[Ljava/lang/Object;"⟩
abbrev cJ7_copyOf_6403c : ByteArray := prog_24_method_120_code
def yJ7_copyOf_6403c : MethodName := ⟨RJ7, "copyOf", "([Ljava/lang/Object;ILjava/lang/Class;)[Ljava/lang/Object;"⟩
def RJx5ef63 : String := "java/util/Collection"
def TJx5ef63 : u_T := fun k => match k with
  | _ => ("", "", "", false)
def tyJx5ef63 : Nat → FieldType := fun k => match k with
  | _ => .int
abbrev wsJx5ef630 : List Cond := u_ws RJx5ef63 TJx5ef63 0
theorem nmJx5ef63 : ∀ a, a < 0 → ∀ b, b < 0 → a ≠ b → (TJx5ef63 a).2.1 ≠ (TJx5ef63 b).2.1 := by decide +kernel
theorem tyJx5ef63_ok : ∀ k, k < 0 → parseFieldDescriptor (TJx5ef63 k).2.2.1 = some (tyJx5ef63 k) := by decide +kernel
def RJxbd725 : String := "java/util/List"
def TJxbd725 : u_T := fun k => match k with
  | _ => ("", "", "", false)
def tyJxbd725 : Nat → FieldType := fun k => match k with
  | _ => .int
abbrev wsJxbd7250 : List Cond := u_ws RJxbd725 TJxbd725 0
theorem nmJxbd725 : ∀ a, a < 0 → ∀ b, b < 0 → a ≠ b → (TJxbd725 a).2.1 ≠ (TJxbd725 b).2.1 := by decide +kernel
theorem tyJxbd725_ok : ∀ k, k < 0 → parseFieldDescriptor (TJxbd725 k).2.2.1 = some (tyJxbd725 k) := by decide +kernel
def RJ15 : String := "java/util/Objects"
def TJ15 : u_T := fun k => match k with
  | _ => ("", "", "", false)
def tyJ15 : Nat → FieldType := fun k => match k with
  | _ => .int
abbrev wsJ150 : List Cond := u_ws RJ15 TJ15 0
theorem nmJ15 : ∀ a, a < 0 → ∀ b, b < 0 → a ≠ b → (TJ15 a).2.1 ≠ (TJ15 b).2.1 := by decide +kernel
theorem tyJ15_ok : ∀ k, k < 0 → parseFieldDescriptor (TJ15 k).2.2.1 = some (tyJ15 k) := by decide +kernel
abbrev cJ15_checkIndex_7cf53 : ByteArray := prog_27_method_17_code
def yJ15_checkIndex_7cf53 : MethodName := ⟨RJ15, "checkIndex", "(II)I"⟩
def RJxf0a74 : String := "java/util/RandomAccess"
def TJxf0a74 : u_T := fun k => match k with
  | _ => ("", "", "", false)
def tyJxf0a74 : Nat → FieldType := fun k => match k with
  | _ => .int
abbrev wsJxf0a740 : List Cond := u_ws RJxf0a74 TJxf0a74 0
theorem nmJxf0a74 : ∀ a, a < 0 → ∀ b, b < 0 → a ≠ b → (TJxf0a74 a).2.1 ≠ (TJxf0a74 b).2.1 := by decide +kernel
theorem tyJxf0a74_ok : ∀ k, k < 0 → parseFieldDescriptor (TJxf0a74 k).2.2.1 = some (tyJxf0a74 k) := by decide +kernel
def RJxa66e6 : String := "java/util/SequencedCollection"
def TJxa66e6 : u_T := fun k => match k with
  | _ => ("", "", "", false)
def tyJxa66e6 : Nat → FieldType := fun k => match k with
  | _ => .int
abbrev wsJxa66e60 : List Cond := u_ws RJxa66e6 TJxa66e6 0
theorem nmJxa66e6 : ∀ a, a < 0 → ∀ b, b < 0 → a ≠ b → (TJxa66e6 a).2.1 ≠ (TJxa66e6 b).2.1 := by decide +kernel
theorem tyJxa66e6_ok : ∀ k, k < 0 → parseFieldDescriptor (TJxa66e6 k).2.2.1 = some (tyJxa66e6 k) := by decide +kernel
def RJ8 : String := "jdk/internal/util/ArraysSupport"
def TJ8 : u_T := fun k => match k with
  | _ => ("", "", "", false)
def tyJ8 : Nat → FieldType := fun k => match k with
  | _ => .int
abbrev wsJ80 : List Cond := u_ws RJ8 TJ8 0
theorem nmJ8 : ∀ a, a < 0 → ∀ b, b < 0 → a ≠ b → (TJ8 a).2.1 ≠ (TJ8 b).2.1 := by decide +kernel
theorem tyJ8_ok : ∀ k, k < 0 → parseFieldDescriptor (TJ8 k).2.2.1 = some (tyJ8 k) := by decide +kernel
abbrev cJ8_newLength_cabcc : ByteArray := prog_30_method_27_code
def yJ8_newLength_cabcc : MethodName := ⟨RJ8, "newLength", "(III)I"⟩
abbrev cJ8_hugeLength_7cf53 : ByteArray := prog_30_method_28_code
def yJ8_hugeLength_7cf53 : MethodName := ⟨RJ8, "hugeLength", "(II)I"⟩
def RJ3 : String := "jdk/internal/util/Preconditions"
def TJ3 : u_T := fun k => match k with
  | _ => ("", "", "", false)
def tyJ3 : Nat → FieldType := fun k => match k with
  | _ => .int
abbrev wsJ30 : List Cond := u_ws RJ3 TJ3 0
theorem nmJ3 : ∀ a, a < 0 → ∀ b, b < 0 → a ≠ b → (TJ3 a).2.1 ≠ (TJ3 b).2.1 := by decide +kernel
theorem tyJ3_ok : ∀ k, k < 0 → parseFieldDescriptor (TJ3 k).2.2.1 = some (tyJ3 k) := by decide +kernel
abbrev cJ3_checkIndex_8e157 : ByteArray := prog_31_method_11_code
def yJ3_checkIndex_8e157 : MethodName := ⟨RJ3, "checkIndex", "(IILjava/util/function/BiFunction;)I"⟩
def RL : String := "BadgeZonesLaw"
abbrev cL_below : ByteArray := method_2_code
def yL_below : MethodName := ⟨RL, "below", "(II)I"⟩
abbrev cL_cell : ByteArray := method_3_code
def yL_cell : MethodName := ⟨RL, "cell", "([II)I"⟩
abbrev cL_build : ByteArray := method_4_code
def yL_build : MethodName := ⟨RL, "build", "(LBadgeZones;[II[I[I[I[I)Z"⟩
abbrev cL_law : ByteArray := code
def yL_law : MethodName := ⟨RL, "law", "([I)Z"⟩
abbrev vwCl : List vw_C := [(RJx4a65c, TJx4a65c, 3), (RX0, TX0, 7), (RX1, TX1, 5), (RX2, TX2, 2), (RX3, TX3, 6), (RX4, TX4, 6)]
