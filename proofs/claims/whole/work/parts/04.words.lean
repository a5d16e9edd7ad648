/-- the tables' words that a callee may rest on -/
def GT : List Cond := lw_tbl.filter goodWord
theorem in_gt {w : Cond} (h : w ∈ lw_tbl) (g : goodWord w = true) : w ∈ GT := List.mem_filter.mpr ⟨h, g⟩
theorem gt_good : ∀ w ∈ GT, (w.onTables && w.keeps) = true ∨ ∃ ty, w = .arrayClass ty := fun _ h => good_of_word (List.mem_filter.mp h).2
theorem gt_tbl : ∀ w ∈ GT, w ∈ lw_tbl := fun _ h => (List.mem_filter.mp h).1
/-- words that are no good ones but are kept: casts, declarations -/
def isCD : Cond → Bool
  | .castable _ _ => true
  | .declares _ => true
  | _ => false
def NG : List Cond := lw_tbl.filter isCD
theorem in_ng {w : Cond} (h : w ∈ lw_tbl) (g : isCD w = true) : w ∈ NG := List.mem_filter.mpr ⟨h, g⟩
theorem in_ps {ws : List Cond} (ps : List Nat) (hp : ws = ps.filterMap (fun i => lw_tbl[i]?)) (h : ws.all goodWord = true) : ∀ w ∈ ws, w ∈ GT := by
  intro w hw
  refine in_gt ?_ (List.all_eq_true.mp h w hw)
  rw [hp] at hw
  obtain ⟨i, -, hi⟩ := List.mem_filterMap.mp hw
  exact List.mem_of_getElem? hi
theorem in_t0 {w : Cond} (h : w ∈ tables_1) : w ∈ lw_tbl := List.mem_append_right _ h
theorem in_t1 {w : Cond} (h : w ∈ tables_1_1) : w ∈ lw_tbl := in_t0 (List.mem_append_left _ h)
theorem in_t2 {w : Cond} (h : w ∈ tables_1_2) : w ∈ lw_tbl := in_t0 (List.mem_append_right _ (List.mem_append_left _ h))
theorem in_t3 {w : Cond} (h : w ∈ tables_1_3) : w ∈ lw_tbl := in_t0 (List.mem_append_right _ (List.mem_append_right _ (List.mem_append_left _ h)))
theorem in_t4 {w : Cond} (h : w ∈ tables_1_4) : w ∈ lw_tbl := in_t0 (List.mem_append_right _ (List.mem_append_right _ (List.mem_append_right _ (List.mem_append_left _ h))))
theorem in_t5 {w : Cond} (h : w ∈ tables_1_5) : w ∈ lw_tbl := in_t0 (List.mem_append_right _ (List.mem_append_right _ (List.mem_append_right _ (List.mem_append_right _ h))))
theorem lw_pv {q : MethodName × Nat} (i : Nat) (h : lw_privs[i]? = some q) : q ∈ lw_privs := List.mem_of_getElem? h
/-- a virtual call's words -/
def LkV (own : String) (idx : Nat) (y : MethodName) (C : String) (bytes : ByteArray) (maxL : Nat) (ret : Option FieldType) (n : Nat) : Prop :=
  Cond.methodLink own idx y ∈ GT ∧ Cond.instanceMethod y ∈ GT ∧ Cond.selects C y y ∈ GT ∧ Cond.initialized y.cls ∈ GT ∧ Cond.code y bytes maxL ret ∈ GT ∧ (y.cls ≠ "java/lang/invoke/MethodHandle" ∧ y.cls ≠ "java/lang/invoke/VarHandle") ∧ (parseMethodDescriptor y.desc).map (fun d => d.parameters.length) = some n
/-- a static call's -/
def LkS (own : String) (idx : Nat) (y : MethodName) (bytes : ByteArray) (maxL : Nat) (ret : Option FieldType) (n : Nat) : Prop :=
  Cond.methodLink own idx y ∈ GT ∧ Cond.static y ∈ GT ∧ Cond.initialized y.cls ∈ GT ∧ Cond.code y bytes maxL ret ∈ GT ∧ (y.cls ≠ "java/lang/invoke/MethodHandle" ∧ y.cls ≠ "java/lang/invoke/VarHandle") ∧ (parseMethodDescriptor y.desc).map (fun d => d.parameters.length) = some n
def LkSW (own : String) (idx : Nat) (y : MethodName) (bytes : ByteArray) (maxL : Nat) (ret : Option FieldType) (hh : List (Nat × Nat × Nat × Nat)) (n : Nat) : Prop :=
  Cond.methodLink own idx y ∈ GT ∧ Cond.static y ∈ GT ∧ Cond.initialized y.cls ∈ GT ∧ Cond.codeWith y bytes maxL ret hh ∈ GT ∧ (y.cls ≠ "java/lang/invoke/MethodHandle" ∧ y.cls ≠ "java/lang/invoke/VarHandle") ∧ (parseMethodDescriptor y.desc).map (fun d => d.parameters.length) = some n
/-- a constructor's -/
def LkI (own : String) (idx : Nat) (y : MethodName) (bytes : ByteArray) (maxL : Nat) (n : Nat) : Prop :=
  Cond.methodLink own idx y ∈ GT ∧ Cond.instanceMethod y ∈ GT ∧ Cond.initialized y.cls ∈ GT ∧ Cond.code y bytes maxL none ∈ GT ∧ (y.cls ≠ "java/lang/invoke/MethodHandle" ∧ y.cls ≠ "java/lang/invoke/VarHandle") ∧ (parseMethodDescriptor y.desc).map (fun d => d.parameters.length) = some n ∧ y.name = "<init>"
def LkO (own : String) (idx : Nat) : Prop := Cond.methodLink own idx Lib.objectInit ∈ GT ∧ Cond.instanceMethod Lib.objectInit ∈ GT ∧ Cond.code Lib.objectInit ⟨#[0xb1]⟩ 1 none ∈ GT
set_option maxRecDepth 20000 in
theorem wd_0 : Cond.code yJ3_checkIndex_8e157 cJ3_checkIndex_8e157 3 (some .int) ∈ GT := in_gt (in_t1 (List.mem_of_getElem? (i := 192) rfl)) (by decide +kernel)
set_option maxRecDepth 20000 in
theorem wd_1 : Cond.methodLink "java/util/Objects" 105 yJ3_checkIndex_8e157 ∈ GT := in_gt (in_t1 (List.mem_of_getElem? (i := 190) rfl)) (by decide +kernel)
set_option maxRecDepth 20000 in
theorem wd_2 : Cond.static yJ3_checkIndex_8e157 ∈ GT := in_gt (in_t1 (List.mem_of_getElem? (i := 191) rfl)) (by decide +kernel)
set_option maxRecDepth 20000 in
theorem wd_3 : Cond.initialized "jdk/internal/util/Preconditions" ∈ GT := in_gt (in_t1 (List.mem_of_getElem? (i := 18) rfl)) (by decide +kernel)
set_option maxRecDepth 20000 in
theorem wd_4 : Cond.code yJ7_copyOf_6403c cJ7_copyOf_6403c 4 (some (.array (.object "java/lang/Object"))) ∈ GT := in_gt (in_t1 (List.mem_of_getElem? (i := 136) rfl)) (by decide +kernel)
set_option maxRecDepth 20000 in
theorem wd_5 : Cond.methodLink "java/util/Arrays" 300 yJ7_copyOf_6403c ∈ GT := in_gt (in_t1 (List.mem_of_getElem? (i := 134) rfl)) (by decide +kernel)
set_option maxRecDepth 20000 in
theorem wd_6 : Cond.static yJ7_copyOf_6403c ∈ GT := in_gt (in_t1 (List.mem_of_getElem? (i := 135) rfl)) (by decide +kernel)
set_option maxRecDepth 20000 in
theorem wd_7 : Cond.initialized "java/util/Arrays" ∈ GT := in_gt (in_t1 (List.mem_of_getElem? (i := 8) rfl)) (by decide +kernel)
set_option maxRecDepth 20000 in
theorem wd_8 : Cond.classLink "java/util/Arrays" 2 "java/lang/Object" ∈ GT := in_gt (in_t1 (List.mem_of_getElem? (i := 139) rfl)) (by decide +kernel)
set_option maxRecDepth 20000 in
theorem wd_9 : Cond.classLink "java/util/Arrays" 110 "[Ljava/lang/Object;" ∈ GT := in_gt (in_t1 (List.mem_of_getElem? (i := 137) rfl)) (by decide +kernel)
set_option maxRecDepth 20000 in
theorem wd_10 : Cond.code yJ9_min_7cf53 cJ9_min_7cf53 2 (some .int) ∈ GT := in_gt (in_t1 (List.mem_of_getElem? (i := 142) rfl)) (by decide +kernel)
set_option maxRecDepth 20000 in
theorem wd_11 : Cond.methodLink "java/util/Arrays" 304 yJ9_min_7cf53 ∈ GT := in_gt (in_t1 (List.mem_of_getElem? (i := 140) rfl)) (by decide +kernel)
set_option maxRecDepth 20000 in
theorem wd_12 : Cond.static yJ9_min_7cf53 ∈ GT := in_gt (in_t1 (List.mem_of_getElem? (i := 141) rfl)) (by decide +kernel)
set_option maxRecDepth 20000 in
theorem wd_13 : Cond.initialized "java/lang/Math" ∈ GT := in_gt (in_t1 (List.mem_of_getElem? (i := 7) rfl)) (by decide +kernel)
set_option maxRecDepth 20000 in
theorem wd_14 : Cond.constant "jdk/internal/util/ArraysSupport" 200 (2147483639) ∈ GT := in_gt (in_t1 (List.mem_of_getElem? (i := 113) rfl)) (by decide +kernel)
set_option maxRecDepth 20000 in
theorem wd_15 : Cond.code yJ9_max_7cf53 cJ9_max_7cf53 2 (some .int) ∈ GT := in_gt (in_t1 (List.mem_of_getElem? (i := 112) rfl)) (by decide +kernel)
set_option maxRecDepth 20000 in
theorem wd_16 : Cond.methodLink "jdk/internal/util/ArraysSupport" 194 yJ9_max_7cf53 ∈ GT := in_gt (in_t1 (List.mem_of_getElem? (i := 110) rfl)) (by decide +kernel)
set_option maxRecDepth 20000 in
theorem wd_17 : Cond.static yJ9_max_7cf53 ∈ GT := in_gt (in_t1 (List.mem_of_getElem? (i := 111) rfl)) (by decide +kernel)
set_option maxRecDepth 20000 in
theorem wd_18 : Cond.code yJ8_hugeLength_7cf53 cJ8_hugeLength_7cf53 3 (some .int) ∈ GT := in_gt (in_t1 (List.mem_of_getElem? (i := 116) rfl)) (by decide +kernel)
set_option maxRecDepth 20000 in
theorem wd_19 : Cond.methodLink "jdk/internal/util/ArraysSupport" 201 yJ8_hugeLength_7cf53 ∈ GT := in_gt (in_t1 (List.mem_of_getElem? (i := 114) rfl)) (by decide +kernel)
set_option maxRecDepth 20000 in
theorem wd_20 : Cond.static yJ8_hugeLength_7cf53 ∈ GT := in_gt (in_t1 (List.mem_of_getElem? (i := 115) rfl)) (by decide +kernel)
set_option maxRecDepth 20000 in
theorem wd_21 : Cond.initialized "jdk/internal/util/ArraysSupport" ∈ GT := in_gt (in_t1 (List.mem_of_getElem? (i := 6) rfl)) (by decide +kernel)
set_option maxRecDepth 20000 in
theorem wd_22 : Cond.code yJx4a65c_grow_d5877 cJx4a65c_grow_d5877 1 (some (.array (.object "java/lang/Object"))) ∈ GT := in_gt (in_t1 (List.mem_of_getElem? (i := 102) rfl)) (by decide +kernel)
set_option maxRecDepth 20000 in
theorem wd_23 : Cond.methodLink "java/util/ArrayList" 129 yJx4a65c_grow_d5877 ∈ GT := in_gt (in_t1 (List.mem_of_getElem? (i := 99) rfl)) (by decide +kernel)
set_option maxRecDepth 20000 in
theorem wd_24 : Cond.instanceMethod yJx4a65c_grow_d5877 ∈ GT := in_gt (in_t1 (List.mem_of_getElem? (i := 101) rfl)) (by decide +kernel)
set_option maxRecDepth 20000 in
theorem wd_25 : Cond.selects "java/util/ArrayList" yJx4a65c_grow_d5877 yJx4a65c_grow_d5877 ∈ GT := in_gt (List.mem_append_left _ (List.mem_map.mpr ⟨_, lw_pv 1 rfl, rfl⟩)) (by decide +kernel)
set_option maxRecDepth 20000 in
theorem wd_26 : Cond.initialized "java/util/ArrayList" ∈ GT := in_gt (in_t1 (List.mem_of_getElem? (i := 5) rfl)) (by decide +kernel)
set_option maxRecDepth 20000 in
theorem wd_27 : Cond.fieldLink "java/util/ArrayList" 48 "java/util/ArrayList" "size" "I" ∈ GT := in_gt (in_t1 (List.mem_of_getElem? (i := 80) rfl)) (by decide +kernel)
set_option maxRecDepth 20000 in
theorem wd_28 : Cond.fieldLink "java/util/ArrayList" 63 "java/util/ArrayList" "modCount" "I" ∈ GT := in_gt (in_t1 (List.mem_of_getElem? (i := 82) rfl)) (by decide +kernel)
set_option maxRecDepth 20000 in
theorem wd_29 : Cond.fieldLink "java/util/ArrayList" 9 "java/util/ArrayList" "elementData" "[Ljava/lang/Object;" ∈ GT := in_gt (in_t1 (List.mem_of_getElem? (i := 79) rfl)) (by decide +kernel)
set_option maxRecDepth 20000 in
theorem wd_30 : Cond.code yJx4a65c_add_72be8 cJx4a65c_add_72be8 4 none ∈ GT := in_gt (in_t1 (List.mem_of_getElem? (i := 98) rfl)) (by decide +kernel)
set_option maxRecDepth 20000 in
theorem wd_31 : Cond.methodLink "java/util/ArrayList" 131 yJx4a65c_add_72be8 ∈ GT := in_gt (in_t1 (List.mem_of_getElem? (i := 95) rfl)) (by decide +kernel)
set_option maxRecDepth 20000 in
theorem wd_32 : Cond.instanceMethod yJx4a65c_add_72be8 ∈ GT := in_gt (in_t1 (List.mem_of_getElem? (i := 97) rfl)) (by decide +kernel)
set_option maxRecDepth 20000 in
theorem wd_33 : Cond.selects "java/util/ArrayList" yJx4a65c_add_72be8 yJx4a65c_add_72be8 ∈ GT := in_gt (List.mem_append_left _ (List.mem_map.mpr ⟨_, lw_pv 0 rfl, rfl⟩)) (by decide +kernel)
set_option maxRecDepth 20000 in
theorem wd_34 : Cond.code yJ15_checkIndex_7cf53 cJ15_checkIndex_7cf53 2 (some .int) ∈ GT := in_gt (in_t1 (List.mem_of_getElem? (i := 189) rfl)) (by decide +kernel)
set_option maxRecDepth 20000 in
theorem wd_35 : Cond.methodLink "java/util/ArrayList" 118 yJ15_checkIndex_7cf53 ∈ GT := in_gt (in_t1 (List.mem_of_getElem? (i := 187) rfl)) (by decide +kernel)
set_option maxRecDepth 20000 in
theorem wd_36 : Cond.static yJ15_checkIndex_7cf53 ∈ GT := in_gt (in_t1 (List.mem_of_getElem? (i := 188) rfl)) (by decide +kernel)
set_option maxRecDepth 20000 in
theorem wd_37 : Cond.initialized "java/util/Objects" ∈ GT := in_gt (in_t1 (List.mem_of_getElem? (i := 17) rfl)) (by decide +kernel)
set_option maxRecDepth 20000 in
theorem wd_38 : Cond.code yJx4a65c_elementData_915e3 cJx4a65c_elementData_915e3 2 (some (.object "java/lang/Object")) ∈ GT := in_gt (in_t1 (List.mem_of_getElem? (i := 196) rfl)) (by decide +kernel)
set_option maxRecDepth 20000 in
theorem wd_39 : Cond.methodLink "java/util/ArrayList" 123 yJx4a65c_elementData_915e3 ∈ GT := in_gt (in_t1 (List.mem_of_getElem? (i := 193) rfl)) (by decide +kernel)
set_option maxRecDepth 20000 in
theorem wd_40 : Cond.instanceMethod yJx4a65c_elementData_915e3 ∈ GT := in_gt (in_t1 (List.mem_of_getElem? (i := 194) rfl)) (by decide +kernel)
set_option maxRecDepth 20000 in
theorem wd_41 : Cond.selects "java/util/ArrayList" yJx4a65c_elementData_915e3 yJx4a65c_elementData_915e3 ∈ GT := in_gt (in_t1 (List.mem_of_getElem? (i := 195) rfl)) (by decide +kernel)
set_option maxRecDepth 20000 in
theorem wd_42 : Cond.fieldLink "java/util/ArrayList" 39 "java/util/ArrayList" "DEFAULTCAPACITY_EMPTY_ELEMENTDATA" "[Ljava/lang/Object;" ∈ GT := in_gt (in_t1 (List.mem_of_getElem? (i := 77) rfl)) (by decide +kernel)
set_option maxRecDepth 20000 in
theorem wd_43 : Cond.code yJ8_newLength_cabcc cJ8_newLength_cabcc 4 (some .int) ∈ GT := in_gt (in_t1 (List.mem_of_getElem? (i := 109) rfl)) (by decide +kernel)
set_option maxRecDepth 20000 in
theorem wd_44 : Cond.methodLink "java/util/ArrayList" 73 yJ8_newLength_cabcc ∈ GT := in_gt (in_t1 (List.mem_of_getElem? (i := 107) rfl)) (by decide +kernel)
set_option maxRecDepth 20000 in
theorem wd_45 : Cond.static yJ8_newLength_cabcc ∈ GT := in_gt (in_t1 (List.mem_of_getElem? (i := 108) rfl)) (by decide +kernel)
set_option maxRecDepth 20000 in
theorem wd_46 : Cond.code yJ7_copyOf_1904c cJ7_copyOf_1904c 2 (some (.array (.object "java/lang/Object"))) ∈ GT := in_gt (in_t1 (List.mem_of_getElem? (i := 119) rfl)) (by decide +kernel)
set_option maxRecDepth 20000 in
theorem wd_47 : Cond.methodLink "java/util/ArrayList" 66 yJ7_copyOf_1904c ∈ GT := in_gt (in_t1 (List.mem_of_getElem? (i := 117) rfl)) (by decide +kernel)
set_option maxRecDepth 20000 in
theorem wd_48 : Cond.static yJ7_copyOf_1904c ∈ GT := in_gt (in_t1 (List.mem_of_getElem? (i := 118) rfl)) (by decide +kernel)
set_option maxRecDepth 20000 in
theorem wd_49 : Cond.methodLink "java/util/ArrayList" 79 yJ9_max_7cf53 ∈ GT := in_gt (in_t1 (List.mem_of_getElem? (i := 146) rfl)) (by decide +kernel)
set_option maxRecDepth 20000 in
theorem wd_50 : Cond.classLink "java/util/ArrayList" 7 "java/lang/Object" ∈ GT := in_gt (in_t1 (List.mem_of_getElem? (i := 147) rfl)) (by decide +kernel)
set_option maxRecDepth 20000 in
theorem wd_51 : Cond.code yJx4a65c_grow_92f84 cJx4a65c_grow_92f84 4 (some (.array (.object "java/lang/Object"))) ∈ GT := in_gt (in_t1 (List.mem_of_getElem? (i := 106) rfl)) (by decide +kernel)
set_option maxRecDepth 20000 in
theorem wd_52 : Cond.methodLink "java/util/ArrayList" 69 yJx4a65c_grow_92f84 ∈ GT := in_gt (in_t1 (List.mem_of_getElem? (i := 103) rfl)) (by decide +kernel)
set_option maxRecDepth 20000 in
theorem wd_53 : Cond.instanceMethod yJx4a65c_grow_92f84 ∈ GT := in_gt (in_t1 (List.mem_of_getElem? (i := 105) rfl)) (by decide +kernel)
set_option maxRecDepth 20000 in
theorem wd_54 : Cond.selects "java/util/ArrayList" yJx4a65c_grow_92f84 yJx4a65c_grow_92f84 ∈ GT := in_gt (List.mem_append_left _ (List.mem_map.mpr ⟨_, lw_pv 2 rfl, rfl⟩)) (by decide +kernel)
set_option maxRecDepth 20000 in
theorem wd_55 : Cond.code yJxc12de_init_da8c8 cJxc12de_init_da8c8 1 none ∈ GT := in_gt (in_t1 (List.mem_of_getElem? (i := 72) rfl)) (by decide +kernel)
set_option maxRecDepth 20000 in
theorem wd_56 : Cond.methodLink "java/util/ArrayList" 1 yJxc12de_init_da8c8 ∈ GT := in_gt (in_t1 (List.mem_of_getElem? (i := 70) rfl)) (by decide +kernel)
set_option maxRecDepth 20000 in
theorem wd_57 : Cond.instanceMethod yJxc12de_init_da8c8 ∈ GT := in_gt (in_t1 (List.mem_of_getElem? (i := 71) rfl)) (by decide +kernel)
set_option maxRecDepth 20000 in
theorem wd_58 : Cond.initialized "java/util/AbstractList" ∈ GT := in_gt (in_t1 (List.mem_of_getElem? (i := 4) rfl)) (by decide +kernel)
set_option maxRecDepth 20000 in
theorem wd_59 : Cond.methodLink "java/util/AbstractCollection" 1 ⟨"java/lang/Object", "<init>", "()V"⟩ ∈ GT := in_gt (in_t1 (List.mem_of_getElem? (i := 76) rfl)) (by decide +kernel)
set_option maxRecDepth 20000 in
theorem wd_60 : Cond.instanceMethod ⟨"java/lang/Object", "<init>", "()V"⟩ ∈ GT := in_gt (in_t1 (List.mem_of_getElem? (i := 29) rfl)) (by decide +kernel)
set_option maxRecDepth 20000 in
theorem wd_61 : Cond.code Lib.objectInit ⟨#[0xb1]⟩ 1 none ∈ GT := in_gt (in_t1 (List.mem_of_getElem? (i := 30) rfl)) (by decide +kernel)
set_option maxRecDepth 20000 in
theorem wd_62 : Cond.code yJxa1e45_init_da8c8 cJxa1e45_init_da8c8 1 none ∈ GT := in_gt (in_t1 (List.mem_of_getElem? (i := 75) rfl)) (by decide +kernel)
set_option maxRecDepth 20000 in
theorem wd_63 : Cond.methodLink "java/util/AbstractList" 1 yJxa1e45_init_da8c8 ∈ GT := in_gt (in_t1 (List.mem_of_getElem? (i := 73) rfl)) (by decide +kernel)
set_option maxRecDepth 20000 in
theorem wd_64 : Cond.instanceMethod yJxa1e45_init_da8c8 ∈ GT := in_gt (in_t1 (List.mem_of_getElem? (i := 74) rfl)) (by decide +kernel)
set_option maxRecDepth 20000 in
theorem wd_65 : Cond.initialized "java/util/AbstractCollection" ∈ GT := in_gt (in_t1 (List.mem_of_getElem? (i := 3) rfl)) (by decide +kernel)
set_option maxRecDepth 20000 in
theorem wd_66 : Cond.fieldLink "java/util/AbstractList" 7 "java/util/AbstractList" "modCount" "I" ∈ GT := in_gt (in_t1 (List.mem_of_getElem? (i := 81) rfl)) (by decide +kernel)
set_option maxRecDepth 20000 in
theorem wd_67 : Cond.code yX4_addBadge cX4_addBadge 2 (some .int) ∈ GT := in_gt (in_t2 (List.mem_of_getElem? (i := 213) rfl)) (by decide +kernel)
set_option maxRecDepth 20000 in
theorem wd_68 : Cond.methodLink "BadgeZonesLaw" 37 yX4_addBadge ∈ GT := in_gt (in_t2 (List.mem_of_getElem? (i := 210) rfl)) (by decide +kernel)
set_option maxRecDepth 20000 in
theorem wd_69 : Cond.instanceMethod yX4_addBadge ∈ GT := in_gt (in_t2 (List.mem_of_getElem? (i := 211) rfl)) (by decide +kernel)
set_option maxRecDepth 20000 in
theorem wd_70 : Cond.selects "BadgeZones" yX4_addBadge yX4_addBadge ∈ GT := in_gt (in_t2 (List.mem_of_getElem? (i := 212) rfl)) (by decide +kernel)
set_option maxRecDepth 20000 in
theorem wd_71 : Cond.initialized "BadgeZones" ∈ GT := in_gt (in_t1 (List.mem_of_getElem? (i := 1) rfl)) (by decide +kernel)
set_option maxRecDepth 20000 in
theorem wd_72 : Cond.code yX4_addDoor cX4_addDoor 8 (some .int) ∈ GT := in_gt (in_t2 (List.mem_of_getElem? (i := 142) rfl)) (by decide +kernel)
set_option maxRecDepth 20000 in
theorem wd_73 : Cond.methodLink "BadgeZonesLaw" 23 yX4_addDoor ∈ GT := in_gt (in_t2 (List.mem_of_getElem? (i := 139) rfl)) (by decide +kernel)
set_option maxRecDepth 20000 in
theorem wd_74 : Cond.instanceMethod yX4_addDoor ∈ GT := in_gt (in_t2 (List.mem_of_getElem? (i := 140) rfl)) (by decide +kernel)
set_option maxRecDepth 20000 in
theorem wd_75 : Cond.selects "BadgeZones" yX4_addDoor yX4_addDoor ∈ GT := in_gt (in_t2 (List.mem_of_getElem? (i := 141) rfl)) (by decide +kernel)
set_option maxRecDepth 20000 in
theorem wd_76 : Cond.code yX4_addVisitor cX4_addVisitor 3 (some .int) ∈ GT := in_gt (in_t3 (List.mem_of_getElem? (i := 40) rfl)) (by decide +kernel)
set_option maxRecDepth 20000 in
theorem wd_77 : Cond.methodLink "BadgeZonesLaw" 40 yX4_addVisitor ∈ GT := in_gt (in_t3 (List.mem_of_getElem? (i := 37) rfl)) (by decide +kernel)
set_option maxRecDepth 20000 in
theorem wd_78 : Cond.instanceMethod yX4_addVisitor ∈ GT := in_gt (in_t3 (List.mem_of_getElem? (i := 38) rfl)) (by decide +kernel)
set_option maxRecDepth 20000 in
theorem wd_79 : Cond.selects "BadgeZones" yX4_addVisitor yX4_addVisitor ∈ GT := in_gt (in_t3 (List.mem_of_getElem? (i := 39) rfl)) (by decide +kernel)
set_option maxRecDepth 20000 in
theorem wd_80 : Cond.code yX4_addZone cX4_addZone 5 (some .int) ∈ GT := in_gt (in_t2 (List.mem_of_getElem? (i := 15) rfl)) (by decide +kernel)
set_option maxRecDepth 20000 in
theorem wd_81 : Cond.methodLink "BadgeZonesLaw" 7 yX4_addZone ∈ GT := in_gt (in_t2 (List.mem_of_getElem? (i := 12) rfl)) (by decide +kernel)
set_option maxRecDepth 20000 in
theorem wd_82 : Cond.instanceMethod yX4_addZone ∈ GT := in_gt (in_t2 (List.mem_of_getElem? (i := 13) rfl)) (by decide +kernel)
set_option maxRecDepth 20000 in
theorem wd_83 : Cond.selects "BadgeZones" yX4_addZone yX4_addZone ∈ GT := in_gt (in_t2 (List.mem_of_getElem? (i := 14) rfl)) (by decide +kernel)
set_option maxRecDepth 20000 in
theorem wd_84 : Cond.code yX4_badge cX4_badge 4 (some .int) ∈ GT := in_gt (in_t3 (List.mem_of_getElem? (i := 68) rfl)) (by decide +kernel)
set_option maxRecDepth 20000 in
theorem wd_85 : Cond.methodLink "BadgeZonesLaw" 51 yX4_badge ∈ GT := in_gt (in_t3 (List.mem_of_getElem? (i := 65) rfl)) (by decide +kernel)
set_option maxRecDepth 20000 in
theorem wd_86 : Cond.instanceMethod yX4_badge ∈ GT := in_gt (in_t3 (List.mem_of_getElem? (i := 66) rfl)) (by decide +kernel)
set_option maxRecDepth 20000 in
theorem wd_87 : Cond.selects "BadgeZones" yX4_badge yX4_badge ∈ GT := in_gt (in_t3 (List.mem_of_getElem? (i := 67) rfl)) (by decide +kernel)
set_option maxRecDepth 20000 in
theorem wd_88 : Cond.code yX4_block cX4_block 5 (some .boolean) ∈ GT := in_gt (in_t3 (List.mem_of_getElem? (i := 61) rfl)) (by decide +kernel)
set_option maxRecDepth 20000 in
theorem wd_89 : Cond.methodLink "BadgeZonesLaw" 47 yX4_block ∈ GT := in_gt (in_t3 (List.mem_of_getElem? (i := 58) rfl)) (by decide +kernel)
set_option maxRecDepth 20000 in
theorem wd_90 : Cond.instanceMethod yX4_block ∈ GT := in_gt (in_t3 (List.mem_of_getElem? (i := 59) rfl)) (by decide +kernel)
set_option maxRecDepth 20000 in
theorem wd_91 : Cond.selects "BadgeZones" yX4_block yX4_block ∈ GT := in_gt (in_t3 (List.mem_of_getElem? (i := 60) rfl)) (by decide +kernel)
set_option maxRecDepth 20000 in
theorem wd_92 : Cond.code yX4_canCome cX4_canCome 6 (some .int) ∈ GT := in_gt (in_t3 (List.mem_of_getElem? (i := 206) rfl)) (by decide +kernel)
set_option maxRecDepth 20000 in
theorem wd_93 : Cond.methodLink "BadgeZonesLaw" 78 yX4_canCome ∈ GT := in_gt (in_t3 (List.mem_of_getElem? (i := 203) rfl)) (by decide +kernel)
set_option maxRecDepth 20000 in
theorem wd_94 : Cond.instanceMethod yX4_canCome ∈ GT := in_gt (in_t3 (List.mem_of_getElem? (i := 204) rfl)) (by decide +kernel)
set_option maxRecDepth 20000 in
theorem wd_95 : Cond.selects "BadgeZones" yX4_canCome yX4_canCome ∈ GT := in_gt (in_t3 (List.mem_of_getElem? (i := 205) rfl)) (by decide +kernel)
set_option maxRecDepth 20000 in
theorem wd_96 : Cond.code yX4_distance cX4_distance 3 (some .int) ∈ GT := in_gt (in_t2 (List.mem_of_getElem? (i := 172) rfl)) (by decide +kernel)
set_option maxRecDepth 20000 in
theorem wd_97 : Cond.methodLink "BadgeZonesLaw" 26 yX4_distance ∈ GT := in_gt (in_t2 (List.mem_of_getElem? (i := 169) rfl)) (by decide +kernel)
set_option maxRecDepth 20000 in
theorem wd_98 : Cond.instanceMethod yX4_distance ∈ GT := in_gt (in_t2 (List.mem_of_getElem? (i := 170) rfl)) (by decide +kernel)
set_option maxRecDepth 20000 in
theorem wd_99 : Cond.selects "BadgeZones" yX4_distance yX4_distance ∈ GT := in_gt (in_t2 (List.mem_of_getElem? (i := 171) rfl)) (by decide +kernel)
set_option maxRecDepth 20000 in
theorem wd_100 : Cond.code yX4_inside cX4_inside 2 (some .int) ∈ GT := in_gt (in_t3 (List.mem_of_getElem? (i := 153) rfl)) (by decide +kernel)
set_option maxRecDepth 20000 in
theorem wd_101 : Cond.methodLink "BadgeZonesLaw" 63 yX4_inside ∈ GT := in_gt (in_t3 (List.mem_of_getElem? (i := 150) rfl)) (by decide +kernel)
set_option maxRecDepth 20000 in
theorem wd_102 : Cond.instanceMethod yX4_inside ∈ GT := in_gt (in_t3 (List.mem_of_getElem? (i := 151) rfl)) (by decide +kernel)
set_option maxRecDepth 20000 in
theorem wd_103 : Cond.selects "BadgeZones" yX4_inside yX4_inside ∈ GT := in_gt (in_t3 (List.mem_of_getElem? (i := 152) rfl)) (by decide +kernel)
set_option maxRecDepth 20000 in
theorem wd_104 : Cond.code yX4_isOpen cX4_isOpen 2 (some .boolean) ∈ GT := in_gt (in_t2 (List.mem_of_getElem? (i := 194) rfl)) (by decide +kernel)
set_option maxRecDepth 20000 in
theorem wd_105 : Cond.methodLink "BadgeZonesLaw" 30 yX4_isOpen ∈ GT := in_gt (in_t2 (List.mem_of_getElem? (i := 191) rfl)) (by decide +kernel)
set_option maxRecDepth 20000 in
theorem wd_106 : Cond.instanceMethod yX4_isOpen ∈ GT := in_gt (in_t2 (List.mem_of_getElem? (i := 192) rfl)) (by decide +kernel)
set_option maxRecDepth 20000 in
theorem wd_107 : Cond.selects "BadgeZones" yX4_isOpen yX4_isOpen ∈ GT := in_gt (in_t2 (List.mem_of_getElem? (i := 193) rfl)) (by decide +kernel)
set_option maxRecDepth 20000 in
theorem wd_108 : Cond.classLink "BadgeZonesLaw" 8 "BadgeZones" ∈ GT := in_gt (in_t1 (List.mem_of_getElem? (i := 23) rfl)) (by decide +kernel)
set_option maxRecDepth 20000 in
theorem wd_109 : Cond.code yX4_init cX4_init 1 none ∈ GT := in_gt (in_t1 (List.mem_of_getElem? (i := 27) rfl)) (by decide +kernel)
set_option maxRecDepth 20000 in
theorem wd_110 : Cond.methodLink "BadgeZonesLaw" 81 yX4_init ∈ GT := in_gt (in_t1 (List.mem_of_getElem? (i := 25) rfl)) (by decide +kernel)
set_option maxRecDepth 20000 in
theorem wd_111 : Cond.instanceMethod yX4_init ∈ GT := in_gt (in_t1 (List.mem_of_getElem? (i := 26) rfl)) (by decide +kernel)
set_option maxRecDepth 20000 in
theorem wd_112 : Cond.classLink "BadgeZonesLaw" 82 "BadgeZonesModel" ∈ GT := in_gt (in_t3 (List.mem_of_getElem? (i := 207) rfl)) (by decide +kernel)
set_option maxRecDepth 20000 in
theorem wd_113 : Cond.code yX5_init cX5_init 1 none ∈ GT := in_gt (in_t3 (List.mem_of_getElem? (i := 211) rfl)) (by decide +kernel)
set_option maxRecDepth 20000 in
theorem wd_114 : Cond.methodLink "BadgeZonesLaw" 84 yX5_init ∈ GT := in_gt (in_t3 (List.mem_of_getElem? (i := 209) rfl)) (by decide +kernel)
set_option maxRecDepth 20000 in
theorem wd_115 : Cond.instanceMethod yX5_init ∈ GT := in_gt (in_t3 (List.mem_of_getElem? (i := 210) rfl)) (by decide +kernel)
set_option maxRecDepth 20000 in
theorem wd_116 : Cond.initialized "BadgeZonesModel" ∈ GT := in_gt (in_t1 (List.mem_of_getElem? (i := 10) rfl)) (by decide +kernel)
set_option maxRecDepth 20000 in
theorem wd_117 : Cond.codeWith yL_addZone cL_addZone 6 (some .int) [(0, 12, 15, 13), (0, 12, 19, 15)] ∈ GT := in_gt (in_t2 (List.mem_of_getElem? (i := 9) rfl)) (by decide +kernel)
set_option maxRecDepth 20000 in
theorem wd_118 : Cond.methodLink "BadgeZonesLaw" 85 yL_addZone ∈ GT := in_gt (in_t2 (List.mem_of_getElem? (i := 7) rfl)) (by decide +kernel)
set_option maxRecDepth 20000 in
theorem wd_119 : Cond.static yL_addZone ∈ GT := in_gt (in_t2 (List.mem_of_getElem? (i := 8) rfl)) (by decide +kernel)
set_option maxRecDepth 20000 in
theorem wd_120 : Cond.initialized "BadgeZonesLaw" ∈ GT := in_gt (in_t1 (List.mem_of_getElem? (i := 0) rfl)) (by decide +kernel)
set_option maxRecDepth 20000 in
theorem wd_121 : Cond.code yX5_addZone cX5_addZone 4 (some .int) ∈ GT := in_gt (in_t4 (List.mem_of_getElem? (i := 43) rfl)) (by decide +kernel)
set_option maxRecDepth 20000 in
theorem wd_122 : Cond.methodLink "BadgeZonesLaw" 90 yX5_addZone ∈ GT := in_gt (in_t4 (List.mem_of_getElem? (i := 40) rfl)) (by decide +kernel)
set_option maxRecDepth 20000 in
theorem wd_123 : Cond.instanceMethod yX5_addZone ∈ GT := in_gt (in_t4 (List.mem_of_getElem? (i := 41) rfl)) (by decide +kernel)
set_option maxRecDepth 20000 in
theorem wd_124 : Cond.selects "BadgeZonesModel" yX5_addZone yX5_addZone ∈ GT := in_gt (in_t4 (List.mem_of_getElem? (i := 42) rfl)) (by decide +kernel)
set_option maxRecDepth 20000 in
theorem wd_125 : Cond.code yX5_thrown cX5_thrown 1 (some .int) ∈ GT := in_gt (in_t4 (List.mem_of_getElem? (i := 39) rfl)) (by decide +kernel)
set_option maxRecDepth 20000 in
theorem wd_126 : Cond.methodLink "BadgeZonesLaw" 91 yX5_thrown ∈ GT := in_gt (in_t4 (List.mem_of_getElem? (i := 36) rfl)) (by decide +kernel)
set_option maxRecDepth 20000 in
theorem wd_127 : Cond.instanceMethod yX5_thrown ∈ GT := in_gt (in_t4 (List.mem_of_getElem? (i := 37) rfl)) (by decide +kernel)
set_option maxRecDepth 20000 in
theorem wd_128 : Cond.selects "BadgeZonesModel" yX5_thrown yX5_thrown ∈ GT := in_gt (in_t4 (List.mem_of_getElem? (i := 38) rfl)) (by decide +kernel)
set_option maxRecDepth 20000 in
theorem wd_129 : Cond.codeWith yL_setZone cL_setZone 7 (some .int) [(0, 14, 17, 21), (0, 14, 21, 13)] ∈ GT := in_gt (in_t2 (List.mem_of_getElem? (i := 109) rfl)) (by decide +kernel)
set_option maxRecDepth 20000 in
theorem wd_130 : Cond.methodLink "BadgeZonesLaw" 95 yL_setZone ∈ GT := in_gt (in_t2 (List.mem_of_getElem? (i := 107) rfl)) (by decide +kernel)
set_option maxRecDepth 20000 in
theorem wd_131 : Cond.static yL_setZone ∈ GT := in_gt (in_t2 (List.mem_of_getElem? (i := 108) rfl)) (by decide +kernel)
set_option maxRecDepth 20000 in
theorem wd_132 : Cond.code yX5_setZone cX5_setZone 5 (some .int) ∈ GT := in_gt (in_t4 (List.mem_of_getElem? (i := 54) rfl)) (by decide +kernel)
set_option maxRecDepth 20000 in
theorem wd_133 : Cond.methodLink "BadgeZonesLaw" 98 yX5_setZone ∈ GT := in_gt (in_t4 (List.mem_of_getElem? (i := 51) rfl)) (by decide +kernel)
set_option maxRecDepth 20000 in
theorem wd_134 : Cond.instanceMethod yX5_setZone ∈ GT := in_gt (in_t4 (List.mem_of_getElem? (i := 52) rfl)) (by decide +kernel)
set_option maxRecDepth 20000 in
theorem wd_135 : Cond.selects "BadgeZonesModel" yX5_setZone yX5_setZone ∈ GT := in_gt (in_t4 (List.mem_of_getElem? (i := 53) rfl)) (by decide +kernel)
set_option maxRecDepth 20000 in
theorem wd_136 : Cond.codeWith yL_addDoor cL_addDoor 7 (some .int) [(0, 14, 17, 21), (0, 14, 21, 13), (0, 14, 25, 15)] ∈ GT := in_gt (in_t2 (List.mem_of_getElem? (i := 138) rfl)) (by decide +kernel)
set_option maxRecDepth 20000 in
theorem wd_137 : Cond.methodLink "BadgeZonesLaw" 99 yL_addDoor ∈ GT := in_gt (in_t2 (List.mem_of_getElem? (i := 136) rfl)) (by decide +kernel)
set_option maxRecDepth 20000 in
theorem wd_138 : Cond.static yL_addDoor ∈ GT := in_gt (in_t2 (List.mem_of_getElem? (i := 137) rfl)) (by decide +kernel)
set_option maxRecDepth 20000 in
theorem wd_139 : Cond.code yX5_addDoor cX5_addDoor 5 (some .int) ∈ GT := in_gt (in_t4 (List.mem_of_getElem? (i := 67) rfl)) (by decide +kernel)
set_option maxRecDepth 20000 in
theorem wd_140 : Cond.methodLink "BadgeZonesLaw" 101 yX5_addDoor ∈ GT := in_gt (in_t4 (List.mem_of_getElem? (i := 64) rfl)) (by decide +kernel)
set_option maxRecDepth 20000 in
theorem wd_141 : Cond.instanceMethod yX5_addDoor ∈ GT := in_gt (in_t4 (List.mem_of_getElem? (i := 65) rfl)) (by decide +kernel)
set_option maxRecDepth 20000 in
theorem wd_142 : Cond.selects "BadgeZonesModel" yX5_addDoor yX5_addDoor ∈ GT := in_gt (in_t4 (List.mem_of_getElem? (i := 66) rfl)) (by decide +kernel)
set_option maxRecDepth 20000 in
theorem wd_143 : Cond.codeWith yL_distance cL_distance 4 (some .int) [(0, 9, 12, 21)] ∈ GT := in_gt (in_t2 (List.mem_of_getElem? (i := 168) rfl)) (by decide +kernel)
set_option maxRecDepth 20000 in
theorem wd_144 : Cond.methodLink "BadgeZonesLaw" 102 yL_distance ∈ GT := in_gt (in_t2 (List.mem_of_getElem? (i := 166) rfl)) (by decide +kernel)
set_option maxRecDepth 20000 in
theorem wd_145 : Cond.static yL_distance ∈ GT := in_gt (in_t2 (List.mem_of_getElem? (i := 167) rfl)) (by decide +kernel)
set_option maxRecDepth 20000 in
theorem wd_146 : Cond.code yX5_distance cX5_distance 2 (some .int) ∈ GT := in_gt (in_t4 (List.mem_of_getElem? (i := 71) rfl)) (by decide +kernel)
set_option maxRecDepth 20000 in
theorem wd_147 : Cond.methodLink "BadgeZonesLaw" 105 yX5_distance ∈ GT := in_gt (in_t4 (List.mem_of_getElem? (i := 68) rfl)) (by decide +kernel)
set_option maxRecDepth 20000 in
theorem wd_148 : Cond.instanceMethod yX5_distance ∈ GT := in_gt (in_t4 (List.mem_of_getElem? (i := 69) rfl)) (by decide +kernel)
set_option maxRecDepth 20000 in
theorem wd_149 : Cond.selects "BadgeZonesModel" yX5_distance yX5_distance ∈ GT := in_gt (in_t4 (List.mem_of_getElem? (i := 70) rfl)) (by decide +kernel)
set_option maxRecDepth 20000 in
theorem wd_150 : Cond.codeWith yL_isOpen cL_isOpen 4 (some .int) [(0, 16, 19, 21)] ∈ GT := in_gt (in_t2 (List.mem_of_getElem? (i := 190) rfl)) (by decide +kernel)
set_option maxRecDepth 20000 in
theorem wd_151 : Cond.methodLink "BadgeZonesLaw" 106 yL_isOpen ∈ GT := in_gt (in_t2 (List.mem_of_getElem? (i := 188) rfl)) (by decide +kernel)
set_option maxRecDepth 20000 in
theorem wd_152 : Cond.static yL_isOpen ∈ GT := in_gt (in_t2 (List.mem_of_getElem? (i := 189) rfl)) (by decide +kernel)
set_option maxRecDepth 20000 in
theorem wd_153 : Cond.code yX5_isOpen cX5_isOpen 2 (some .boolean) ∈ GT := in_gt (in_t4 (List.mem_of_getElem? (i := 82) rfl)) (by decide +kernel)
set_option maxRecDepth 20000 in
theorem wd_154 : Cond.methodLink "BadgeZonesLaw" 108 yX5_isOpen ∈ GT := in_gt (in_t4 (List.mem_of_getElem? (i := 79) rfl)) (by decide +kernel)
set_option maxRecDepth 20000 in
theorem wd_155 : Cond.instanceMethod yX5_isOpen ∈ GT := in_gt (in_t4 (List.mem_of_getElem? (i := 80) rfl)) (by decide +kernel)
set_option maxRecDepth 20000 in
theorem wd_156 : Cond.selects "BadgeZonesModel" yX5_isOpen yX5_isOpen ∈ GT := in_gt (in_t4 (List.mem_of_getElem? (i := 81) rfl)) (by decide +kernel)
set_option maxRecDepth 20000 in
theorem wd_157 : Cond.codeWith yL_openFor cL_openFor 4 (some .int) [(0, 9, 12, 21)] ∈ GT := in_gt (in_t2 (List.mem_of_getElem? (i := 197) rfl)) (by decide +kernel)
set_option maxRecDepth 20000 in
theorem wd_158 : Cond.methodLink "BadgeZonesLaw" 109 yL_openFor ∈ GT := in_gt (in_t2 (List.mem_of_getElem? (i := 195) rfl)) (by decide +kernel)
set_option maxRecDepth 20000 in
theorem wd_159 : Cond.static yL_openFor ∈ GT := in_gt (in_t2 (List.mem_of_getElem? (i := 196) rfl)) (by decide +kernel)
set_option maxRecDepth 20000 in
theorem wd_160 : Cond.code yX5_openFor cX5_openFor 2 (some .int) ∈ GT := in_gt (in_t4 (List.mem_of_getElem? (i := 90) rfl)) (by decide +kernel)
set_option maxRecDepth 20000 in
theorem wd_161 : Cond.methodLink "BadgeZonesLaw" 111 yX5_openFor ∈ GT := in_gt (in_t4 (List.mem_of_getElem? (i := 87) rfl)) (by decide +kernel)
set_option maxRecDepth 20000 in
theorem wd_162 : Cond.instanceMethod yX5_openFor ∈ GT := in_gt (in_t4 (List.mem_of_getElem? (i := 88) rfl)) (by decide +kernel)
set_option maxRecDepth 20000 in
theorem wd_163 : Cond.selects "BadgeZonesModel" yX5_openFor yX5_openFor ∈ GT := in_gt (in_t4 (List.mem_of_getElem? (i := 89) rfl)) (by decide +kernel)
set_option maxRecDepth 20000 in
theorem wd_164 : Cond.codeWith yL_addBadge cL_addBadge 4 (some .int) [(0, 9, 12, 13), (0, 9, 15, 15)] ∈ GT := in_gt (in_t2 (List.mem_of_getElem? (i := 209) rfl)) (by decide +kernel)
set_option maxRecDepth 20000 in
theorem wd_165 : Cond.methodLink "BadgeZonesLaw" 112 yL_addBadge ∈ GT := in_gt (in_t2 (List.mem_of_getElem? (i := 207) rfl)) (by decide +kernel)
set_option maxRecDepth 20000 in
theorem wd_166 : Cond.static yL_addBadge ∈ GT := in_gt (in_t2 (List.mem_of_getElem? (i := 208) rfl)) (by decide +kernel)
set_option maxRecDepth 20000 in
theorem wd_167 : Cond.code yX5_addBadge cX5_addBadge 2 (some .int) ∈ GT := in_gt (in_t4 (List.mem_of_getElem? (i := 103) rfl)) (by decide +kernel)
set_option maxRecDepth 20000 in
theorem wd_168 : Cond.methodLink "BadgeZonesLaw" 114 yX5_addBadge ∈ GT := in_gt (in_t4 (List.mem_of_getElem? (i := 100) rfl)) (by decide +kernel)
set_option maxRecDepth 20000 in
theorem wd_169 : Cond.instanceMethod yX5_addBadge ∈ GT := in_gt (in_t4 (List.mem_of_getElem? (i := 101) rfl)) (by decide +kernel)
set_option maxRecDepth 20000 in
theorem wd_170 : Cond.selects "BadgeZonesModel" yX5_addBadge yX5_addBadge ∈ GT := in_gt (in_t4 (List.mem_of_getElem? (i := 102) rfl)) (by decide +kernel)
set_option maxRecDepth 20000 in
theorem wd_171 : Cond.codeWith yL_addVisitor cL_addVisitor 4 (some .int) [(0, 9, 12, 21), (0, 9, 15, 13), (0, 9, 18, 15)] ∈ GT := in_gt (in_t3 (List.mem_of_getElem? (i := 36) rfl)) (by decide +kernel)
set_option maxRecDepth 20000 in
theorem wd_172 : Cond.methodLink "BadgeZonesLaw" 115 yL_addVisitor ∈ GT := in_gt (in_t3 (List.mem_of_getElem? (i := 34) rfl)) (by decide +kernel)
set_option maxRecDepth 20000 in
theorem wd_173 : Cond.static yL_addVisitor ∈ GT := in_gt (in_t3 (List.mem_of_getElem? (i := 35) rfl)) (by decide +kernel)
set_option maxRecDepth 20000 in
theorem wd_174 : Cond.code yX5_addVisitor cX5_addVisitor 2 (some .int) ∈ GT := in_gt (in_t4 (List.mem_of_getElem? (i := 111) rfl)) (by decide +kernel)
set_option maxRecDepth 20000 in
theorem wd_175 : Cond.methodLink "BadgeZonesLaw" 117 yX5_addVisitor ∈ GT := in_gt (in_t4 (List.mem_of_getElem? (i := 108) rfl)) (by decide +kernel)
set_option maxRecDepth 20000 in
theorem wd_176 : Cond.instanceMethod yX5_addVisitor ∈ GT := in_gt (in_t4 (List.mem_of_getElem? (i := 109) rfl)) (by decide +kernel)
set_option maxRecDepth 20000 in
theorem wd_177 : Cond.selects "BadgeZonesModel" yX5_addVisitor yX5_addVisitor ∈ GT := in_gt (in_t4 (List.mem_of_getElem? (i := 110) rfl)) (by decide +kernel)
set_option maxRecDepth 20000 in
theorem wd_178 : Cond.codeWith yL_setRights cL_setRights 5 (some .int) [(0, 10, 13, 21), (0, 10, 17, 13), (0, 10, 21, 15)] ∈ GT := in_gt (in_t3 (List.mem_of_getElem? (i := 49) rfl)) (by decide +kernel)
set_option maxRecDepth 20000 in
theorem wd_179 : Cond.methodLink "BadgeZonesLaw" 118 yL_setRights ∈ GT := in_gt (in_t3 (List.mem_of_getElem? (i := 47) rfl)) (by decide +kernel)
set_option maxRecDepth 20000 in
theorem wd_180 : Cond.static yL_setRights ∈ GT := in_gt (in_t3 (List.mem_of_getElem? (i := 48) rfl)) (by decide +kernel)
set_option maxRecDepth 20000 in
theorem wd_181 : Cond.code yX5_setRights cX5_setRights 4 (some .int) ∈ GT := in_gt (in_t4 (List.mem_of_getElem? (i := 119) rfl)) (by decide +kernel)
set_option maxRecDepth 20000 in
theorem wd_182 : Cond.methodLink "BadgeZonesLaw" 121 yX5_setRights ∈ GT := in_gt (in_t4 (List.mem_of_getElem? (i := 116) rfl)) (by decide +kernel)
set_option maxRecDepth 20000 in
theorem wd_183 : Cond.instanceMethod yX5_setRights ∈ GT := in_gt (in_t4 (List.mem_of_getElem? (i := 117) rfl)) (by decide +kernel)
set_option maxRecDepth 20000 in
theorem wd_184 : Cond.selects "BadgeZonesModel" yX5_setRights yX5_setRights ∈ GT := in_gt (in_t4 (List.mem_of_getElem? (i := 118) rfl)) (by decide +kernel)
set_option maxRecDepth 20000 in
theorem wd_185 : Cond.codeWith yL_block cL_block 5 (some .int) [(0, 17, 20, 21)] ∈ GT := in_gt (in_t3 (List.mem_of_getElem? (i := 57) rfl)) (by decide +kernel)
set_option maxRecDepth 20000 in
theorem wd_186 : Cond.methodLink "BadgeZonesLaw" 122 yL_block ∈ GT := in_gt (in_t3 (List.mem_of_getElem? (i := 55) rfl)) (by decide +kernel)
set_option maxRecDepth 20000 in
theorem wd_187 : Cond.static yL_block ∈ GT := in_gt (in_t3 (List.mem_of_getElem? (i := 56) rfl)) (by decide +kernel)
set_option maxRecDepth 20000 in
theorem wd_188 : Cond.code yX5_block cX5_block 4 (some .boolean) ∈ GT := in_gt (in_t4 (List.mem_of_getElem? (i := 123) rfl)) (by decide +kernel)
set_option maxRecDepth 20000 in
theorem wd_189 : Cond.methodLink "BadgeZonesLaw" 125 yX5_block ∈ GT := in_gt (in_t4 (List.mem_of_getElem? (i := 120) rfl)) (by decide +kernel)
set_option maxRecDepth 20000 in
theorem wd_190 : Cond.instanceMethod yX5_block ∈ GT := in_gt (in_t4 (List.mem_of_getElem? (i := 121) rfl)) (by decide +kernel)
set_option maxRecDepth 20000 in
theorem wd_191 : Cond.selects "BadgeZonesModel" yX5_block yX5_block ∈ GT := in_gt (in_t4 (List.mem_of_getElem? (i := 122) rfl)) (by decide +kernel)
set_option maxRecDepth 20000 in
theorem wd_192 : Cond.codeWith yL_badge cL_badge 5 (some .int) [(0, 10, 13, 21)] ∈ GT := in_gt (in_t3 (List.mem_of_getElem? (i := 64) rfl)) (by decide +kernel)
set_option maxRecDepth 20000 in
theorem wd_193 : Cond.methodLink "BadgeZonesLaw" 126 yL_badge ∈ GT := in_gt (in_t3 (List.mem_of_getElem? (i := 62) rfl)) (by decide +kernel)
set_option maxRecDepth 20000 in
theorem wd_194 : Cond.static yL_badge ∈ GT := in_gt (in_t3 (List.mem_of_getElem? (i := 63) rfl)) (by decide +kernel)
set_option maxRecDepth 20000 in
theorem wd_195 : Cond.code yX5_badge cX5_badge 3 (some .int) ∈ GT := in_gt (in_t4 (List.mem_of_getElem? (i := 127) rfl)) (by decide +kernel)
set_option maxRecDepth 20000 in
theorem wd_196 : Cond.methodLink "BadgeZonesLaw" 128 yX5_badge ∈ GT := in_gt (in_t4 (List.mem_of_getElem? (i := 124) rfl)) (by decide +kernel)
set_option maxRecDepth 20000 in
theorem wd_197 : Cond.instanceMethod yX5_badge ∈ GT := in_gt (in_t4 (List.mem_of_getElem? (i := 125) rfl)) (by decide +kernel)
set_option maxRecDepth 20000 in
theorem wd_198 : Cond.selects "BadgeZonesModel" yX5_badge yX5_badge ∈ GT := in_gt (in_t4 (List.mem_of_getElem? (i := 126) rfl)) (by decide +kernel)
set_option maxRecDepth 20000 in
theorem wd_199 : Cond.codeWith yL_tick cL_tick 4 (some .int) [(0, 9, 12, 13), (0, 9, 15, 15)] ∈ GT := in_gt (in_t3 (List.mem_of_getElem? (i := 72) rfl)) (by decide +kernel)
set_option maxRecDepth 20000 in
theorem wd_200 : Cond.methodLink "BadgeZonesLaw" 129 yL_tick ∈ GT := in_gt (in_t3 (List.mem_of_getElem? (i := 70) rfl)) (by decide +kernel)
set_option maxRecDepth 20000 in
theorem wd_201 : Cond.static yL_tick ∈ GT := in_gt (in_t3 (List.mem_of_getElem? (i := 71) rfl)) (by decide +kernel)
set_option maxRecDepth 20000 in
theorem wd_202 : Cond.code yX5_tick cX5_tick 2 (some .int) ∈ GT := in_gt (in_t4 (List.mem_of_getElem? (i := 139) rfl)) (by decide +kernel)
set_option maxRecDepth 20000 in
theorem wd_203 : Cond.methodLink "BadgeZonesLaw" 131 yX5_tick ∈ GT := in_gt (in_t4 (List.mem_of_getElem? (i := 136) rfl)) (by decide +kernel)
set_option maxRecDepth 20000 in
theorem wd_204 : Cond.instanceMethod yX5_tick ∈ GT := in_gt (in_t4 (List.mem_of_getElem? (i := 137) rfl)) (by decide +kernel)
set_option maxRecDepth 20000 in
theorem wd_205 : Cond.selects "BadgeZonesModel" yX5_tick yX5_tick ∈ GT := in_gt (in_t4 (List.mem_of_getElem? (i := 138) rfl)) (by decide +kernel)
set_option maxRecDepth 20000 in
theorem wd_206 : Cond.code yX4_alarm cX4_alarm 3 (some .boolean) ∈ GT := in_gt (in_t1 (List.mem_of_getElem? (i := 170) rfl)) (by decide +kernel)
set_option maxRecDepth 20000 in
theorem wd_207 : Cond.methodLink "BadgeZonesLaw" 132 yX4_alarm ∈ GT := in_gt (in_t1 (List.mem_of_getElem? (i := 167) rfl)) (by decide +kernel)
set_option maxRecDepth 20000 in
theorem wd_208 : Cond.instanceMethod yX4_alarm ∈ GT := in_gt (in_t1 (List.mem_of_getElem? (i := 168) rfl)) (by decide +kernel)
set_option maxRecDepth 20000 in
theorem wd_209 : Cond.selects "BadgeZones" yX4_alarm yX4_alarm ∈ GT := in_gt (in_t1 (List.mem_of_getElem? (i := 169) rfl)) (by decide +kernel)
set_option maxRecDepth 20000 in
theorem wd_210 : Cond.code yX5_alarm cX5_alarm 3 (some .boolean) ∈ GT := in_gt (in_t4 (List.mem_of_getElem? (i := 144) rfl)) (by decide +kernel)
set_option maxRecDepth 20000 in
theorem wd_211 : Cond.methodLink "BadgeZonesLaw" 136 yX5_alarm ∈ GT := in_gt (in_t4 (List.mem_of_getElem? (i := 141) rfl)) (by decide +kernel)
set_option maxRecDepth 20000 in
theorem wd_212 : Cond.instanceMethod yX5_alarm ∈ GT := in_gt (in_t4 (List.mem_of_getElem? (i := 142) rfl)) (by decide +kernel)
set_option maxRecDepth 20000 in
theorem wd_213 : Cond.selects "BadgeZonesModel" yX5_alarm yX5_alarm ∈ GT := in_gt (in_t4 (List.mem_of_getElem? (i := 143) rfl)) (by decide +kernel)
set_option maxRecDepth 20000 in
theorem wd_214 : Cond.codeWith yL_request cL_request 5 (some .int) [(0, 10, 13, 21)] ∈ GT := in_gt (in_t3 (List.mem_of_getElem? (i := 82) rfl)) (by decide +kernel)
set_option maxRecDepth 20000 in
theorem wd_215 : Cond.methodLink "BadgeZonesLaw" 137 yL_request ∈ GT := in_gt (in_t3 (List.mem_of_getElem? (i := 80) rfl)) (by decide +kernel)
set_option maxRecDepth 20000 in
theorem wd_216 : Cond.static yL_request ∈ GT := in_gt (in_t3 (List.mem_of_getElem? (i := 81) rfl)) (by decide +kernel)
set_option maxRecDepth 20000 in
theorem wd_217 : Cond.code yX5_request cX5_request 4 (some .int) ∈ GT := in_gt (in_t4 (List.mem_of_getElem? (i := 148) rfl)) (by decide +kernel)
set_option maxRecDepth 20000 in
theorem wd_218 : Cond.methodLink "BadgeZonesLaw" 139 yX5_request ∈ GT := in_gt (in_t4 (List.mem_of_getElem? (i := 145) rfl)) (by decide +kernel)
set_option maxRecDepth 20000 in
theorem wd_219 : Cond.instanceMethod yX5_request ∈ GT := in_gt (in_t4 (List.mem_of_getElem? (i := 146) rfl)) (by decide +kernel)
set_option maxRecDepth 20000 in
theorem wd_220 : Cond.selects "BadgeZonesModel" yX5_request yX5_request ∈ GT := in_gt (in_t4 (List.mem_of_getElem? (i := 147) rfl)) (by decide +kernel)
set_option maxRecDepth 20000 in
theorem wd_221 : Cond.codeWith yL_wouldBe cL_wouldBe 5 (some .int) [(0, 10, 13, 21)] ∈ GT := in_gt (in_t3 (List.mem_of_getElem? (i := 142) rfl)) (by decide +kernel)
set_option maxRecDepth 20000 in
theorem wd_222 : Cond.methodLink "BadgeZonesLaw" 140 yL_wouldBe ∈ GT := in_gt (in_t3 (List.mem_of_getElem? (i := 140) rfl)) (by decide +kernel)
set_option maxRecDepth 20000 in
theorem wd_223 : Cond.static yL_wouldBe ∈ GT := in_gt (in_t3 (List.mem_of_getElem? (i := 141) rfl)) (by decide +kernel)
set_option maxRecDepth 20000 in
theorem wd_224 : Cond.code yX5_wouldBe cX5_wouldBe 3 (some .int) ∈ GT := in_gt (in_t4 (List.mem_of_getElem? (i := 181) rfl)) (by decide +kernel)
set_option maxRecDepth 20000 in
theorem wd_225 : Cond.methodLink "BadgeZonesLaw" 142 yX5_wouldBe ∈ GT := in_gt (in_t4 (List.mem_of_getElem? (i := 178) rfl)) (by decide +kernel)
set_option maxRecDepth 20000 in
theorem wd_226 : Cond.instanceMethod yX5_wouldBe ∈ GT := in_gt (in_t4 (List.mem_of_getElem? (i := 179) rfl)) (by decide +kernel)
set_option maxRecDepth 20000 in
theorem wd_227 : Cond.selects "BadgeZonesModel" yX5_wouldBe yX5_wouldBe ∈ GT := in_gt (in_t4 (List.mem_of_getElem? (i := 180) rfl)) (by decide +kernel)
set_option maxRecDepth 20000 in
theorem wd_228 : Cond.code yX4_now cX4_now 1 (some .int) ∈ GT := in_gt (in_t1 (List.mem_of_getElem? (i := 174) rfl)) (by decide +kernel)
set_option maxRecDepth 20000 in
theorem wd_229 : Cond.methodLink "BadgeZonesLaw" 143 yX4_now ∈ GT := in_gt (in_t1 (List.mem_of_getElem? (i := 171) rfl)) (by decide +kernel)
set_option maxRecDepth 20000 in
theorem wd_230 : Cond.instanceMethod yX4_now ∈ GT := in_gt (in_t1 (List.mem_of_getElem? (i := 172) rfl)) (by decide +kernel)
set_option maxRecDepth 20000 in
theorem wd_231 : Cond.selects "BadgeZones" yX4_now yX4_now ∈ GT := in_gt (in_t1 (List.mem_of_getElem? (i := 173) rfl)) (by decide +kernel)
set_option maxRecDepth 20000 in
theorem wd_232 : Cond.code yX5_now cX5_now 1 (some .int) ∈ GT := in_gt (in_t4 (List.mem_of_getElem? (i := 185) rfl)) (by decide +kernel)
set_option maxRecDepth 20000 in
theorem wd_233 : Cond.methodLink "BadgeZonesLaw" 146 yX5_now ∈ GT := in_gt (in_t4 (List.mem_of_getElem? (i := 182) rfl)) (by decide +kernel)
set_option maxRecDepth 20000 in
theorem wd_234 : Cond.instanceMethod yX5_now ∈ GT := in_gt (in_t4 (List.mem_of_getElem? (i := 183) rfl)) (by decide +kernel)
set_option maxRecDepth 20000 in
theorem wd_235 : Cond.selects "BadgeZonesModel" yX5_now yX5_now ∈ GT := in_gt (in_t4 (List.mem_of_getElem? (i := 184) rfl)) (by decide +kernel)
set_option maxRecDepth 20000 in
theorem wd_236 : Cond.codeWith yL_inside cL_inside 4 (some .int) [(0, 9, 12, 21)] ∈ GT := in_gt (in_t3 (List.mem_of_getElem? (i := 149) rfl)) (by decide +kernel)
set_option maxRecDepth 20000 in
theorem wd_237 : Cond.methodLink "BadgeZonesLaw" 147 yL_inside ∈ GT := in_gt (in_t3 (List.mem_of_getElem? (i := 147) rfl)) (by decide +kernel)
set_option maxRecDepth 20000 in
theorem wd_238 : Cond.static yL_inside ∈ GT := in_gt (in_t3 (List.mem_of_getElem? (i := 148) rfl)) (by decide +kernel)
set_option maxRecDepth 20000 in
theorem wd_239 : Cond.code yX5_inside cX5_inside 2 (some .int) ∈ GT := in_gt (in_t4 (List.mem_of_getElem? (i := 189) rfl)) (by decide +kernel)
set_option maxRecDepth 20000 in
theorem wd_240 : Cond.methodLink "BadgeZonesLaw" 149 yX5_inside ∈ GT := in_gt (in_t4 (List.mem_of_getElem? (i := 186) rfl)) (by decide +kernel)
set_option maxRecDepth 20000 in
theorem wd_241 : Cond.instanceMethod yX5_inside ∈ GT := in_gt (in_t4 (List.mem_of_getElem? (i := 187) rfl)) (by decide +kernel)
set_option maxRecDepth 20000 in
theorem wd_242 : Cond.selects "BadgeZonesModel" yX5_inside yX5_inside ∈ GT := in_gt (in_t4 (List.mem_of_getElem? (i := 188) rfl)) (by decide +kernel)
set_option maxRecDepth 20000 in
theorem wd_243 : Cond.code yX4_alone cX4_alone 3 (some .int) ∈ GT := in_gt (in_t1 (List.mem_of_getElem? (i := 178) rfl)) (by decide +kernel)
set_option maxRecDepth 20000 in
theorem wd_244 : Cond.methodLink "BadgeZonesLaw" 150 yX4_alone ∈ GT := in_gt (in_t1 (List.mem_of_getElem? (i := 175) rfl)) (by decide +kernel)
set_option maxRecDepth 20000 in
theorem wd_245 : Cond.instanceMethod yX4_alone ∈ GT := in_gt (in_t1 (List.mem_of_getElem? (i := 176) rfl)) (by decide +kernel)
set_option maxRecDepth 20000 in
theorem wd_246 : Cond.selects "BadgeZones" yX4_alone yX4_alone ∈ GT := in_gt (in_t1 (List.mem_of_getElem? (i := 177) rfl)) (by decide +kernel)
set_option maxRecDepth 20000 in
theorem wd_247 : Cond.code yX5_alone cX5_alone 3 (some .int) ∈ GT := in_gt (in_t4 (List.mem_of_getElem? (i := 193) rfl)) (by decide +kernel)
set_option maxRecDepth 20000 in
theorem wd_248 : Cond.methodLink "BadgeZonesLaw" 153 yX5_alone ∈ GT := in_gt (in_t4 (List.mem_of_getElem? (i := 190) rfl)) (by decide +kernel)
set_option maxRecDepth 20000 in
theorem wd_249 : Cond.instanceMethod yX5_alone ∈ GT := in_gt (in_t4 (List.mem_of_getElem? (i := 191) rfl)) (by decide +kernel)
set_option maxRecDepth 20000 in
theorem wd_250 : Cond.selects "BadgeZonesModel" yX5_alone yX5_alone ∈ GT := in_gt (in_t4 (List.mem_of_getElem? (i := 192) rfl)) (by decide +kernel)
set_option maxRecDepth 20000 in
theorem wd_251 : Cond.codeWith yL_wasIn cL_wasIn 5 (some .int) [(0, 10, 13, 21), (0, 10, 17, 13)] ∈ GT := in_gt (in_t3 (List.mem_of_getElem? (i := 156) rfl)) (by decide +kernel)
set_option maxRecDepth 20000 in
theorem wd_252 : Cond.methodLink "BadgeZonesLaw" 154 yL_wasIn ∈ GT := in_gt (in_t3 (List.mem_of_getElem? (i := 154) rfl)) (by decide +kernel)
set_option maxRecDepth 20000 in
theorem wd_253 : Cond.static yL_wasIn ∈ GT := in_gt (in_t3 (List.mem_of_getElem? (i := 155) rfl)) (by decide +kernel)
set_option maxRecDepth 20000 in
theorem wd_254 : Cond.code yX5_wasIn cX5_wasIn 5 (some .int) ∈ GT := in_gt (in_t4 (List.mem_of_getElem? (i := 197) rfl)) (by decide +kernel)
set_option maxRecDepth 20000 in
theorem wd_255 : Cond.methodLink "BadgeZonesLaw" 156 yX5_wasIn ∈ GT := in_gt (in_t4 (List.mem_of_getElem? (i := 194) rfl)) (by decide +kernel)
set_option maxRecDepth 20000 in
theorem wd_256 : Cond.instanceMethod yX5_wasIn ∈ GT := in_gt (in_t4 (List.mem_of_getElem? (i := 195) rfl)) (by decide +kernel)
set_option maxRecDepth 20000 in
theorem wd_257 : Cond.selects "BadgeZonesModel" yX5_wasIn yX5_wasIn ∈ GT := in_gt (in_t4 (List.mem_of_getElem? (i := 196) rfl)) (by decide +kernel)
set_option maxRecDepth 20000 in
theorem wd_258 : Cond.codeWith yL_minutesIn cL_minutesIn 5 (some .int) [(0, 10, 13, 21)] ∈ GT := in_gt (in_t3 (List.mem_of_getElem? (i := 169) rfl)) (by decide +kernel)
set_option maxRecDepth 20000 in
theorem wd_259 : Cond.methodLink "BadgeZonesLaw" 157 yL_minutesIn ∈ GT := in_gt (in_t3 (List.mem_of_getElem? (i := 167) rfl)) (by decide +kernel)
set_option maxRecDepth 20000 in
theorem wd_260 : Cond.static yL_minutesIn ∈ GT := in_gt (in_t3 (List.mem_of_getElem? (i := 168) rfl)) (by decide +kernel)
set_option maxRecDepth 20000 in
theorem wd_261 : Cond.code yX5_minutesIn cX5_minutesIn 7 (some .int) ∈ GT := in_gt (in_t4 (List.mem_of_getElem? (i := 201) rfl)) (by decide +kernel)
set_option maxRecDepth 20000 in
theorem wd_262 : Cond.methodLink "BadgeZonesLaw" 159 yX5_minutesIn ∈ GT := in_gt (in_t4 (List.mem_of_getElem? (i := 198) rfl)) (by decide +kernel)
set_option maxRecDepth 20000 in
theorem wd_263 : Cond.instanceMethod yX5_minutesIn ∈ GT := in_gt (in_t4 (List.mem_of_getElem? (i := 199) rfl)) (by decide +kernel)
set_option maxRecDepth 20000 in
theorem wd_264 : Cond.selects "BadgeZonesModel" yX5_minutesIn yX5_minutesIn ∈ GT := in_gt (in_t4 (List.mem_of_getElem? (i := 200) rfl)) (by decide +kernel)
set_option maxRecDepth 20000 in
theorem wd_265 : Cond.code yX4_presence cX4_presence 2 (some .double) ∈ GT := in_gt (in_t1 (List.mem_of_getElem? (i := 205) rfl)) (by decide +kernel)
set_option maxRecDepth 20000 in
theorem wd_266 : Cond.methodLink "BadgeZonesLaw" 160 yX4_presence ∈ GT := in_gt (in_t1 (List.mem_of_getElem? (i := 202) rfl)) (by decide +kernel)
set_option maxRecDepth 20000 in
theorem wd_267 : Cond.instanceMethod yX4_presence ∈ GT := in_gt (in_t1 (List.mem_of_getElem? (i := 203) rfl)) (by decide +kernel)
set_option maxRecDepth 20000 in
theorem wd_268 : Cond.selects "BadgeZones" yX4_presence yX4_presence ∈ GT := in_gt (in_t1 (List.mem_of_getElem? (i := 204) rfl)) (by decide +kernel)
set_option maxRecDepth 20000 in
theorem wd_269 : Cond.code yX5_presence cX5_presence 1 (some .double) ∈ GT := in_gt (in_t4 (List.mem_of_getElem? (i := 205) rfl)) (by decide +kernel)
set_option maxRecDepth 20000 in
theorem wd_270 : Cond.methodLink "BadgeZonesLaw" 164 yX5_presence ∈ GT := in_gt (in_t4 (List.mem_of_getElem? (i := 202) rfl)) (by decide +kernel)
set_option maxRecDepth 20000 in
theorem wd_271 : Cond.instanceMethod yX5_presence ∈ GT := in_gt (in_t4 (List.mem_of_getElem? (i := 203) rfl)) (by decide +kernel)
set_option maxRecDepth 20000 in
theorem wd_272 : Cond.selects "BadgeZonesModel" yX5_presence yX5_presence ∈ GT := in_gt (in_t4 (List.mem_of_getElem? (i := 204) rfl)) (by decide +kernel)
set_option maxRecDepth 20000 in
theorem wd_273 : Cond.codeWith yL_way cL_way 5 (some .int) [(0, 10, 13, 21)] ∈ GT := in_gt (in_t3 (List.mem_of_getElem? (i := 180) rfl)) (by decide +kernel)
set_option maxRecDepth 20000 in
theorem wd_274 : Cond.methodLink "BadgeZonesLaw" 165 yL_way ∈ GT := in_gt (in_t3 (List.mem_of_getElem? (i := 178) rfl)) (by decide +kernel)
set_option maxRecDepth 20000 in
theorem wd_275 : Cond.static yL_way ∈ GT := in_gt (in_t3 (List.mem_of_getElem? (i := 179) rfl)) (by decide +kernel)
set_option maxRecDepth 20000 in
theorem wd_276 : Cond.code yX5_way cX5_way 3 (some .int) ∈ GT := in_gt (in_t4 (List.mem_of_getElem? (i := 209) rfl)) (by decide +kernel)
set_option maxRecDepth 20000 in
theorem wd_277 : Cond.methodLink "BadgeZonesLaw" 167 yX5_way ∈ GT := in_gt (in_t4 (List.mem_of_getElem? (i := 206) rfl)) (by decide +kernel)
set_option maxRecDepth 20000 in
theorem wd_278 : Cond.instanceMethod yX5_way ∈ GT := in_gt (in_t4 (List.mem_of_getElem? (i := 207) rfl)) (by decide +kernel)
set_option maxRecDepth 20000 in
theorem wd_279 : Cond.selects "BadgeZonesModel" yX5_way yX5_way ∈ GT := in_gt (in_t4 (List.mem_of_getElem? (i := 208) rfl)) (by decide +kernel)
set_option maxRecDepth 20000 in
theorem wd_280 : Cond.codeWith yL_next cL_next 5 (some .int) [(0, 10, 13, 21)] ∈ GT := in_gt (in_t3 (List.mem_of_getElem? (i := 191) rfl)) (by decide +kernel)
set_option maxRecDepth 20000 in
theorem wd_281 : Cond.methodLink "BadgeZonesLaw" 168 yL_next ∈ GT := in_gt (in_t3 (List.mem_of_getElem? (i := 189) rfl)) (by decide +kernel)
set_option maxRecDepth 20000 in
theorem wd_282 : Cond.static yL_next ∈ GT := in_gt (in_t3 (List.mem_of_getElem? (i := 190) rfl)) (by decide +kernel)
set_option maxRecDepth 20000 in
theorem wd_283 : Cond.code yX5_next cX5_next 7 (some .int) ∈ GT := in_gt (in_t4 (List.mem_of_getElem? (i := 221) rfl)) (by decide +kernel)
set_option maxRecDepth 20000 in
theorem wd_284 : Cond.methodLink "BadgeZonesLaw" 170 yX5_next ∈ GT := in_gt (in_t4 (List.mem_of_getElem? (i := 218) rfl)) (by decide +kernel)
set_option maxRecDepth 20000 in
theorem wd_285 : Cond.instanceMethod yX5_next ∈ GT := in_gt (in_t4 (List.mem_of_getElem? (i := 219) rfl)) (by decide +kernel)
set_option maxRecDepth 20000 in
theorem wd_286 : Cond.selects "BadgeZonesModel" yX5_next yX5_next ∈ GT := in_gt (in_t4 (List.mem_of_getElem? (i := 220) rfl)) (by decide +kernel)
set_option maxRecDepth 20000 in
theorem wd_287 : Cond.codeWith yL_canCome cL_canCome 4 (some .int) [(0, 9, 12, 21)] ∈ GT := in_gt (in_t3 (List.mem_of_getElem? (i := 202) rfl)) (by decide +kernel)
set_option maxRecDepth 20000 in
theorem wd_288 : Cond.methodLink "BadgeZonesLaw" 171 yL_canCome ∈ GT := in_gt (in_t3 (List.mem_of_getElem? (i := 200) rfl)) (by decide +kernel)
set_option maxRecDepth 20000 in
theorem wd_289 : Cond.static yL_canCome ∈ GT := in_gt (in_t3 (List.mem_of_getElem? (i := 201) rfl)) (by decide +kernel)
set_option maxRecDepth 20000 in
theorem wd_290 : Cond.code yX5_canCome cX5_canCome 4 (some .int) ∈ GT := in_gt (in_t4 (List.mem_of_getElem? (i := 225) rfl)) (by decide +kernel)
set_option maxRecDepth 20000 in
theorem wd_291 : Cond.methodLink "BadgeZonesLaw" 173 yX5_canCome ∈ GT := in_gt (in_t4 (List.mem_of_getElem? (i := 222) rfl)) (by decide +kernel)
set_option maxRecDepth 20000 in
theorem wd_292 : Cond.instanceMethod yX5_canCome ∈ GT := in_gt (in_t4 (List.mem_of_getElem? (i := 223) rfl)) (by decide +kernel)
set_option maxRecDepth 20000 in
theorem wd_293 : Cond.selects "BadgeZonesModel" yX5_canCome yX5_canCome ∈ GT := in_gt (in_t4 (List.mem_of_getElem? (i := 224) rfl)) (by decide +kernel)
set_option maxRecDepth 20000 in
theorem wd_294 : Cond.code yX4_digest cX4_digest 6 (some .long) ∈ GT := in_gt (in_t1 (List.mem_of_getElem? (i := 223) rfl)) (by decide +kernel)
set_option maxRecDepth 20000 in
theorem wd_295 : Cond.methodLink "BadgeZonesLaw" 174 yX4_digest ∈ GT := in_gt (in_t1 (List.mem_of_getElem? (i := 220) rfl)) (by decide +kernel)
set_option maxRecDepth 20000 in
theorem wd_296 : Cond.instanceMethod yX4_digest ∈ GT := in_gt (in_t1 (List.mem_of_getElem? (i := 221) rfl)) (by decide +kernel)
set_option maxRecDepth 20000 in
theorem wd_297 : Cond.selects "BadgeZones" yX4_digest yX4_digest ∈ GT := in_gt (in_t1 (List.mem_of_getElem? (i := 222) rfl)) (by decide +kernel)
set_option maxRecDepth 20000 in
theorem wd_298 : Cond.code yX5_digest cX5_digest 5 (some .long) ∈ GT := in_gt (in_t4 (List.mem_of_getElem? (i := 229) rfl)) (by decide +kernel)
set_option maxRecDepth 20000 in
theorem wd_299 : Cond.methodLink "BadgeZonesLaw" 178 yX5_digest ∈ GT := in_gt (in_t4 (List.mem_of_getElem? (i := 226) rfl)) (by decide +kernel)
set_option maxRecDepth 20000 in
theorem wd_300 : Cond.instanceMethod yX5_digest ∈ GT := in_gt (in_t4 (List.mem_of_getElem? (i := 227) rfl)) (by decide +kernel)
set_option maxRecDepth 20000 in
theorem wd_301 : Cond.selects "BadgeZonesModel" yX5_digest yX5_digest ∈ GT := in_gt (in_t4 (List.mem_of_getElem? (i := 228) rfl)) (by decide +kernel)
set_option maxRecDepth 20000 in
theorem wd_302 : Cond.code yX4_minutesIn cX4_minutesIn 4 (some .int) ∈ GT := in_gt (in_t3 (List.mem_of_getElem? (i := 173) rfl)) (by decide +kernel)
set_option maxRecDepth 20000 in
theorem wd_303 : Cond.methodLink "BadgeZonesLaw" 69 yX4_minutesIn ∈ GT := in_gt (in_t3 (List.mem_of_getElem? (i := 170) rfl)) (by decide +kernel)
set_option maxRecDepth 20000 in
theorem wd_304 : Cond.instanceMethod yX4_minutesIn ∈ GT := in_gt (in_t3 (List.mem_of_getElem? (i := 171) rfl)) (by decide +kernel)
set_option maxRecDepth 20000 in
theorem wd_305 : Cond.selects "BadgeZones" yX4_minutesIn yX4_minutesIn ∈ GT := in_gt (in_t3 (List.mem_of_getElem? (i := 172) rfl)) (by decide +kernel)
set_option maxRecDepth 20000 in
theorem wd_306 : Cond.code yX4_next cX4_next 4 (some .int) ∈ GT := in_gt (in_t3 (List.mem_of_getElem? (i := 195) rfl)) (by decide +kernel)
set_option maxRecDepth 20000 in
theorem wd_307 : Cond.methodLink "BadgeZonesLaw" 75 yX4_next ∈ GT := in_gt (in_t3 (List.mem_of_getElem? (i := 192) rfl)) (by decide +kernel)
set_option maxRecDepth 20000 in
theorem wd_308 : Cond.instanceMethod yX4_next ∈ GT := in_gt (in_t3 (List.mem_of_getElem? (i := 193) rfl)) (by decide +kernel)
set_option maxRecDepth 20000 in
theorem wd_309 : Cond.selects "BadgeZones" yX4_next yX4_next ∈ GT := in_gt (in_t3 (List.mem_of_getElem? (i := 194) rfl)) (by decide +kernel)
set_option maxRecDepth 20000 in
theorem wd_310 : Cond.code yX4_openFor cX4_openFor 2 (some .int) ∈ GT := in_gt (in_t2 (List.mem_of_getElem? (i := 201) rfl)) (by decide +kernel)
set_option maxRecDepth 20000 in
theorem wd_311 : Cond.methodLink "BadgeZonesLaw" 34 yX4_openFor ∈ GT := in_gt (in_t2 (List.mem_of_getElem? (i := 198) rfl)) (by decide +kernel)
set_option maxRecDepth 20000 in
theorem wd_312 : Cond.instanceMethod yX4_openFor ∈ GT := in_gt (in_t2 (List.mem_of_getElem? (i := 199) rfl)) (by decide +kernel)
set_option maxRecDepth 20000 in
theorem wd_313 : Cond.selects "BadgeZones" yX4_openFor yX4_openFor ∈ GT := in_gt (in_t2 (List.mem_of_getElem? (i := 200) rfl)) (by decide +kernel)
set_option maxRecDepth 20000 in
theorem wd_314 : Cond.code yX4_request cX4_request 6 (some .int) ∈ GT := in_gt (in_t3 (List.mem_of_getElem? (i := 86) rfl)) (by decide +kernel)
set_option maxRecDepth 20000 in
theorem wd_315 : Cond.methodLink "BadgeZonesLaw" 57 yX4_request ∈ GT := in_gt (in_t3 (List.mem_of_getElem? (i := 83) rfl)) (by decide +kernel)
set_option maxRecDepth 20000 in
theorem wd_316 : Cond.instanceMethod yX4_request ∈ GT := in_gt (in_t3 (List.mem_of_getElem? (i := 84) rfl)) (by decide +kernel)
set_option maxRecDepth 20000 in
theorem wd_317 : Cond.selects "BadgeZones" yX4_request yX4_request ∈ GT := in_gt (in_t3 (List.mem_of_getElem? (i := 85) rfl)) (by decide +kernel)
set_option maxRecDepth 20000 in
theorem wd_318 : Cond.code yX4_setRights cX4_setRights 5 (some .int) ∈ GT := in_gt (in_t3 (List.mem_of_getElem? (i := 53) rfl)) (by decide +kernel)
set_option maxRecDepth 20000 in
theorem wd_319 : Cond.methodLink "BadgeZonesLaw" 43 yX4_setRights ∈ GT := in_gt (in_t3 (List.mem_of_getElem? (i := 50) rfl)) (by decide +kernel)
set_option maxRecDepth 20000 in
theorem wd_320 : Cond.instanceMethod yX4_setRights ∈ GT := in_gt (in_t3 (List.mem_of_getElem? (i := 51) rfl)) (by decide +kernel)
set_option maxRecDepth 20000 in
theorem wd_321 : Cond.selects "BadgeZones" yX4_setRights yX4_setRights ∈ GT := in_gt (in_t3 (List.mem_of_getElem? (i := 52) rfl)) (by decide +kernel)
set_option maxRecDepth 20000 in
theorem wd_322 : Cond.code yX4_setZone cX4_setZone 6 (some .int) ∈ GT := in_gt (in_t2 (List.mem_of_getElem? (i := 114) rfl)) (by decide +kernel)
set_option maxRecDepth 20000 in
theorem wd_323 : Cond.methodLink "BadgeZonesLaw" 17 yX4_setZone ∈ GT := in_gt (in_t2 (List.mem_of_getElem? (i := 111) rfl)) (by decide +kernel)
set_option maxRecDepth 20000 in
theorem wd_324 : Cond.instanceMethod yX4_setZone ∈ GT := in_gt (in_t2 (List.mem_of_getElem? (i := 112) rfl)) (by decide +kernel)
set_option maxRecDepth 20000 in
theorem wd_325 : Cond.selects "BadgeZones" yX4_setZone yX4_setZone ∈ GT := in_gt (in_t2 (List.mem_of_getElem? (i := 113) rfl)) (by decide +kernel)
set_option maxRecDepth 20000 in
theorem wd_326 : Cond.code yX4_tick cX4_tick 2 (some .int) ∈ GT := in_gt (in_t3 (List.mem_of_getElem? (i := 76) rfl)) (by decide +kernel)
set_option maxRecDepth 20000 in
theorem wd_327 : Cond.methodLink "BadgeZonesLaw" 54 yX4_tick ∈ GT := in_gt (in_t3 (List.mem_of_getElem? (i := 73) rfl)) (by decide +kernel)
set_option maxRecDepth 20000 in
theorem wd_328 : Cond.instanceMethod yX4_tick ∈ GT := in_gt (in_t3 (List.mem_of_getElem? (i := 74) rfl)) (by decide +kernel)
set_option maxRecDepth 20000 in
theorem wd_329 : Cond.selects "BadgeZones" yX4_tick yX4_tick ∈ GT := in_gt (in_t3 (List.mem_of_getElem? (i := 75) rfl)) (by decide +kernel)
set_option maxRecDepth 20000 in
theorem wd_330 : Cond.code yX4_wasIn cX4_wasIn 4 (some .int) ∈ GT := in_gt (in_t3 (List.mem_of_getElem? (i := 160) rfl)) (by decide +kernel)
set_option maxRecDepth 20000 in
theorem wd_331 : Cond.methodLink "BadgeZonesLaw" 66 yX4_wasIn ∈ GT := in_gt (in_t3 (List.mem_of_getElem? (i := 157) rfl)) (by decide +kernel)
set_option maxRecDepth 20000 in
theorem wd_332 : Cond.instanceMethod yX4_wasIn ∈ GT := in_gt (in_t3 (List.mem_of_getElem? (i := 158) rfl)) (by decide +kernel)
set_option maxRecDepth 20000 in
theorem wd_333 : Cond.selects "BadgeZones" yX4_wasIn yX4_wasIn ∈ GT := in_gt (in_t3 (List.mem_of_getElem? (i := 159) rfl)) (by decide +kernel)
set_option maxRecDepth 20000 in
theorem wd_334 : Cond.code yX4_way cX4_way 4 (some .int) ∈ GT := in_gt (in_t3 (List.mem_of_getElem? (i := 184) rfl)) (by decide +kernel)
set_option maxRecDepth 20000 in
theorem wd_335 : Cond.methodLink "BadgeZonesLaw" 72 yX4_way ∈ GT := in_gt (in_t3 (List.mem_of_getElem? (i := 181) rfl)) (by decide +kernel)
set_option maxRecDepth 20000 in
theorem wd_336 : Cond.instanceMethod yX4_way ∈ GT := in_gt (in_t3 (List.mem_of_getElem? (i := 182) rfl)) (by decide +kernel)
set_option maxRecDepth 20000 in
theorem wd_337 : Cond.selects "BadgeZones" yX4_way yX4_way ∈ GT := in_gt (in_t3 (List.mem_of_getElem? (i := 183) rfl)) (by decide +kernel)
set_option maxRecDepth 20000 in
theorem wd_338 : Cond.code yX4_wouldBe cX4_wouldBe 4 (some .int) ∈ GT := in_gt (in_t3 (List.mem_of_getElem? (i := 146) rfl)) (by decide +kernel)
set_option maxRecDepth 20000 in
theorem wd_339 : Cond.methodLink "BadgeZonesLaw" 60 yX4_wouldBe ∈ GT := in_gt (in_t3 (List.mem_of_getElem? (i := 143) rfl)) (by decide +kernel)
set_option maxRecDepth 20000 in
theorem wd_340 : Cond.instanceMethod yX4_wouldBe ∈ GT := in_gt (in_t3 (List.mem_of_getElem? (i := 144) rfl)) (by decide +kernel)
set_option maxRecDepth 20000 in
theorem wd_341 : Cond.selects "BadgeZones" yX4_wouldBe yX4_wouldBe ∈ GT := in_gt (in_t3 (List.mem_of_getElem? (i := 145) rfl)) (by decide +kernel)
set_option maxRecDepth 20000 in
theorem wd_342 : Cond.fieldLink "BadgeZones$Badge" 22 "BadgeZones$Badge" "refusals" "I" ∈ GT := in_gt (in_t3 (List.mem_of_getElem? (i := 17) rfl)) (by decide +kernel)
set_option maxRecDepth 20000 in
theorem wd_343 : Cond.fieldLink "BadgeZones$Badge" 18 "BadgeZones$Badge" "isBlocked" "Z" ∈ GT := in_gt (in_t3 (List.mem_of_getElem? (i := 15) rfl)) (by decide +kernel)
set_option maxRecDepth 20000 in
theorem wd_344 : Cond.fieldLink "BadgeZones$Badge" 41 "BadgeZones$Badge" "stay" "LBadgeZones$Stay;" ∈ GT := in_gt (in_t3 (List.mem_of_getElem? (i := 11) rfl)) (by decide +kernel)
set_option maxRecDepth 20000 in
theorem wd_345 : Cond.fieldLink "BadgeZones$Badge" 60 "BadgeZones$Stay" "since" "I" ∈ GT := in_gt (in_t3 (List.mem_of_getElem? (i := 0) rfl)) (by decide +kernel)
set_option maxRecDepth 20000 in
theorem wd_346 : Cond.fieldLink "BadgeZones$Badge" 12 "BadgeZones$Badge" "stays" "Ljava/util/ArrayList;" ∈ GT := in_gt (in_t3 (List.mem_of_getElem? (i := 10) rfl)) (by decide +kernel)
set_option maxRecDepth 20000 in
theorem wd_347 : Cond.code yJx4a65c_size_8abf5 cJx4a65c_size_8abf5 1 (some .int) ∈ GT := in_gt (in_t1 (List.mem_of_getElem? (i := 182) rfl)) (by decide +kernel)
set_option maxRecDepth 20000 in
theorem wd_348 : Cond.methodLink "BadgeZones$Badge" 63 yJx4a65c_size_8abf5 ∈ GT := in_gt (in_t3 (List.mem_of_getElem? (i := 131) rfl)) (by decide +kernel)
set_option maxRecDepth 20000 in
theorem wd_349 : Cond.instanceMethod yJx4a65c_size_8abf5 ∈ GT := in_gt (in_t1 (List.mem_of_getElem? (i := 180) rfl)) (by decide +kernel)
set_option maxRecDepth 20000 in
theorem wd_350 : Cond.selects "java/util/ArrayList" yJx4a65c_size_8abf5 yJx4a65c_size_8abf5 ∈ GT := in_gt (in_t1 (List.mem_of_getElem? (i := 181) rfl)) (by decide +kernel)
set_option maxRecDepth 20000 in
theorem wd_351 : Cond.fieldLink "BadgeZones$Badge" 56 "BadgeZones$Stay" "zone" "LBadgeZones$Zone;" ∈ GT := in_gt (in_t2 (List.mem_of_getElem? (i := 237) rfl)) (by decide +kernel)
set_option maxRecDepth 20000 in
theorem wd_352 : Cond.classLink "BadgeZones$Badge" 36 "BadgeZones$Stay" ∈ GT := in_gt (in_t2 (List.mem_of_getElem? (i := 230) rfl)) (by decide +kernel)
set_option maxRecDepth 20000 in
theorem wd_353 : Cond.code yX2_init cX2_init 3 none ∈ GT := in_gt (in_t2 (List.mem_of_getElem? (i := 234) rfl)) (by decide +kernel)
set_option maxRecDepth 20000 in
theorem wd_354 : Cond.methodLink "BadgeZones$Badge" 38 yX2_init ∈ GT := in_gt (in_t2 (List.mem_of_getElem? (i := 232) rfl)) (by decide +kernel)
set_option maxRecDepth 20000 in
theorem wd_355 : Cond.instanceMethod yX2_init ∈ GT := in_gt (in_t2 (List.mem_of_getElem? (i := 233) rfl)) (by decide +kernel)
set_option maxRecDepth 20000 in
theorem wd_356 : Cond.initialized "BadgeZones$Stay" ∈ GT := in_gt (in_t1 (List.mem_of_getElem? (i := 22) rfl)) (by decide +kernel)
set_option maxRecDepth 20000 in
theorem wd_357 : Cond.code yJx4a65c_add_9ea2d cJx4a65c_add_9ea2d 2 (some .boolean) ∈ GT := in_gt (in_t1 (List.mem_of_getElem? (i := 94) rfl)) (by decide +kernel)
set_option maxRecDepth 20000 in
theorem wd_358 : Cond.methodLink "BadgeZones$Badge" 45 yJx4a65c_add_9ea2d ∈ GT := in_gt (in_t3 (List.mem_of_getElem? (i := 6) rfl)) (by decide +kernel)
set_option maxRecDepth 20000 in
theorem wd_359 : Cond.instanceMethod yJx4a65c_add_9ea2d ∈ GT := in_gt (in_t1 (List.mem_of_getElem? (i := 92) rfl)) (by decide +kernel)
set_option maxRecDepth 20000 in
theorem wd_360 : Cond.selects "java/util/ArrayList" yJx4a65c_add_9ea2d yJx4a65c_add_9ea2d ∈ GT := in_gt (in_t1 (List.mem_of_getElem? (i := 93) rfl)) (by decide +kernel)
set_option maxRecDepth 20000 in
theorem wd_361 : Cond.fieldLink "BadgeZones$Badge" 49 "BadgeZones$Zone" "number" "I" ∈ GT := in_gt (in_t1 (List.mem_of_getElem? (i := 38) rfl)) (by decide +kernel)
set_option maxRecDepth 20000 in
theorem wd_362 : Cond.code yX0_rightsNow cX0_rightsNow 1 (some .int) ∈ GT := in_gt (in_t2 (List.mem_of_getElem? (i := 6) rfl)) (by decide +kernel)
set_option maxRecDepth 20000 in
theorem wd_363 : Cond.methodLink "BadgeZones$Badge" 52 yX0_rightsNow ∈ GT := in_gt (in_t2 (List.mem_of_getElem? (i := 3) rfl)) (by decide +kernel)
set_option maxRecDepth 20000 in
theorem wd_364 : Cond.instanceMethod yX0_rightsNow ∈ GT := in_gt (in_t2 (List.mem_of_getElem? (i := 4) rfl)) (by decide +kernel)
set_option maxRecDepth 20000 in
theorem wd_365 : Cond.selects "BadgeZones$Badge" yX0_rightsNow yX0_rightsNow ∈ GT := in_gt (in_t2 (List.mem_of_getElem? (i := 5) rfl)) (by decide +kernel)
set_option maxRecDepth 20000 in
theorem wd_366 : Cond.initialized "BadgeZones$Badge" ∈ GT := in_gt (in_t1 (List.mem_of_getElem? (i := 21) rfl)) (by decide +kernel)
set_option maxRecDepth 20000 in
theorem wd_367 : Cond.methodLink "BadgeZones$Badge" 3 ⟨"java/lang/Object", "<init>", "()V"⟩ ∈ GT := in_gt (in_t2 (List.mem_of_getElem? (i := 227) rfl)) (by decide +kernel)
set_option maxRecDepth 20000 in
theorem wd_368 : Cond.classLink "BadgeZones$Badge" 9 "java/util/ArrayList" ∈ GT := in_gt (in_t2 (List.mem_of_getElem? (i := 228) rfl)) (by decide +kernel)
set_option maxRecDepth 20000 in
theorem wd_369 : Cond.code yJx4a65c_init_da8c8 cJx4a65c_init_da8c8 1 none ∈ GT := in_gt (in_t1 (List.mem_of_getElem? (i := 69) rfl)) (by decide +kernel)
set_option maxRecDepth 20000 in
theorem wd_370 : Cond.methodLink "BadgeZones$Badge" 11 yJx4a65c_init_da8c8 ∈ GT := in_gt (in_t2 (List.mem_of_getElem? (i := 229) rfl)) (by decide +kernel)
set_option maxRecDepth 20000 in
theorem wd_371 : Cond.instanceMethod yJx4a65c_init_da8c8 ∈ GT := in_gt (in_t1 (List.mem_of_getElem? (i := 68) rfl)) (by decide +kernel)
set_option maxRecDepth 20000 in
theorem wd_372 : Cond.fieldLink "BadgeZones$Badge" 26 "BadgeZones$Badge" "number" "I" ∈ GT := in_gt (in_t3 (List.mem_of_getElem? (i := 7) rfl)) (by decide +kernel)
set_option maxRecDepth 20000 in
theorem wd_373 : Cond.fieldLink "BadgeZones$Badge" 29 "BadgeZones$Badge" "host" "LBadgeZones$Badge;" ∈ GT := in_gt (in_t3 (List.mem_of_getElem? (i := 8) rfl)) (by decide +kernel)
set_option maxRecDepth 20000 in
theorem wd_374 : Cond.fieldLink "BadgeZones$Badge" 33 "BadgeZones$Badge" "ownRights" "I" ∈ GT := in_gt (in_t3 (List.mem_of_getElem? (i := 13) rfl)) (by decide +kernel)
set_option maxRecDepth 20000 in
theorem wd_375 : Cond.code yJx4a65c_get_915e3 cJx4a65c_get_915e3 2 (some (.object "java/lang/Object")) ∈ GT := in_gt (in_t1 (List.mem_of_getElem? (i := 186) rfl)) (by decide +kernel)
set_option maxRecDepth 20000 in
theorem wd_376 : Cond.methodLink "BadgeZones$Badge" 66 yJx4a65c_get_915e3 ∈ GT := in_gt (in_t3 (List.mem_of_getElem? (i := 166) rfl)) (by decide +kernel)
set_option maxRecDepth 20000 in
theorem wd_377 : Cond.instanceMethod yJx4a65c_get_915e3 ∈ GT := in_gt (in_t1 (List.mem_of_getElem? (i := 184) rfl)) (by decide +kernel)
set_option maxRecDepth 20000 in
theorem wd_378 : Cond.selects "java/util/ArrayList" yJx4a65c_get_915e3 yJx4a65c_get_915e3 ∈ GT := in_gt (in_t1 (List.mem_of_getElem? (i := 185) rfl)) (by decide +kernel)
set_option maxRecDepth 20000 in
theorem wd_379 : Cond.fieldLink "BadgeZones$Door" 25 "BadgeZones$Door" "lock" "I" ∈ GT := in_gt (in_t2 (List.mem_of_getElem? (i := 153) rfl)) (by decide +kernel)
set_option maxRecDepth 20000 in
theorem wd_380 : Cond.methodLink "BadgeZones$Door" 3 ⟨"java/lang/Object", "<init>", "()V"⟩ ∈ GT := in_gt (in_t2 (List.mem_of_getElem? (i := 149) rfl)) (by decide +kernel)
set_option maxRecDepth 20000 in
theorem wd_381 : Cond.fieldLink "BadgeZones$Door" 9 "BadgeZones$Door" "openUntil" "I" ∈ GT := in_gt (in_t2 (List.mem_of_getElem? (i := 154) rfl)) (by decide +kernel)
set_option maxRecDepth 20000 in
theorem wd_382 : Cond.fieldLink "BadgeZones$Door" 15 "BadgeZones$Door" "sideA" "LBadgeZones$Zone;" ∈ GT := in_gt (in_t2 (List.mem_of_getElem? (i := 150) rfl)) (by decide +kernel)
set_option maxRecDepth 20000 in
theorem wd_383 : Cond.fieldLink "BadgeZones$Door" 19 "BadgeZones$Door" "sideB" "LBadgeZones$Zone;" ∈ GT := in_gt (in_t2 (List.mem_of_getElem? (i := 151) rfl)) (by decide +kernel)
set_option maxRecDepth 20000 in
theorem wd_384 : Cond.fieldLink "BadgeZones$Door" 22 "BadgeZones$Door" "hold" "I" ∈ GT := in_gt (in_t2 (List.mem_of_getElem? (i := 152) rfl)) (by decide +kernel)
set_option maxRecDepth 20000 in
theorem wd_385 : Cond.code yX1_measureFrom cX1_measureFrom 3 none ∈ GT := in_gt (in_t2 (List.mem_of_getElem? (i := 187) rfl)) (by decide +kernel)
set_option maxRecDepth 20000 in
theorem wd_386 : Cond.methodLink "BadgeZones$Door" 34 yX1_measureFrom ∈ GT := in_gt (in_t2 (List.mem_of_getElem? (i := 185) rfl)) (by decide +kernel)
set_option maxRecDepth 20000 in
theorem wd_387 : Cond.static yX1_measureFrom ∈ GT := in_gt (in_t2 (List.mem_of_getElem? (i := 186) rfl)) (by decide +kernel)
set_option maxRecDepth 20000 in
theorem wd_388 : Cond.initialized "BadgeZones$Door" ∈ GT := in_gt (in_t1 (List.mem_of_getElem? (i := 20) rfl)) (by decide +kernel)
set_option maxRecDepth 20000 in
theorem wd_389 : Cond.fieldLink "BadgeZones$Door" 38 "BadgeZones$Zone" "isOnTheWay" "Z" ∈ GT := in_gt (in_t1 (List.mem_of_getElem? (i := 47) rfl)) (by decide +kernel)
set_option maxRecDepth 20000 in
theorem wd_390 : Cond.fieldLink "BadgeZones$Door" 44 "BadgeZones$Zone" "doorsLeft" "I" ∈ GT := in_gt (in_t1 (List.mem_of_getElem? (i := 51) rfl)) (by decide +kernel)
set_option maxRecDepth 20000 in
theorem wd_391 : Cond.methodLink "BadgeZones$Door" 28 yJ9_max_7cf53 ∈ GT := in_gt (in_t1 (List.mem_of_getElem? (i := 238) rfl)) (by decide +kernel)
set_option maxRecDepth 20000 in
theorem wd_392 : Cond.methodLink "BadgeZones$Stay" 1 ⟨"java/lang/Object", "<init>", "()V"⟩ ∈ GT := in_gt (in_t2 (List.mem_of_getElem? (i := 235) rfl)) (by decide +kernel)
set_option maxRecDepth 20000 in
theorem wd_393 : Cond.fieldLink "BadgeZones$Stay" 7 "BadgeZones$Stay" "zone" "LBadgeZones$Zone;" ∈ GT := in_gt (in_t2 (List.mem_of_getElem? (i := 236) rfl)) (by decide +kernel)
set_option maxRecDepth 20000 in
theorem wd_394 : Cond.fieldLink "BadgeZones$Stay" 13 "BadgeZones$Stay" "since" "I" ∈ GT := in_gt (in_t2 (List.mem_of_getElem? (i := 239) rfl)) (by decide +kernel)
set_option maxRecDepth 20000 in
theorem wd_395 : Cond.fieldLink "BadgeZones$Zone" 28 "BadgeZones$Zone" "end" "I" ∈ GT := in_gt (in_t1 (List.mem_of_getElem? (i := 44) rfl)) (by decide +kernel)
set_option maxRecDepth 20000 in
theorem wd_396 : Cond.fieldLink "BadgeZones$Zone" 25 "BadgeZones$Zone" "begin" "I" ∈ GT := in_gt (in_t1 (List.mem_of_getElem? (i := 42) rfl)) (by decide +kernel)
set_option maxRecDepth 20000 in
theorem wd_397 : Cond.methodLink "BadgeZones$Zone" 3 ⟨"java/lang/Object", "<init>", "()V"⟩ ∈ GT := in_gt (in_t1 (List.mem_of_getElem? (i := 36) rfl)) (by decide +kernel)
set_option maxRecDepth 20000 in
theorem wd_398 : Cond.fieldLink "BadgeZones$Zone" 9 "BadgeZones$Zone" "isOnTheWay" "Z" ∈ GT := in_gt (in_t1 (List.mem_of_getElem? (i := 46) rfl)) (by decide +kernel)
set_option maxRecDepth 20000 in
theorem wd_399 : Cond.fieldLink "BadgeZones$Zone" 15 "BadgeZones$Zone" "doorsLeft" "I" ∈ GT := in_gt (in_t1 (List.mem_of_getElem? (i := 49) rfl)) (by decide +kernel)
set_option maxRecDepth 20000 in
theorem wd_400 : Cond.fieldLink "BadgeZones$Zone" 19 "BadgeZones$Zone" "number" "I" ∈ GT := in_gt (in_t1 (List.mem_of_getElem? (i := 37) rfl)) (by decide +kernel)
set_option maxRecDepth 20000 in
theorem wd_401 : Cond.fieldLink "BadgeZones$Zone" 22 "BadgeZones$Zone" "capacity" "I" ∈ GT := in_gt (in_t1 (List.mem_of_getElem? (i := 40) rfl)) (by decide +kernel)
set_option maxRecDepth 20000 in
theorem wd_402 : Cond.code yX4_checkRights cX4_checkRights 1 none ∈ GT := in_gt (in_t2 (List.mem_of_getElem? (i := 216) rfl)) (by decide +kernel)
set_option maxRecDepth 20000 in
theorem wd_403 : Cond.methodLink "BadgeZones" 114 yX4_checkRights ∈ GT := in_gt (in_t2 (List.mem_of_getElem? (i := 214) rfl)) (by decide +kernel)
set_option maxRecDepth 20000 in
theorem wd_404 : Cond.static yX4_checkRights ∈ GT := in_gt (in_t2 (List.mem_of_getElem? (i := 215) rfl)) (by decide +kernel)
set_option maxRecDepth 20000 in
theorem wd_405 : Cond.code yX4_keepBadge cX4_keepBadge 4 (some .int) ∈ GT := in_gt (in_t2 (List.mem_of_getElem? (i := 221) rfl)) (by decide +kernel)
set_option maxRecDepth 20000 in
theorem wd_406 : Cond.methodLink "BadgeZones" 118 yX4_keepBadge ∈ GT := in_gt (in_t2 (List.mem_of_getElem? (i := 218) rfl)) (by decide +kernel)
set_option maxRecDepth 20000 in
theorem wd_407 : Cond.instanceMethod yX4_keepBadge ∈ GT := in_gt (in_t2 (List.mem_of_getElem? (i := 220) rfl)) (by decide +kernel)
set_option maxRecDepth 20000 in
theorem wd_408 : Cond.selects "BadgeZones" yX4_keepBadge yX4_keepBadge ∈ GT := in_gt (List.mem_append_left _ (List.mem_map.mpr ⟨_, lw_pv 10 rfl, rfl⟩)) (by decide +kernel)
set_option maxRecDepth 20000 in
theorem wd_409 : Cond.code yX4_zoneAt cX4_zoneAt 2 (some (.object "BadgeZones$Zone")) ∈ GT := in_gt (in_t2 (List.mem_of_getElem? (i := 118) rfl)) (by decide +kernel)
set_option maxRecDepth 20000 in
theorem wd_410 : Cond.methodLink "BadgeZones" 58 yX4_zoneAt ∈ GT := in_gt (in_t2 (List.mem_of_getElem? (i := 115) rfl)) (by decide +kernel)
set_option maxRecDepth 20000 in
theorem wd_411 : Cond.instanceMethod yX4_zoneAt ∈ GT := in_gt (in_t2 (List.mem_of_getElem? (i := 117) rfl)) (by decide +kernel)
set_option maxRecDepth 20000 in
theorem wd_412 : Cond.selects "BadgeZones" yX4_zoneAt yX4_zoneAt ∈ GT := in_gt (List.mem_append_left _ (List.mem_map.mpr ⟨_, lw_pv 6 rfl, rfl⟩)) (by decide +kernel)
set_option maxRecDepth 20000 in
theorem wd_413 : Cond.code yX4_isWithin cX4_isWithin 3 (some .boolean) ∈ GT := in_gt (in_t2 (List.mem_of_getElem? (i := 21) rfl)) (by decide +kernel)
set_option maxRecDepth 20000 in
theorem wd_414 : Cond.methodLink "BadgeZones" 80 yX4_isWithin ∈ GT := in_gt (in_t2 (List.mem_of_getElem? (i := 19) rfl)) (by decide +kernel)
set_option maxRecDepth 20000 in
theorem wd_415 : Cond.static yX4_isWithin ∈ GT := in_gt (in_t2 (List.mem_of_getElem? (i := 20) rfl)) (by decide +kernel)
set_option maxRecDepth 20000 in
theorem wd_416 : Cond.classLink "BadgeZones" 84 "java/lang/IllegalArgumentException" ∈ GT := in_gt (in_t2 (List.mem_of_getElem? (i := 22) rfl)) (by decide +kernel)
set_option maxRecDepth 20000 in
theorem wd_417 : Cond.fieldLink "BadgeZones" 25 "BadgeZones" "doors" "Ljava/util/ArrayList;" ∈ GT := in_gt (in_t1 (List.mem_of_getElem? (i := 150) rfl)) (by decide +kernel)
set_option maxRecDepth 20000 in
theorem wd_418 : Cond.methodLink "BadgeZones" 47 yJx4a65c_size_8abf5 ∈ GT := in_gt (in_t1 (List.mem_of_getElem? (i := 179) rfl)) (by decide +kernel)
set_option maxRecDepth 20000 in
theorem wd_419 : Cond.classLink "BadgeZones" 51 "java/lang/IllegalStateException" ∈ GT := in_gt (in_t2 (List.mem_of_getElem? (i := 91) rfl)) (by decide +kernel)
set_option maxRecDepth 20000 in
theorem wd_420 : Cond.classLink "BadgeZones" 91 "BadgeZones$Door" ∈ GT := in_gt (in_t1 (List.mem_of_getElem? (i := 233) rfl)) (by decide +kernel)
set_option maxRecDepth 20000 in
theorem wd_421 : Cond.code yX1_init cX1_init 5 none ∈ GT := in_gt (in_t2 (List.mem_of_getElem? (i := 148) rfl)) (by decide +kernel)
set_option maxRecDepth 20000 in
theorem wd_422 : Cond.methodLink "BadgeZones" 93 yX1_init ∈ GT := in_gt (in_t2 (List.mem_of_getElem? (i := 146) rfl)) (by decide +kernel)
set_option maxRecDepth 20000 in
theorem wd_423 : Cond.instanceMethod yX1_init ∈ GT := in_gt (in_t2 (List.mem_of_getElem? (i := 147) rfl)) (by decide +kernel)
set_option maxRecDepth 20000 in
theorem wd_424 : Cond.methodLink "BadgeZones" 39 yJx4a65c_add_9ea2d ∈ GT := in_gt (in_t1 (List.mem_of_getElem? (i := 91) rfl)) (by decide +kernel)
set_option maxRecDepth 20000 in
theorem wd_425 : Cond.constantLong "BadgeZones" 228 (31) ∈ GT := in_gt (in_t1 (List.mem_of_getElem? (i := 228) rfl)) (by decide +kernel)
set_option maxRecDepth 20000 in
theorem wd_426 : Cond.code yX4_badgeAt cX4_badgeAt 2 (some (.object "BadgeZones$Badge")) ∈ GT := in_gt (in_t3 (List.mem_of_getElem? (i := 44) rfl)) (by decide +kernel)
set_option maxRecDepth 20000 in
theorem wd_427 : Cond.methodLink "BadgeZones" 122 yX4_badgeAt ∈ GT := in_gt (in_t3 (List.mem_of_getElem? (i := 41) rfl)) (by decide +kernel)
set_option maxRecDepth 20000 in
theorem wd_428 : Cond.instanceMethod yX4_badgeAt ∈ GT := in_gt (in_t3 (List.mem_of_getElem? (i := 43) rfl)) (by decide +kernel)
set_option maxRecDepth 20000 in
theorem wd_429 : Cond.selects "BadgeZones" yX4_badgeAt yX4_badgeAt ∈ GT := in_gt (List.mem_append_left _ (List.mem_map.mpr ⟨_, lw_pv 11 rfl, rfl⟩)) (by decide +kernel)
set_option maxRecDepth 20000 in
theorem wd_430 : Cond.fieldLink "BadgeZones" 126 "BadgeZones$Badge" "host" "LBadgeZones$Badge;" ∈ GT := in_gt (in_t3 (List.mem_of_getElem? (i := 9) rfl)) (by decide +kernel)
set_option maxRecDepth 20000 in
theorem wd_431 : Cond.code yX4_checkZone cX4_checkZone 3 none ∈ GT := in_gt (in_t2 (List.mem_of_getElem? (i := 18) rfl)) (by decide +kernel)
set_option maxRecDepth 20000 in
theorem wd_432 : Cond.methodLink "BadgeZones" 43 yX4_checkZone ∈ GT := in_gt (in_t2 (List.mem_of_getElem? (i := 16) rfl)) (by decide +kernel)
set_option maxRecDepth 20000 in
theorem wd_433 : Cond.static yX4_checkZone ∈ GT := in_gt (in_t2 (List.mem_of_getElem? (i := 17) rfl)) (by decide +kernel)
set_option maxRecDepth 20000 in
theorem wd_434 : Cond.fieldLink "BadgeZones" 21 "BadgeZones" "zones" "Ljava/util/ArrayList;" ∈ GT := in_gt (in_t1 (List.mem_of_getElem? (i := 149) rfl)) (by decide +kernel)
set_option maxRecDepth 20000 in
theorem wd_435 : Cond.classLink "BadgeZones" 9 "BadgeZones$Zone" ∈ GT := in_gt (in_t1 (List.mem_of_getElem? (i := 31) rfl)) (by decide +kernel)
set_option maxRecDepth 20000 in
theorem wd_436 : Cond.code yX3_init cX3_init 5 none ∈ GT := in_gt (in_t1 (List.mem_of_getElem? (i := 35) rfl)) (by decide +kernel)
set_option maxRecDepth 20000 in
theorem wd_437 : Cond.methodLink "BadgeZones" 11 yX3_init ∈ GT := in_gt (in_t1 (List.mem_of_getElem? (i := 33) rfl)) (by decide +kernel)
set_option maxRecDepth 20000 in
theorem wd_438 : Cond.instanceMethod yX3_init ∈ GT := in_gt (in_t1 (List.mem_of_getElem? (i := 34) rfl)) (by decide +kernel)
set_option maxRecDepth 20000 in
theorem wd_439 : Cond.initialized "BadgeZones$Zone" ∈ GT := in_gt (in_t1 (List.mem_of_getElem? (i := 2) rfl)) (by decide +kernel)
set_option maxRecDepth 20000 in
theorem wd_440 : Cond.fieldLink "BadgeZones" 35 "BadgeZones" "isAlarm" "Z" ∈ GT := in_gt (in_t1 (List.mem_of_getElem? (i := 153) rfl)) (by decide +kernel)
set_option maxRecDepth 20000 in
theorem wd_441 : Cond.fieldLink "BadgeZones" 28 "BadgeZones" "badges" "Ljava/util/ArrayList;" ∈ GT := in_gt (in_t1 (List.mem_of_getElem? (i := 151) rfl)) (by decide +kernel)
set_option maxRecDepth 20000 in
theorem wd_442 : Cond.methodLink "BadgeZones" 169 yJx4a65c_get_915e3 ∈ GT := in_gt (in_t1 (List.mem_of_getElem? (i := 183) rfl)) (by decide +kernel)
set_option maxRecDepth 20000 in
theorem wd_443 : Cond.classLink "BadgeZones" 127 "BadgeZones$Badge" ∈ GT := in_gt (in_t1 (List.mem_of_getElem? (i := 197) rfl)) (by decide +kernel)
set_option maxRecDepth 20000 in
theorem wd_444 : Cond.fieldLink "BadgeZones" 14 "BadgeZones" "outside" "LBadgeZones$Zone;" ∈ GT := in_gt (in_t1 (List.mem_of_getElem? (i := 148) rfl)) (by decide +kernel)
set_option maxRecDepth 20000 in
theorem wd_445 : Cond.code yX0_isAlone cX0_isAlone 2 (some .boolean) ∈ GT := in_gt (in_t1 (List.mem_of_getElem? (i := 201) rfl)) (by decide +kernel)
set_option maxRecDepth 20000 in
theorem wd_446 : Cond.methodLink "BadgeZones" 173 yX0_isAlone ∈ GT := in_gt (in_t1 (List.mem_of_getElem? (i := 198) rfl)) (by decide +kernel)
set_option maxRecDepth 20000 in
theorem wd_447 : Cond.instanceMethod yX0_isAlone ∈ GT := in_gt (in_t1 (List.mem_of_getElem? (i := 199) rfl)) (by decide +kernel)
set_option maxRecDepth 20000 in
theorem wd_448 : Cond.selects "BadgeZones$Badge" yX0_isAlone yX0_isAlone ∈ GT := in_gt (in_t1 (List.mem_of_getElem? (i := 200) rfl)) (by decide +kernel)
set_option maxRecDepth 20000 in
theorem wd_449 : Cond.code yX4_measureDistances cX4_measureDistances 2 none ∈ GT := in_gt (in_t2 (List.mem_of_getElem? (i := 176) rfl)) (by decide +kernel)
set_option maxRecDepth 20000 in
theorem wd_450 : Cond.methodLink "BadgeZones" 96 yX4_measureDistances ∈ GT := in_gt (in_t2 (List.mem_of_getElem? (i := 173) rfl)) (by decide +kernel)
set_option maxRecDepth 20000 in
theorem wd_451 : Cond.instanceMethod yX4_measureDistances ∈ GT := in_gt (in_t2 (List.mem_of_getElem? (i := 175) rfl)) (by decide +kernel)
set_option maxRecDepth 20000 in
theorem wd_452 : Cond.selects "BadgeZones" yX4_measureDistances yX4_measureDistances ∈ GT := in_gt (List.mem_append_left _ (List.mem_map.mpr ⟨_, lw_pv 7 rfl, rfl⟩)) (by decide +kernel)
set_option maxRecDepth 20000 in
theorem wd_453 : Cond.fieldLink "BadgeZones" 99 "BadgeZones$Zone" "doorsLeft" "I" ∈ GT := in_gt (in_t1 (List.mem_of_getElem? (i := 50) rfl)) (by decide +kernel)
set_option maxRecDepth 20000 in
theorem wd_454 : Cond.fieldLink "BadgeZones" 193 "BadgeZones$Badge" "stay" "LBadgeZones$Stay;" ∈ GT := in_gt (in_t3 (List.mem_of_getElem? (i := 12) rfl)) (by decide +kernel)
set_option maxRecDepth 20000 in
theorem wd_455 : Cond.fieldLink "BadgeZones" 197 "BadgeZones$Stay" "zone" "LBadgeZones$Zone;" ∈ GT := in_gt (in_t2 (List.mem_of_getElem? (i := 238) rfl)) (by decide +kernel)
set_option maxRecDepth 20000 in
theorem wd_456 : Cond.code yX0_wouldLackHost cX0_wouldLackHost 4 (some .boolean) ∈ GT := in_gt (in_t3 (List.mem_of_getElem? (i := 102) rfl)) (by decide +kernel)
set_option maxRecDepth 20000 in
theorem wd_457 : Cond.methodLink "BadgeZones" 254 yX0_wouldLackHost ∈ GT := in_gt (in_t3 (List.mem_of_getElem? (i := 99) rfl)) (by decide +kernel)
set_option maxRecDepth 20000 in
theorem wd_458 : Cond.instanceMethod yX0_wouldLackHost ∈ GT := in_gt (in_t3 (List.mem_of_getElem? (i := 100) rfl)) (by decide +kernel)
set_option maxRecDepth 20000 in
theorem wd_459 : Cond.selects "BadgeZones$Badge" yX0_wouldLackHost yX0_wouldLackHost ∈ GT := in_gt (in_t3 (List.mem_of_getElem? (i := 101) rfl)) (by decide +kernel)
set_option maxRecDepth 20000 in
theorem wd_460 : Cond.code yX0_hasRightFor cX0_hasRightFor 2 (some .boolean) ∈ GT := in_gt (in_t3 (List.mem_of_getElem? (i := 110) rfl)) (by decide +kernel)
set_option maxRecDepth 20000 in
theorem wd_461 : Cond.methodLink "BadgeZones" 247 yX0_hasRightFor ∈ GT := in_gt (in_t3 (List.mem_of_getElem? (i := 107) rfl)) (by decide +kernel)
set_option maxRecDepth 20000 in
theorem wd_462 : Cond.instanceMethod yX0_hasRightFor ∈ GT := in_gt (in_t3 (List.mem_of_getElem? (i := 108) rfl)) (by decide +kernel)
set_option maxRecDepth 20000 in
theorem wd_463 : Cond.selects "BadgeZones$Badge" yX0_hasRightFor yX0_hasRightFor ∈ GT := in_gt (in_t3 (List.mem_of_getElem? (i := 109) rfl)) (by decide +kernel)
set_option maxRecDepth 20000 in
theorem wd_464 : Cond.fieldLink "BadgeZones" 31 "BadgeZones" "minute" "I" ∈ GT := in_gt (in_t1 (List.mem_of_getElem? (i := 152) rfl)) (by decide +kernel)
set_option maxRecDepth 20000 in
theorem wd_465 : Cond.code yX3_hasHoursAt cX3_hasHoursAt 3 (some .boolean) ∈ GT := in_gt (in_t1 (List.mem_of_getElem? (i := 232) rfl)) (by decide +kernel)
set_option maxRecDepth 20000 in
theorem wd_466 : Cond.methodLink "BadgeZones" 102 yX3_hasHoursAt ∈ GT := in_gt (in_t1 (List.mem_of_getElem? (i := 229) rfl)) (by decide +kernel)
set_option maxRecDepth 20000 in
theorem wd_467 : Cond.instanceMethod yX3_hasHoursAt ∈ GT := in_gt (in_t1 (List.mem_of_getElem? (i := 230) rfl)) (by decide +kernel)
set_option maxRecDepth 20000 in
theorem wd_468 : Cond.selects "BadgeZones$Zone" yX3_hasHoursAt yX3_hasHoursAt ∈ GT := in_gt (in_t1 (List.mem_of_getElem? (i := 231) rfl)) (by decide +kernel)
set_option maxRecDepth 20000 in
theorem wd_469 : Cond.code yX4_countIn cX4_countIn 2 (some .int) ∈ GT := in_gt (in_t1 (List.mem_of_getElem? (i := 209) rfl)) (by decide +kernel)
set_option maxRecDepth 20000 in
theorem wd_470 : Cond.methodLink "BadgeZones" 76 yX4_countIn ∈ GT := in_gt (in_t1 (List.mem_of_getElem? (i := 206) rfl)) (by decide +kernel)
set_option maxRecDepth 20000 in
theorem wd_471 : Cond.instanceMethod yX4_countIn ∈ GT := in_gt (in_t1 (List.mem_of_getElem? (i := 208) rfl)) (by decide +kernel)
set_option maxRecDepth 20000 in
theorem wd_472 : Cond.selects "BadgeZones" yX4_countIn yX4_countIn ∈ GT := in_gt (List.mem_append_left _ (List.mem_map.mpr ⟨_, lw_pv 3 rfl, rfl⟩)) (by decide +kernel)
set_option maxRecDepth 20000 in
theorem wd_473 : Cond.fieldLink "BadgeZones" 67 "BadgeZones$Zone" "capacity" "I" ∈ GT := in_gt (in_t1 (List.mem_of_getElem? (i := 41) rfl)) (by decide +kernel)
set_option maxRecDepth 20000 in
theorem wd_474 : Cond.code yX4_isExcluded cX4_isExcluded 4 (some .boolean) ∈ GT := in_gt (in_t3 (List.mem_of_getElem? (i := 114) rfl)) (by decide +kernel)
set_option maxRecDepth 20000 in
theorem wd_475 : Cond.methodLink "BadgeZones" 250 yX4_isExcluded ∈ GT := in_gt (in_t3 (List.mem_of_getElem? (i := 111) rfl)) (by decide +kernel)
set_option maxRecDepth 20000 in
theorem wd_476 : Cond.instanceMethod yX4_isExcluded ∈ GT := in_gt (in_t3 (List.mem_of_getElem? (i := 113) rfl)) (by decide +kernel)
set_option maxRecDepth 20000 in
theorem wd_477 : Cond.selects "BadgeZones" yX4_isExcluded yX4_isExcluded ∈ GT := in_gt (List.mem_append_left _ (List.mem_map.mpr ⟨_, lw_pv 15 rfl, rfl⟩)) (by decide +kernel)
set_option maxRecDepth 20000 in
theorem wd_478 : Cond.code yX4_wouldLeaveVisitor cX4_wouldLeaveVisitor 5 (some .boolean) ∈ GT := in_gt (in_t3 (List.mem_of_getElem? (i := 122) rfl)) (by decide +kernel)
set_option maxRecDepth 20000 in
theorem wd_479 : Cond.methodLink "BadgeZones" 258 yX4_wouldLeaveVisitor ∈ GT := in_gt (in_t3 (List.mem_of_getElem? (i := 119) rfl)) (by decide +kernel)
set_option maxRecDepth 20000 in
theorem wd_480 : Cond.instanceMethod yX4_wouldLeaveVisitor ∈ GT := in_gt (in_t3 (List.mem_of_getElem? (i := 121) rfl)) (by decide +kernel)
set_option maxRecDepth 20000 in
theorem wd_481 : Cond.selects "BadgeZones" yX4_wouldLeaveVisitor yX4_wouldLeaveVisitor ∈ GT := in_gt (List.mem_append_left _ (List.mem_map.mpr ⟨_, lw_pv 16 rfl, rfl⟩)) (by decide +kernel)
set_option maxRecDepth 20000 in
theorem wd_482 : Cond.fieldLink "BadgeZones" 139 "BadgeZones$Badge" "isBlocked" "Z" ∈ GT := in_gt (in_t3 (List.mem_of_getElem? (i := 16) rfl)) (by decide +kernel)
set_option maxRecDepth 20000 in
theorem wd_483 : Cond.code yX1_otherSide cX1_otherSide 2 (some (.object "BadgeZones$Zone")) ∈ GT := in_gt (in_t3 (List.mem_of_getElem? (i := 94) rfl)) (by decide +kernel)
set_option maxRecDepth 20000 in
theorem wd_484 : Cond.methodLink "BadgeZones" 235 yX1_otherSide ∈ GT := in_gt (in_t3 (List.mem_of_getElem? (i := 91) rfl)) (by decide +kernel)
set_option maxRecDepth 20000 in
theorem wd_485 : Cond.instanceMethod yX1_otherSide ∈ GT := in_gt (in_t3 (List.mem_of_getElem? (i := 92) rfl)) (by decide +kernel)
set_option maxRecDepth 20000 in
theorem wd_486 : Cond.selects "BadgeZones$Door" yX1_otherSide yX1_otherSide ∈ GT := in_gt (in_t3 (List.mem_of_getElem? (i := 93) rfl)) (by decide +kernel)
set_option maxRecDepth 20000 in
theorem wd_487 : Cond.code yX4_answerInAlarm cX4_answerInAlarm 3 (some .int) ∈ GT := in_gt (in_t3 (List.mem_of_getElem? (i := 98) rfl)) (by decide +kernel)
set_option maxRecDepth 20000 in
theorem wd_488 : Cond.methodLink "BadgeZones" 239 yX4_answerInAlarm ∈ GT := in_gt (in_t3 (List.mem_of_getElem? (i := 95) rfl)) (by decide +kernel)
set_option maxRecDepth 20000 in
theorem wd_489 : Cond.instanceMethod yX4_answerInAlarm ∈ GT := in_gt (in_t3 (List.mem_of_getElem? (i := 97) rfl)) (by decide +kernel)
set_option maxRecDepth 20000 in
theorem wd_490 : Cond.selects "BadgeZones" yX4_answerInAlarm yX4_answerInAlarm ∈ GT := in_gt (List.mem_append_left _ (List.mem_map.mpr ⟨_, lw_pv 13 rfl, rfl⟩)) (by decide +kernel)
set_option maxRecDepth 20000 in
theorem wd_491 : Cond.code yX4_answerInPeace cX4_answerInPeace 4 (some .int) ∈ GT := in_gt (in_t3 (List.mem_of_getElem? (i := 106) rfl)) (by decide +kernel)
set_option maxRecDepth 20000 in
theorem wd_492 : Cond.methodLink "BadgeZones" 243 yX4_answerInPeace ∈ GT := in_gt (in_t3 (List.mem_of_getElem? (i := 103) rfl)) (by decide +kernel)
set_option maxRecDepth 20000 in
theorem wd_493 : Cond.instanceMethod yX4_answerInPeace ∈ GT := in_gt (in_t3 (List.mem_of_getElem? (i := 105) rfl)) (by decide +kernel)
set_option maxRecDepth 20000 in
theorem wd_494 : Cond.selects "BadgeZones" yX4_answerInPeace yX4_answerInPeace ∈ GT := in_gt (List.mem_append_left _ (List.mem_map.mpr ⟨_, lw_pv 14 rfl, rfl⟩)) (by decide +kernel)
set_option maxRecDepth 20000 in
theorem wd_495 : Cond.classLink "BadgeZones" 62 "java/lang/IndexOutOfBoundsException" ∈ GT := in_gt (in_t2 (List.mem_of_getElem? (i := 119) rfl)) (by decide +kernel)
set_option maxRecDepth 20000 in
theorem wd_496 : Cond.code yX0_tell cX0_tell 2 (some .int) ∈ GT := in_gt (in_t2 (List.mem_of_getElem? (i := 2) rfl)) (by decide +kernel)
set_option maxRecDepth 20000 in
theorem wd_497 : Cond.methodLink "BadgeZones" 147 yX0_tell ∈ GT := in_gt (in_t1 (List.mem_of_getElem? (i := 239) rfl)) (by decide +kernel)
set_option maxRecDepth 20000 in
theorem wd_498 : Cond.instanceMethod yX0_tell ∈ GT := in_gt (in_t2 (List.mem_of_getElem? (i := 0) rfl)) (by decide +kernel)
set_option maxRecDepth 20000 in
theorem wd_499 : Cond.selects "BadgeZones$Badge" yX0_tell yX0_tell ∈ GT := in_gt (in_t2 (List.mem_of_getElem? (i := 1) rfl)) (by decide +kernel)
set_option maxRecDepth 20000 in
theorem wd_500 : Cond.fieldLink "BadgeZones" 142 "BadgeZones$Badge" "refusals" "I" ∈ GT := in_gt (in_t3 (List.mem_of_getElem? (i := 18) rfl)) (by decide +kernel)
set_option maxRecDepth 20000 in
theorem wd_501 : Cond.code yX4_measureWays cX4_measureWays 5 none ∈ GT := in_gt (in_t3 (List.mem_of_getElem? (i := 188) rfl)) (by decide +kernel)
set_option maxRecDepth 20000 in
theorem wd_502 : Cond.methodLink "BadgeZones" 189 yX4_measureWays ∈ GT := in_gt (in_t3 (List.mem_of_getElem? (i := 185) rfl)) (by decide +kernel)
set_option maxRecDepth 20000 in
theorem wd_503 : Cond.instanceMethod yX4_measureWays ∈ GT := in_gt (in_t3 (List.mem_of_getElem? (i := 187) rfl)) (by decide +kernel)
set_option maxRecDepth 20000 in
theorem wd_504 : Cond.selects "BadgeZones" yX4_measureWays yX4_measureWays ∈ GT := in_gt (List.mem_append_left _ (List.mem_map.mpr ⟨_, lw_pv 18 rfl, rfl⟩)) (by decide +kernel)
set_option maxRecDepth 20000 in
theorem wd_505 : Cond.code yX4_badgesIn cX4_badgesIn 4 (some .int) ∈ GT := in_gt (in_t1 (List.mem_of_getElem? (i := 213) rfl)) (by decide +kernel)
set_option maxRecDepth 20000 in
theorem wd_506 : Cond.methodLink "BadgeZones" 166 yX4_badgesIn ∈ GT := in_gt (in_t1 (List.mem_of_getElem? (i := 210) rfl)) (by decide +kernel)
set_option maxRecDepth 20000 in
theorem wd_507 : Cond.instanceMethod yX4_badgesIn ∈ GT := in_gt (in_t1 (List.mem_of_getElem? (i := 212) rfl)) (by decide +kernel)
set_option maxRecDepth 20000 in
theorem wd_508 : Cond.selects "BadgeZones" yX4_badgesIn yX4_badgesIn ∈ GT := in_gt (List.mem_append_left _ (List.mem_map.mpr ⟨_, lw_pv 4 rfl, rfl⟩)) (by decide +kernel)
set_option maxRecDepth 20000 in
theorem wd_509 : Cond.code yJ6_bitCount_0f7a4 cJ6_bitCount_0f7a4 1 (some .int) ∈ GT := in_gt (in_t1 (List.mem_of_getElem? (i := 216) rfl)) (by decide +kernel)
set_option maxRecDepth 20000 in
theorem wd_510 : Cond.methodLink "BadgeZones" 230 yJ6_bitCount_0f7a4 ∈ GT := in_gt (in_t1 (List.mem_of_getElem? (i := 214) rfl)) (by decide +kernel)
set_option maxRecDepth 20000 in
theorem wd_511 : Cond.static yJ6_bitCount_0f7a4 ∈ GT := in_gt (in_t1 (List.mem_of_getElem? (i := 215) rfl)) (by decide +kernel)
set_option maxRecDepth 20000 in
theorem wd_512 : Cond.initialized "java/lang/Integer" ∈ GT := in_gt (in_t1 (List.mem_of_getElem? (i := 19) rfl)) (by decide +kernel)
set_option maxRecDepth 20000 in
theorem wd_513 : Cond.constantLong "BadgeZones" 205 (179) ∈ GT := in_gt (in_t1 (List.mem_of_getElem? (i := 224) rfl)) (by decide +kernel)
set_option maxRecDepth 20000 in
theorem wd_514 : Cond.code yX4_addTo cX4_addTo 3 (some .long) ∈ GT := in_gt (in_t1 (List.mem_of_getElem? (i := 227) rfl)) (by decide +kernel)
set_option maxRecDepth 20000 in
theorem wd_515 : Cond.methodLink "BadgeZones" 207 yX4_addTo ∈ GT := in_gt (in_t1 (List.mem_of_getElem? (i := 225) rfl)) (by decide +kernel)
set_option maxRecDepth 20000 in
theorem wd_516 : Cond.static yX4_addTo ∈ GT := in_gt (in_t1 (List.mem_of_getElem? (i := 226) rfl)) (by decide +kernel)
set_option maxRecDepth 20000 in
theorem wd_517 : Cond.code yX1_minutesLeft cX1_minutesLeft 2 (some .int) ∈ GT := in_gt (in_t1 (List.mem_of_getElem? (i := 237) rfl)) (by decide +kernel)
set_option maxRecDepth 20000 in
theorem wd_518 : Cond.methodLink "BadgeZones" 110 yX1_minutesLeft ∈ GT := in_gt (in_t1 (List.mem_of_getElem? (i := 234) rfl)) (by decide +kernel)
set_option maxRecDepth 20000 in
theorem wd_519 : Cond.instanceMethod yX1_minutesLeft ∈ GT := in_gt (in_t1 (List.mem_of_getElem? (i := 235) rfl)) (by decide +kernel)
set_option maxRecDepth 20000 in
theorem wd_520 : Cond.selects "BadgeZones$Door" yX1_minutesLeft yX1_minutesLeft ∈ GT := in_gt (in_t1 (List.mem_of_getElem? (i := 236) rfl)) (by decide +kernel)
set_option maxRecDepth 20000 in
theorem wd_521 : Cond.fieldLink "BadgeZones" 272 "BadgeZones$Zone" "isOnTheWay" "Z" ∈ GT := in_gt (in_t1 (List.mem_of_getElem? (i := 48) rfl)) (by decide +kernel)
set_option maxRecDepth 20000 in
theorem wd_522 : Cond.methodLink "BadgeZones" 3 ⟨"java/lang/Object", "<init>", "()V"⟩ ∈ GT := in_gt (in_t1 (List.mem_of_getElem? (i := 28) rfl)) (by decide +kernel)
set_option maxRecDepth 20000 in
theorem wd_523 : Cond.classLink "BadgeZones" 18 "java/util/ArrayList" ∈ GT := in_gt (in_t1 (List.mem_of_getElem? (i := 65) rfl)) (by decide +kernel)
set_option maxRecDepth 20000 in
theorem wd_524 : Cond.methodLink "BadgeZones" 20 yJx4a65c_init_da8c8 ∈ GT := in_gt (in_t1 (List.mem_of_getElem? (i := 67) rfl)) (by decide +kernel)
set_option maxRecDepth 20000 in
theorem wd_525 : Cond.code yX1_excludes cX1_excludes 2 (some .boolean) ∈ GT := in_gt (in_t3 (List.mem_of_getElem? (i := 118) rfl)) (by decide +kernel)
set_option maxRecDepth 20000 in
theorem wd_526 : Cond.methodLink "BadgeZones" 262 yX1_excludes ∈ GT := in_gt (in_t3 (List.mem_of_getElem? (i := 115) rfl)) (by decide +kernel)
set_option maxRecDepth 20000 in
theorem wd_527 : Cond.instanceMethod yX1_excludes ∈ GT := in_gt (in_t3 (List.mem_of_getElem? (i := 116) rfl)) (by decide +kernel)
set_option maxRecDepth 20000 in
theorem wd_528 : Cond.selects "BadgeZones$Door" yX1_excludes yX1_excludes ∈ GT := in_gt (in_t3 (List.mem_of_getElem? (i := 117) rfl)) (by decide +kernel)
set_option maxRecDepth 20000 in
theorem wd_529 : Cond.code yX0_init cX0_init 5 none ∈ GT := in_gt (in_t2 (List.mem_of_getElem? (i := 226) rfl)) (by decide +kernel)
set_option maxRecDepth 20000 in
theorem wd_530 : Cond.methodLink "BadgeZones" 225 yX0_init ∈ GT := in_gt (in_t2 (List.mem_of_getElem? (i := 224) rfl)) (by decide +kernel)
set_option maxRecDepth 20000 in
theorem wd_531 : Cond.instanceMethod yX0_init ∈ GT := in_gt (in_t2 (List.mem_of_getElem? (i := 225) rfl)) (by decide +kernel)
set_option maxRecDepth 20000 in
theorem wd_532 : Cond.code yX4_measureTo cX4_measureTo 4 none ∈ GT := in_gt (in_t2 (List.mem_of_getElem? (i := 180) rfl)) (by decide +kernel)
set_option maxRecDepth 20000 in
theorem wd_533 : Cond.methodLink "BadgeZones" 275 yX4_measureTo ∈ GT := in_gt (in_t2 (List.mem_of_getElem? (i := 177) rfl)) (by decide +kernel)
set_option maxRecDepth 20000 in
theorem wd_534 : Cond.instanceMethod yX4_measureTo ∈ GT := in_gt (in_t2 (List.mem_of_getElem? (i := 179) rfl)) (by decide +kernel)
set_option maxRecDepth 20000 in
theorem wd_535 : Cond.selects "BadgeZones" yX4_measureTo yX4_measureTo ∈ GT := in_gt (List.mem_append_left _ (List.mem_map.mpr ⟨_, lw_pv 8 rfl, rfl⟩)) (by decide +kernel)
set_option maxRecDepth 20000 in
theorem wd_536 : Cond.code yX1_measureBack cX1_measureBack 2 none ∈ GT := in_gt (in_t2 (List.mem_of_getElem? (i := 184) rfl)) (by decide +kernel)
set_option maxRecDepth 20000 in
theorem wd_537 : Cond.methodLink "BadgeZones" 279 yX1_measureBack ∈ GT := in_gt (in_t2 (List.mem_of_getElem? (i := 181) rfl)) (by decide +kernel)
set_option maxRecDepth 20000 in
theorem wd_538 : Cond.instanceMethod yX1_measureBack ∈ GT := in_gt (in_t2 (List.mem_of_getElem? (i := 182) rfl)) (by decide +kernel)
set_option maxRecDepth 20000 in
theorem wd_539 : Cond.selects "BadgeZones$Door" yX1_measureBack yX1_measureBack ∈ GT := in_gt (in_t2 (List.mem_of_getElem? (i := 183) rfl)) (by decide +kernel)
set_option maxRecDepth 20000 in
theorem wd_540 : Cond.code yX0_minutesSpent cX0_minutesSpent 7 (some .int) ∈ GT := in_gt (in_t3 (List.mem_of_getElem? (i := 177) rfl)) (by decide +kernel)
set_option maxRecDepth 20000 in
theorem wd_541 : Cond.methodLink "BadgeZones" 185 yX0_minutesSpent ∈ GT := in_gt (in_t3 (List.mem_of_getElem? (i := 174) rfl)) (by decide +kernel)
set_option maxRecDepth 20000 in
theorem wd_542 : Cond.instanceMethod yX0_minutesSpent ∈ GT := in_gt (in_t3 (List.mem_of_getElem? (i := 175) rfl)) (by decide +kernel)
set_option maxRecDepth 20000 in
theorem wd_543 : Cond.selects "BadgeZones$Badge" yX0_minutesSpent yX0_minutesSpent ∈ GT := in_gt (in_t3 (List.mem_of_getElem? (i := 176) rfl)) (by decide +kernel)
set_option maxRecDepth 20000 in
theorem wd_544 : Cond.code yX4_firstDoorFrom cX4_firstDoorFrom 4 (some .int) ∈ GT := in_gt (in_t3 (List.mem_of_getElem? (i := 199) rfl)) (by decide +kernel)
set_option maxRecDepth 20000 in
theorem wd_545 : Cond.methodLink "BadgeZones" 202 yX4_firstDoorFrom ∈ GT := in_gt (in_t3 (List.mem_of_getElem? (i := 196) rfl)) (by decide +kernel)
set_option maxRecDepth 20000 in
theorem wd_546 : Cond.instanceMethod yX4_firstDoorFrom ∈ GT := in_gt (in_t3 (List.mem_of_getElem? (i := 198) rfl)) (by decide +kernel)
set_option maxRecDepth 20000 in
theorem wd_547 : Cond.selects "BadgeZones" yX4_firstDoorFrom yX4_firstDoorFrom ∈ GT := in_gt (List.mem_append_left _ (List.mem_map.mpr ⟨_, lw_pv 19 rfl, rfl⟩)) (by decide +kernel)
set_option maxRecDepth 20000 in
theorem wd_548 : Cond.code yX4_doorAt cX4_doorAt 2 (some (.object "BadgeZones$Door")) ∈ GT := in_gt (in_t2 (List.mem_of_getElem? (i := 205) rfl)) (by decide +kernel)
set_option maxRecDepth 20000 in
theorem wd_549 : Cond.methodLink "BadgeZones" 106 yX4_doorAt ∈ GT := in_gt (in_t2 (List.mem_of_getElem? (i := 202) rfl)) (by decide +kernel)
set_option maxRecDepth 20000 in
theorem wd_550 : Cond.instanceMethod yX4_doorAt ∈ GT := in_gt (in_t2 (List.mem_of_getElem? (i := 204) rfl)) (by decide +kernel)
set_option maxRecDepth 20000 in
theorem wd_551 : Cond.selects "BadgeZones" yX4_doorAt yX4_doorAt ∈ GT := in_gt (List.mem_append_left _ (List.mem_map.mpr ⟨_, lw_pv 9 rfl, rfl⟩)) (by decide +kernel)
set_option maxRecDepth 20000 in
theorem wd_552 : Cond.code yX0_enter cX0_enter 3 none ∈ GT := in_gt (in_t3 (List.mem_of_getElem? (i := 130) rfl)) (by decide +kernel)
set_option maxRecDepth 20000 in
theorem wd_553 : Cond.methodLink "BadgeZones" 265 yX0_enter ∈ GT := in_gt (in_t3 (List.mem_of_getElem? (i := 127) rfl)) (by decide +kernel)
set_option maxRecDepth 20000 in
theorem wd_554 : Cond.instanceMethod yX0_enter ∈ GT := in_gt (in_t3 (List.mem_of_getElem? (i := 128) rfl)) (by decide +kernel)
set_option maxRecDepth 20000 in
theorem wd_555 : Cond.selects "BadgeZones$Badge" yX0_enter yX0_enter ∈ GT := in_gt (in_t3 (List.mem_of_getElem? (i := 129) rfl)) (by decide +kernel)
set_option maxRecDepth 20000 in
theorem wd_556 : Cond.code yX1_openAt cX1_openAt 2 none ∈ GT := in_gt (in_t3 (List.mem_of_getElem? (i := 135) rfl)) (by decide +kernel)
set_option maxRecDepth 20000 in
theorem wd_557 : Cond.methodLink "BadgeZones" 269 yX1_openAt ∈ GT := in_gt (in_t3 (List.mem_of_getElem? (i := 132) rfl)) (by decide +kernel)
set_option maxRecDepth 20000 in
theorem wd_558 : Cond.instanceMethod yX1_openAt ∈ GT := in_gt (in_t3 (List.mem_of_getElem? (i := 133) rfl)) (by decide +kernel)
set_option maxRecDepth 20000 in
theorem wd_559 : Cond.selects "BadgeZones$Door" yX1_openAt yX1_openAt ∈ GT := in_gt (in_t3 (List.mem_of_getElem? (i := 134) rfl)) (by decide +kernel)
set_option maxRecDepth 20000 in
theorem wd_560 : Cond.code yX4_answerTo cX4_answerTo 4 (some .int) ∈ GT := in_gt (in_t3 (List.mem_of_getElem? (i := 90) rfl)) (by decide +kernel)
set_option maxRecDepth 20000 in
theorem wd_561 : Cond.methodLink "BadgeZones" 155 yX4_answerTo ∈ GT := in_gt (in_t3 (List.mem_of_getElem? (i := 87) rfl)) (by decide +kernel)
set_option maxRecDepth 20000 in
theorem wd_562 : Cond.instanceMethod yX4_answerTo ∈ GT := in_gt (in_t3 (List.mem_of_getElem? (i := 89) rfl)) (by decide +kernel)
set_option maxRecDepth 20000 in
theorem wd_563 : Cond.selects "BadgeZones" yX4_answerTo yX4_answerTo ∈ GT := in_gt (List.mem_append_left _ (List.mem_map.mpr ⟨_, lw_pv 12 rfl, rfl⟩)) (by decide +kernel)
set_option maxRecDepth 20000 in
theorem wd_564 : Cond.code yX4_pass cX4_pass 4 none ∈ GT := in_gt (in_t3 (List.mem_of_getElem? (i := 126) rfl)) (by decide +kernel)
set_option maxRecDepth 20000 in
theorem wd_565 : Cond.methodLink "BadgeZones" 159 yX4_pass ∈ GT := in_gt (in_t3 (List.mem_of_getElem? (i := 123) rfl)) (by decide +kernel)
set_option maxRecDepth 20000 in
theorem wd_566 : Cond.instanceMethod yX4_pass ∈ GT := in_gt (in_t3 (List.mem_of_getElem? (i := 125) rfl)) (by decide +kernel)
set_option maxRecDepth 20000 in
theorem wd_567 : Cond.selects "BadgeZones" yX4_pass yX4_pass ∈ GT := in_gt (List.mem_append_left _ (List.mem_map.mpr ⟨_, lw_pv 17 rfl, rfl⟩)) (by decide +kernel)
set_option maxRecDepth 20000 in
theorem wd_568 : Cond.code yX0_countRefusal cX0_countRefusal 1 none ∈ GT := in_gt (in_t3 (List.mem_of_getElem? (i := 139) rfl)) (by decide +kernel)
set_option maxRecDepth 20000 in
theorem wd_569 : Cond.methodLink "BadgeZones" 163 yX0_countRefusal ∈ GT := in_gt (in_t3 (List.mem_of_getElem? (i := 136) rfl)) (by decide +kernel)
set_option maxRecDepth 20000 in
theorem wd_570 : Cond.instanceMethod yX0_countRefusal ∈ GT := in_gt (in_t3 (List.mem_of_getElem? (i := 137) rfl)) (by decide +kernel)
set_option maxRecDepth 20000 in
theorem wd_571 : Cond.selects "BadgeZones$Badge" yX0_countRefusal yX0_countRefusal ∈ GT := in_gt (in_t3 (List.mem_of_getElem? (i := 138) rfl)) (by decide +kernel)
set_option maxRecDepth 20000 in
theorem wd_572 : Cond.fieldLink "BadgeZones" 136 "BadgeZones$Badge" "ownRights" "I" ∈ GT := in_gt (in_t3 (List.mem_of_getElem? (i := 14) rfl)) (by decide +kernel)
set_option maxRecDepth 20000 in
theorem wd_573 : Cond.fieldLink "BadgeZones" 70 "BadgeZones$Zone" "begin" "I" ∈ GT := in_gt (in_t1 (List.mem_of_getElem? (i := 43) rfl)) (by decide +kernel)
set_option maxRecDepth 20000 in
theorem wd_574 : Cond.fieldLink "BadgeZones" 73 "BadgeZones$Zone" "end" "I" ∈ GT := in_gt (in_t1 (List.mem_of_getElem? (i := 45) rfl)) (by decide +kernel)
set_option maxRecDepth 20000 in
theorem wd_575 : Cond.constant "BadgeZones" 152 (99999) ∈ GT := in_gt (in_t3 (List.mem_of_getElem? (i := 78) rfl)) (by decide +kernel)
set_option maxRecDepth 20000 in
theorem wd_576 : Cond.code yX0_zoneAtEndOf cX0_zoneAtEndOf 4 (some (.object "BadgeZones$Zone")) ∈ GT := in_gt (in_t3 (List.mem_of_getElem? (i := 165) rfl)) (by decide +kernel)
set_option maxRecDepth 20000 in
theorem wd_577 : Cond.methodLink "BadgeZones" 179 yX0_zoneAtEndOf ∈ GT := in_gt (in_t3 (List.mem_of_getElem? (i := 162) rfl)) (by decide +kernel)
set_option maxRecDepth 20000 in
theorem wd_578 : Cond.instanceMethod yX0_zoneAtEndOf ∈ GT := in_gt (in_t3 (List.mem_of_getElem? (i := 163) rfl)) (by decide +kernel)
set_option maxRecDepth 20000 in
theorem wd_579 : Cond.selects "BadgeZones$Badge" yX0_zoneAtEndOf yX0_zoneAtEndOf ∈ GT := in_gt (in_t3 (List.mem_of_getElem? (i := 164) rfl)) (by decide +kernel)
set_option maxRecDepth 20000 in
theorem wd_580 : Cond.fieldLink "BadgeZones" 182 "BadgeZones$Zone" "number" "I" ∈ GT := in_gt (in_t1 (List.mem_of_getElem? (i := 39) rfl)) (by decide +kernel)
set_option maxRecDepth 20000 in
theorem wd_581 : Cond.fieldLink "BadgeZonesModel" 23 "BadgeZonesModel" "sides" "[I" ∈ GT := in_gt (in_t3 (List.mem_of_getElem? (i := 221) rfl)) (by decide +kernel)
set_option maxRecDepth 20000 in
theorem wd_582 : Cond.fieldLink "BadgeZonesModel" 35 "BadgeZonesModel" "places" "[I" ∈ GT := in_gt (in_t3 (List.mem_of_getElem? (i := 226) rfl)) (by decide +kernel)
set_option maxRecDepth 20000 in
theorem wd_583 : Cond.fieldLink "BadgeZonesModel" 60 "BadgeZonesModel" "badges" "I" ∈ GT := in_gt (in_t3 (List.mem_of_getElem? (i := 225) rfl)) (by decide +kernel)
set_option maxRecDepth 20000 in
theorem wd_584 : Cond.fieldLink "BadgeZonesModel" 38 "BadgeZonesModel" "rights" "[I" ∈ GT := in_gt (in_t3 (List.mem_of_getElem? (i := 227) rfl)) (by decide +kernel)
set_option maxRecDepth 20000 in
theorem wd_585 : Cond.fieldLink "BadgeZonesModel" 41 "BadgeZonesModel" "hosts" "[I" ∈ GT := in_gt (in_t3 (List.mem_of_getElem? (i := 228) rfl)) (by decide +kernel)
set_option maxRecDepth 20000 in
theorem wd_586 : Cond.fieldLink "BadgeZonesModel" 44 "BadgeZonesModel" "areBlocked" "[Z" ∈ GT := in_gt (in_t3 (List.mem_of_getElem? (i := 229) rfl)) (by decide +kernel)
set_option maxRecDepth 20000 in
theorem wd_587 : Cond.fieldLink "BadgeZonesModel" 48 "BadgeZonesModel" "refusals" "[I" ∈ GT := in_gt (in_t3 (List.mem_of_getElem? (i := 230) rfl)) (by decide +kernel)
set_option maxRecDepth 20000 in
theorem wd_588 : Cond.fieldLink "BadgeZonesModel" 54 "BadgeZonesModel" "thrown" "I" ∈ GT := in_gt (in_t3 (List.mem_of_getElem? (i := 213) rfl)) (by decide +kernel)
set_option maxRecDepth 20000 in
theorem wd_589 : Cond.code yX5_fail cX5_fail 2 (some .int) ∈ GT := in_gt (in_t4 (List.mem_of_getElem? (i := 50) rfl)) (by decide +kernel)
set_option maxRecDepth 20000 in
theorem wd_590 : Cond.methodLink "BadgeZonesModel" 67 yX5_fail ∈ GT := in_gt (in_t4 (List.mem_of_getElem? (i := 47) rfl)) (by decide +kernel)
set_option maxRecDepth 20000 in
theorem wd_591 : Cond.instanceMethod yX5_fail ∈ GT := in_gt (in_t4 (List.mem_of_getElem? (i := 49) rfl)) (by decide +kernel)
set_option maxRecDepth 20000 in
theorem wd_592 : Cond.selects "BadgeZonesModel" yX5_fail yX5_fail ∈ GT := in_gt (List.mem_append_left _ (List.mem_map.mpr ⟨_, lw_pv 20 rfl, rfl⟩)) (by decide +kernel)
set_option maxRecDepth 20000 in
theorem wd_593 : Cond.code yX5_add cX5_add 3 (some .int) ∈ GT := in_gt (in_t4 (List.mem_of_getElem? (i := 107) rfl)) (by decide +kernel)
set_option maxRecDepth 20000 in
theorem wd_594 : Cond.methodLink "BadgeZonesModel" 109 yX5_add ∈ GT := in_gt (in_t4 (List.mem_of_getElem? (i := 104) rfl)) (by decide +kernel)
set_option maxRecDepth 20000 in
theorem wd_595 : Cond.instanceMethod yX5_add ∈ GT := in_gt (in_t4 (List.mem_of_getElem? (i := 106) rfl)) (by decide +kernel)
set_option maxRecDepth 20000 in
theorem wd_596 : Cond.selects "BadgeZonesModel" yX5_add yX5_add ∈ GT := in_gt (List.mem_append_left _ (List.mem_map.mpr ⟨_, lw_pv 27 rfl, rfl⟩)) (by decide +kernel)
set_option maxRecDepth 20000 in
theorem wd_597 : Cond.code yX5_isZone cX5_isZone 2 (some .boolean) ∈ GT := in_gt (in_t4 (List.mem_of_getElem? (i := 58) rfl)) (by decide +kernel)
set_option maxRecDepth 20000 in
theorem wd_598 : Cond.methodLink "BadgeZonesModel" 71 yX5_isZone ∈ GT := in_gt (in_t4 (List.mem_of_getElem? (i := 55) rfl)) (by decide +kernel)
set_option maxRecDepth 20000 in
theorem wd_599 : Cond.instanceMethod yX5_isZone ∈ GT := in_gt (in_t4 (List.mem_of_getElem? (i := 57) rfl)) (by decide +kernel)
set_option maxRecDepth 20000 in
theorem wd_600 : Cond.selects "BadgeZonesModel" yX5_isZone yX5_isZone ∈ GT := in_gt (List.mem_append_left _ (List.mem_map.mpr ⟨_, lw_pv 21 rfl, rfl⟩)) (by decide +kernel)
set_option maxRecDepth 20000 in
theorem wd_601 : Cond.fieldLink "BadgeZonesModel" 57 "BadgeZonesModel" "doors" "I" ∈ GT := in_gt (in_t3 (List.mem_of_getElem? (i := 220) rfl)) (by decide +kernel)
set_option maxRecDepth 20000 in
theorem wd_602 : Cond.fieldLink "BadgeZonesModel" 26 "BadgeZonesModel" "holds" "[I" ∈ GT := in_gt (in_t3 (List.mem_of_getElem? (i := 222) rfl)) (by decide +kernel)
set_option maxRecDepth 20000 in
theorem wd_603 : Cond.fieldLink "BadgeZonesModel" 29 "BadgeZonesModel" "locks" "[I" ∈ GT := in_gt (in_t3 (List.mem_of_getElem? (i := 223) rfl)) (by decide +kernel)
set_option maxRecDepth 20000 in
theorem wd_604 : Cond.fieldLink "BadgeZonesModel" 32 "BadgeZonesModel" "shuts" "[I" ∈ GT := in_gt (in_t3 (List.mem_of_getElem? (i := 224) rfl)) (by decide +kernel)
set_option maxRecDepth 20000 in
theorem wd_605 : Cond.code yX5_isBadge cX5_isBadge 2 (some .boolean) ∈ GT := in_gt (in_t4 (List.mem_of_getElem? (i := 115) rfl)) (by decide +kernel)
set_option maxRecDepth 20000 in
theorem wd_606 : Cond.methodLink "BadgeZonesModel" 112 yX5_isBadge ∈ GT := in_gt (in_t4 (List.mem_of_getElem? (i := 112) rfl)) (by decide +kernel)
set_option maxRecDepth 20000 in
theorem wd_607 : Cond.instanceMethod yX5_isBadge ∈ GT := in_gt (in_t4 (List.mem_of_getElem? (i := 114) rfl)) (by decide +kernel)
set_option maxRecDepth 20000 in
theorem wd_608 : Cond.selects "BadgeZonesModel" yX5_isBadge yX5_isBadge ∈ GT := in_gt (List.mem_append_left _ (List.mem_map.mpr ⟨_, lw_pv 28 rfl, rfl⟩)) (by decide +kernel)
set_option maxRecDepth 20000 in
theorem wd_609 : Cond.code yX5_areHours cX5_areHours 3 (some .boolean) ∈ GT := in_gt (in_t4 (List.mem_of_getElem? (i := 46) rfl)) (by decide +kernel)
set_option maxRecDepth 20000 in
theorem wd_610 : Cond.methodLink "BadgeZonesModel" 63 yX5_areHours ∈ GT := in_gt (in_t4 (List.mem_of_getElem? (i := 44) rfl)) (by decide +kernel)
set_option maxRecDepth 20000 in
theorem wd_611 : Cond.static yX5_areHours ∈ GT := in_gt (in_t4 (List.mem_of_getElem? (i := 45) rfl)) (by decide +kernel)
set_option maxRecDepth 20000 in
theorem wd_612 : Cond.fieldLink "BadgeZonesModel" 7 "BadgeZonesModel" "zones" "I" ∈ GT := in_gt (in_t3 (List.mem_of_getElem? (i := 216) rfl)) (by decide +kernel)
set_option maxRecDepth 20000 in
theorem wd_613 : Cond.fieldLink "BadgeZonesModel" 13 "BadgeZonesModel" "capacities" "[I" ∈ GT := in_gt (in_t3 (List.mem_of_getElem? (i := 217) rfl)) (by decide +kernel)
set_option maxRecDepth 20000 in
theorem wd_614 : Cond.fieldLink "BadgeZonesModel" 17 "BadgeZonesModel" "begins" "[I" ∈ GT := in_gt (in_t3 (List.mem_of_getElem? (i := 218) rfl)) (by decide +kernel)
set_option maxRecDepth 20000 in
theorem wd_615 : Cond.fieldLink "BadgeZonesModel" 20 "BadgeZonesModel" "ends" "[I" ∈ GT := in_gt (in_t3 (List.mem_of_getElem? (i := 219) rfl)) (by decide +kernel)
set_option maxRecDepth 20000 in
theorem wd_616 : Cond.fieldLink "BadgeZonesModel" 122 "BadgeZonesModel" "isAlarm" "Z" ∈ GT := in_gt (in_t3 (List.mem_of_getElem? (i := 215) rfl)) (by decide +kernel)
set_option maxRecDepth 20000 in
theorem wd_617 : Cond.code yX5_isOpenNow cX5_isOpenNow 3 (some .boolean) ∈ GT := in_gt (in_t4 (List.mem_of_getElem? (i := 86) rfl)) (by decide +kernel)
set_option maxRecDepth 20000 in
theorem wd_618 : Cond.methodLink "BadgeZonesModel" 94 yX5_isOpenNow ∈ GT := in_gt (in_t4 (List.mem_of_getElem? (i := 83) rfl)) (by decide +kernel)
set_option maxRecDepth 20000 in
theorem wd_619 : Cond.instanceMethod yX5_isOpenNow ∈ GT := in_gt (in_t4 (List.mem_of_getElem? (i := 85) rfl)) (by decide +kernel)
set_option maxRecDepth 20000 in
theorem wd_620 : Cond.selects "BadgeZonesModel" yX5_isOpenNow yX5_isOpenNow ∈ GT := in_gt (List.mem_append_left _ (List.mem_map.mpr ⟨_, lw_pv 24 rfl, rfl⟩)) (by decide +kernel)
set_option maxRecDepth 20000 in
theorem wd_621 : Cond.code yX5_rightsOf cX5_rightsOf 2 (some .int) ∈ GT := in_gt (in_t4 (List.mem_of_getElem? (i := 135) rfl)) (by decide +kernel)
set_option maxRecDepth 20000 in
theorem wd_622 : Cond.methodLink "BadgeZonesModel" 115 yX5_rightsOf ∈ GT := in_gt (in_t4 (List.mem_of_getElem? (i := 132) rfl)) (by decide +kernel)
set_option maxRecDepth 20000 in
theorem wd_623 : Cond.instanceMethod yX5_rightsOf ∈ GT := in_gt (in_t4 (List.mem_of_getElem? (i := 134) rfl)) (by decide +kernel)
set_option maxRecDepth 20000 in
theorem wd_624 : Cond.selects "BadgeZonesModel" yX5_rightsOf yX5_rightsOf ∈ GT := in_gt (List.mem_append_left _ (List.mem_map.mpr ⟨_, lw_pv 30 rfl, rfl⟩)) (by decide +kernel)
set_option maxRecDepth 20000 in
theorem wd_625 : Cond.code yX5_has cX5_has 2 (some .boolean) ∈ GT := in_gt (in_t4 (List.mem_of_getElem? (i := 78) rfl)) (by decide +kernel)
set_option maxRecDepth 20000 in
theorem wd_626 : Cond.methodLink "BadgeZonesModel" 83 yX5_has ∈ GT := in_gt (in_t4 (List.mem_of_getElem? (i := 76) rfl)) (by decide +kernel)
set_option maxRecDepth 20000 in
theorem wd_627 : Cond.static yX5_has ∈ GT := in_gt (in_t4 (List.mem_of_getElem? (i := 77) rfl)) (by decide +kernel)
set_option maxRecDepth 20000 in
theorem wd_628 : Cond.code yX5_across cX5_across 3 (some .int) ∈ GT := in_gt (in_t4 (List.mem_of_getElem? (i := 156) rfl)) (by decide +kernel)
set_option maxRecDepth 20000 in
theorem wd_629 : Cond.methodLink "BadgeZonesModel" 126 yX5_across ∈ GT := in_gt (in_t4 (List.mem_of_getElem? (i := 153) rfl)) (by decide +kernel)
set_option maxRecDepth 20000 in
theorem wd_630 : Cond.instanceMethod yX5_across ∈ GT := in_gt (in_t4 (List.mem_of_getElem? (i := 155) rfl)) (by decide +kernel)
set_option maxRecDepth 20000 in
theorem wd_631 : Cond.selects "BadgeZonesModel" yX5_across yX5_across ∈ GT := in_gt (List.mem_append_left _ (List.mem_map.mpr ⟨_, lw_pv 32 rfl, rfl⟩)) (by decide +kernel)
set_option maxRecDepth 20000 in
theorem wd_632 : Cond.code yX5_isNearer cX5_isNearer 5 (some .boolean) ∈ GT := in_gt (in_t4 (List.mem_of_getElem? (i := 160) rfl)) (by decide +kernel)
set_option maxRecDepth 20000 in
theorem wd_633 : Cond.methodLink "BadgeZonesModel" 129 yX5_isNearer ∈ GT := in_gt (in_t4 (List.mem_of_getElem? (i := 157) rfl)) (by decide +kernel)
set_option maxRecDepth 20000 in
theorem wd_634 : Cond.instanceMethod yX5_isNearer ∈ GT := in_gt (in_t4 (List.mem_of_getElem? (i := 159) rfl)) (by decide +kernel)
set_option maxRecDepth 20000 in
theorem wd_635 : Cond.selects "BadgeZonesModel" yX5_isNearer yX5_isNearer ∈ GT := in_gt (List.mem_append_left _ (List.mem_map.mpr ⟨_, lw_pv 33 rfl, rfl⟩)) (by decide +kernel)
set_option maxRecDepth 20000 in
theorem wd_636 : Cond.code yX5_isWithoutHost cX5_isWithoutHost 3 (some .boolean) ∈ GT := in_gt (in_t4 (List.mem_of_getElem? (i := 164) rfl)) (by decide +kernel)
set_option maxRecDepth 20000 in
theorem wd_637 : Cond.methodLink "BadgeZonesModel" 132 yX5_isWithoutHost ∈ GT := in_gt (in_t4 (List.mem_of_getElem? (i := 161) rfl)) (by decide +kernel)
set_option maxRecDepth 20000 in
theorem wd_638 : Cond.instanceMethod yX5_isWithoutHost ∈ GT := in_gt (in_t4 (List.mem_of_getElem? (i := 163) rfl)) (by decide +kernel)
set_option maxRecDepth 20000 in
theorem wd_639 : Cond.selects "BadgeZonesModel" yX5_isWithoutHost yX5_isWithoutHost ∈ GT := in_gt (List.mem_append_left _ (List.mem_map.mpr ⟨_, lw_pv 34 rfl, rfl⟩)) (by decide +kernel)
set_option maxRecDepth 20000 in
theorem wd_640 : Cond.code yX5_insideOf cX5_insideOf 4 (some .int) ∈ GT := in_gt (in_t4 (List.mem_of_getElem? (i := 62) rfl)) (by decide +kernel)
set_option maxRecDepth 20000 in
theorem wd_641 : Cond.methodLink "BadgeZonesModel" 75 yX5_insideOf ∈ GT := in_gt (in_t4 (List.mem_of_getElem? (i := 59) rfl)) (by decide +kernel)
set_option maxRecDepth 20000 in
theorem wd_642 : Cond.instanceMethod yX5_insideOf ∈ GT := in_gt (in_t4 (List.mem_of_getElem? (i := 61) rfl)) (by decide +kernel)
set_option maxRecDepth 20000 in
theorem wd_643 : Cond.selects "BadgeZonesModel" yX5_insideOf yX5_insideOf ∈ GT := in_gt (List.mem_append_left _ (List.mem_map.mpr ⟨_, lw_pv 22 rfl, rfl⟩)) (by decide +kernel)
set_option maxRecDepth 20000 in
theorem wd_644 : Cond.methodLink "BadgeZonesModel" 78 yJ6_bitCount_0f7a4 ∈ GT := in_gt (in_t4 (List.mem_of_getElem? (i := 63) rfl)) (by decide +kernel)
set_option maxRecDepth 20000 in
theorem wd_645 : Cond.code yX5_isExcluded cX5_isExcluded 4 (some .boolean) ∈ GT := in_gt (in_t4 (List.mem_of_getElem? (i := 168) rfl)) (by decide +kernel)
set_option maxRecDepth 20000 in
theorem wd_646 : Cond.methodLink "BadgeZonesModel" 135 yX5_isExcluded ∈ GT := in_gt (in_t4 (List.mem_of_getElem? (i := 165) rfl)) (by decide +kernel)
set_option maxRecDepth 20000 in
theorem wd_647 : Cond.instanceMethod yX5_isExcluded ∈ GT := in_gt (in_t4 (List.mem_of_getElem? (i := 167) rfl)) (by decide +kernel)
set_option maxRecDepth 20000 in
theorem wd_648 : Cond.selects "BadgeZonesModel" yX5_isExcluded yX5_isExcluded ∈ GT := in_gt (List.mem_append_left _ (List.mem_map.mpr ⟨_, lw_pv 35 rfl, rfl⟩)) (by decide +kernel)
set_option maxRecDepth 20000 in
theorem wd_649 : Cond.code yX5_leavesGuests cX5_leavesGuests 4 (some .boolean) ∈ GT := in_gt (in_t4 (List.mem_of_getElem? (i := 172) rfl)) (by decide +kernel)
set_option maxRecDepth 20000 in
theorem wd_650 : Cond.methodLink "BadgeZonesModel" 138 yX5_leavesGuests ∈ GT := in_gt (in_t4 (List.mem_of_getElem? (i := 169) rfl)) (by decide +kernel)
set_option maxRecDepth 20000 in
theorem wd_651 : Cond.instanceMethod yX5_leavesGuests ∈ GT := in_gt (in_t4 (List.mem_of_getElem? (i := 171) rfl)) (by decide +kernel)
set_option maxRecDepth 20000 in
theorem wd_652 : Cond.selects "BadgeZonesModel" yX5_leavesGuests yX5_leavesGuests ∈ GT := in_gt (List.mem_append_left _ (List.mem_map.mpr ⟨_, lw_pv 36 rfl, rfl⟩)) (by decide +kernel)
set_option maxRecDepth 20000 in
theorem wd_653 : Cond.code yX5_told cX5_told 3 (some .int) ∈ GT := in_gt (in_t4 (List.mem_of_getElem? (i := 131) rfl)) (by decide +kernel)
set_option maxRecDepth 20000 in
theorem wd_654 : Cond.methodLink "BadgeZonesModel" 118 yX5_told ∈ GT := in_gt (in_t4 (List.mem_of_getElem? (i := 128) rfl)) (by decide +kernel)
set_option maxRecDepth 20000 in
theorem wd_655 : Cond.instanceMethod yX5_told ∈ GT := in_gt (in_t4 (List.mem_of_getElem? (i := 130) rfl)) (by decide +kernel)
set_option maxRecDepth 20000 in
theorem wd_656 : Cond.selects "BadgeZonesModel" yX5_told yX5_told ∈ GT := in_gt (List.mem_append_left _ (List.mem_map.mpr ⟨_, lw_pv 29 rfl, rfl⟩)) (by decide +kernel)
set_option maxRecDepth 20000 in
theorem wd_657 : Cond.code yX5_wayOf cX5_wayOf 3 (some .int) ∈ GT := in_gt (in_t4 (List.mem_of_getElem? (i := 213) rfl)) (by decide +kernel)
set_option maxRecDepth 20000 in
theorem wd_658 : Cond.methodLink "BadgeZonesModel" 160 yX5_wayOf ∈ GT := in_gt (in_t4 (List.mem_of_getElem? (i := 210) rfl)) (by decide +kernel)
set_option maxRecDepth 20000 in
theorem wd_659 : Cond.instanceMethod yX5_wayOf ∈ GT := in_gt (in_t4 (List.mem_of_getElem? (i := 212) rfl)) (by decide +kernel)
set_option maxRecDepth 20000 in
theorem wd_660 : Cond.selects "BadgeZonesModel" yX5_wayOf yX5_wayOf ∈ GT := in_gt (List.mem_append_left _ (List.mem_map.mpr ⟨_, lw_pv 38 rfl, rfl⟩)) (by decide +kernel)
set_option maxRecDepth 20000 in
theorem wd_661 : Cond.constantLong "BadgeZonesModel" 163 (5549) ∈ GT := in_gt (in_t4 (List.mem_of_getElem? (i := 230) rfl)) (by decide +kernel)
set_option maxRecDepth 20000 in
theorem wd_662 : Cond.fieldLink "BadgeZonesModel" 91 "BadgeZonesModel" "minute" "I" ∈ GT := in_gt (in_t3 (List.mem_of_getElem? (i := 214) rfl)) (by decide +kernel)
set_option maxRecDepth 20000 in
theorem wd_663 : Cond.constantLong "BadgeZonesModel" 165 (31) ∈ GT := in_gt (in_t4 (List.mem_of_getElem? (i := 231) rfl)) (by decide +kernel)
set_option maxRecDepth 20000 in
theorem wd_664 : Cond.code yX5_left cX5_left 2 (some .int) ∈ GT := in_gt (in_t4 (List.mem_of_getElem? (i := 98) rfl)) (by decide +kernel)
set_option maxRecDepth 20000 in
theorem wd_665 : Cond.methodLink "BadgeZonesModel" 106 yX5_left ∈ GT := in_gt (in_t4 (List.mem_of_getElem? (i := 95) rfl)) (by decide +kernel)
set_option maxRecDepth 20000 in
theorem wd_666 : Cond.instanceMethod yX5_left ∈ GT := in_gt (in_t4 (List.mem_of_getElem? (i := 97) rfl)) (by decide +kernel)
set_option maxRecDepth 20000 in
theorem wd_667 : Cond.selects "BadgeZonesModel" yX5_left yX5_left ∈ GT := in_gt (List.mem_append_left _ (List.mem_map.mpr ⟨_, lw_pv 26 rfl, rfl⟩)) (by decide +kernel)
set_option maxRecDepth 20000 in
theorem wd_668 : Cond.code yX5_steps cX5_steps 10 (some .int) ∈ GT := in_gt (in_t4 (List.mem_of_getElem? (i := 75) rfl)) (by decide +kernel)
set_option maxRecDepth 20000 in
theorem wd_669 : Cond.methodLink "BadgeZonesModel" 87 yX5_steps ∈ GT := in_gt (in_t4 (List.mem_of_getElem? (i := 72) rfl)) (by decide +kernel)
set_option maxRecDepth 20000 in
theorem wd_670 : Cond.instanceMethod yX5_steps ∈ GT := in_gt (in_t4 (List.mem_of_getElem? (i := 74) rfl)) (by decide +kernel)
set_option maxRecDepth 20000 in
theorem wd_671 : Cond.selects "BadgeZonesModel" yX5_steps yX5_steps ∈ GT := in_gt (List.mem_append_left _ (List.mem_map.mpr ⟨_, lw_pv 23 rfl, rfl⟩)) (by decide +kernel)
set_option maxRecDepth 20000 in
theorem wd_672 : Cond.methodLink "BadgeZonesModel" 1 ⟨"java/lang/Object", "<init>", "()V"⟩ ∈ GT := in_gt (in_t3 (List.mem_of_getElem? (i := 212) rfl)) (by decide +kernel)
set_option maxRecDepth 20000 in
theorem wd_673 : Cond.fieldLink "BadgeZonesModel" 51 "BadgeZonesModel" "log" "[I" ∈ GT := in_gt (in_t3 (List.mem_of_getElem? (i := 232) rfl)) (by decide +kernel)
set_option maxRecDepth 20000 in
theorem wd_674 : Cond.methodLink "BadgeZonesModel" 97 yJ9_max_7cf53 ∈ GT := in_gt (in_t4 (List.mem_of_getElem? (i := 99) rfl)) (by decide +kernel)
set_option maxRecDepth 20000 in
theorem wd_675 : Cond.fieldLink "BadgeZonesModel" 141 "BadgeZonesModel" "moves" "I" ∈ GT := in_gt (in_t3 (List.mem_of_getElem? (i := 231) rfl)) (by decide +kernel)
set_option maxRecDepth 20000 in
theorem wd_676 : Cond.code yX5_allowed cX5_allowed 4 (some .int) ∈ GT := in_gt (in_t4 (List.mem_of_getElem? (i := 217) rfl)) (by decide +kernel)
set_option maxRecDepth 20000 in
theorem wd_677 : Cond.methodLink "BadgeZonesModel" 157 yX5_allowed ∈ GT := in_gt (in_t4 (List.mem_of_getElem? (i := 214) rfl)) (by decide +kernel)
set_option maxRecDepth 20000 in
theorem wd_678 : Cond.instanceMethod yX5_allowed ∈ GT := in_gt (in_t4 (List.mem_of_getElem? (i := 216) rfl)) (by decide +kernel)
set_option maxRecDepth 20000 in
theorem wd_679 : Cond.selects "BadgeZonesModel" yX5_allowed yX5_allowed ∈ GT := in_gt (List.mem_append_left _ (List.mem_map.mpr ⟨_, lw_pv 39 rfl, rfl⟩)) (by decide +kernel)
set_option maxRecDepth 20000 in
theorem wd_680 : Cond.code yX5_isDoor cX5_isDoor 2 (some .boolean) ∈ GT := in_gt (in_t4 (List.mem_of_getElem? (i := 94) rfl)) (by decide +kernel)
set_option maxRecDepth 20000 in
theorem wd_681 : Cond.methodLink "BadgeZonesModel" 103 yX5_isDoor ∈ GT := in_gt (in_t4 (List.mem_of_getElem? (i := 91) rfl)) (by decide +kernel)
set_option maxRecDepth 20000 in
theorem wd_682 : Cond.instanceMethod yX5_isDoor ∈ GT := in_gt (in_t4 (List.mem_of_getElem? (i := 93) rfl)) (by decide +kernel)
set_option maxRecDepth 20000 in
theorem wd_683 : Cond.selects "BadgeZonesModel" yX5_isDoor yX5_isDoor ∈ GT := in_gt (List.mem_append_left _ (List.mem_map.mpr ⟨_, lw_pv 25 rfl, rfl⟩)) (by decide +kernel)
set_option maxRecDepth 20000 in
theorem wd_684 : Cond.code yX5_answer cX5_answer 4 (some .int) ∈ GT := in_gt (in_t4 (List.mem_of_getElem? (i := 152) rfl)) (by decide +kernel)
set_option maxRecDepth 20000 in
theorem wd_685 : Cond.methodLink "BadgeZonesModel" 150 yX5_answer ∈ GT := in_gt (in_t4 (List.mem_of_getElem? (i := 149) rfl)) (by decide +kernel)
set_option maxRecDepth 20000 in
theorem wd_686 : Cond.instanceMethod yX5_answer ∈ GT := in_gt (in_t4 (List.mem_of_getElem? (i := 151) rfl)) (by decide +kernel)
set_option maxRecDepth 20000 in
theorem wd_687 : Cond.selects "BadgeZonesModel" yX5_answer yX5_answer ∈ GT := in_gt (List.mem_append_left _ (List.mem_map.mpr ⟨_, lw_pv 31 rfl, rfl⟩)) (by decide +kernel)
set_option maxRecDepth 20000 in
theorem wd_688 : Cond.code yX5_note cX5_note 4 none ∈ GT := in_gt (in_t4 (List.mem_of_getElem? (i := 176) rfl)) (by decide +kernel)
set_option maxRecDepth 20000 in
theorem wd_689 : Cond.methodLink "BadgeZonesModel" 153 yX5_note ∈ GT := in_gt (in_t4 (List.mem_of_getElem? (i := 173) rfl)) (by decide +kernel)
set_option maxRecDepth 20000 in
theorem wd_690 : Cond.instanceMethod yX5_note ∈ GT := in_gt (in_t4 (List.mem_of_getElem? (i := 175) rfl)) (by decide +kernel)
set_option maxRecDepth 20000 in
theorem wd_691 : Cond.selects "BadgeZonesModel" yX5_note yX5_note ∈ GT := in_gt (List.mem_append_left _ (List.mem_map.mpr ⟨_, lw_pv 37 rfl, rfl⟩)) (by decide +kernel)
set_option maxRecDepth 20000 in
theorem wd_692 : Cond.constant "BadgeZonesModel" 121 (99999) ∈ GT := in_gt (in_t4 (List.mem_of_getElem? (i := 140) rfl)) (by decide +kernel)
set_option maxRecDepth 20000 in
theorem wd_693 : Cond.instantiable "BadgeZones" 6 ∈ GT := in_gt (in_t1 (List.mem_of_getElem? (i := 24) rfl)) (by decide +kernel)
set_option maxRecDepth 20000 in
theorem wd_694 : Cond.instantiable "BadgeZonesModel" 20 ∈ GT := in_gt (in_t3 (List.mem_of_getElem? (i := 208) rfl)) (by decide +kernel)
set_option maxRecDepth 20000 in
theorem wd_695 : Cond.instantiable "BadgeZones$Zone" 6 ∈ GT := in_gt (in_t1 (List.mem_of_getElem? (i := 32) rfl)) (by decide +kernel)
set_option maxRecDepth 20000 in
theorem wd_696 : Cond.instantiable "BadgeZones$Door" 5 ∈ GT := in_gt (in_t2 (List.mem_of_getElem? (i := 145) rfl)) (by decide +kernel)
set_option maxRecDepth 20000 in
theorem wd_697 : Cond.instantiable "BadgeZones$Badge" 7 ∈ GT := in_gt (in_t2 (List.mem_of_getElem? (i := 223) rfl)) (by decide +kernel)
set_option maxRecDepth 20000 in
theorem wd_698 : Cond.instantiable "BadgeZones$Stay" 2 ∈ GT := in_gt (in_t2 (List.mem_of_getElem? (i := 231) rfl)) (by decide +kernel)
set_option maxRecDepth 20000 in
theorem wd_699 : Cond.instantiable "java/util/ArrayList" 3 ∈ GT := in_gt (in_t1 (List.mem_of_getElem? (i := 66) rfl)) (by decide +kernel)
set_option maxRecDepth 20000 in
theorem wd_700 : Cond.arrayClass .int ∈ GT := in_gt (in_t4 (List.mem_of_getElem? (i := 34) rfl)) (by decide +kernel)
set_option maxRecDepth 20000 in
theorem wd_701 : Cond.arrayClass .boolean ∈ GT := in_gt (in_t4 (List.mem_of_getElem? (i := 35) rfl)) (by decide +kernel)
set_option maxRecDepth 20000 in
theorem wd_702 : Cond.arrayClass .long ∈ GT := in_gt (in_t4 (List.mem_of_getElem? (i := 232) rfl)) (by decide +kernel)
set_option maxRecDepth 20000 in
theorem wd_703 : Cond.methodLink "java/util/Arrays" 86 ⟨"java/lang/Object", "getClass", "()Ljava/lang/Class;"⟩ ∈ GT := in_gt (in_t1 (List.mem_of_getElem? (i := 120) rfl)) (by decide +kernel)
set_option maxRecDepth 20000 in
theorem wd_704 : Cond.methodLink "java/util/Arrays" 150 ⟨"java/lang/System", "arraycopy", "(Ljava/lang/Object;ILjava/lang/Object;II)V"⟩ ∈ GT := in_gt (in_t1 (List.mem_of_getElem? (i := 143) rfl)) (by decide +kernel)
set_option maxRecDepth 20000 in
theorem wd_705 : Cond.methodLink "BadgeZonesModel" 144 ⟨"java/lang/System", "arraycopy", "(Ljava/lang/Object;ILjava/lang/Object;II)V"⟩ ∈ GT := in_gt (in_t4 (List.mem_of_getElem? (i := 177) rfl)) (by decide +kernel)
set_option maxRecDepth 20000 in
theorem wd_706 : Cond.native ⟨"java/lang/System", "arraycopy", "(Ljava/lang/Object;ILjava/lang/Object;II)V"⟩ ∈ GT := in_gt (in_t1 (List.mem_of_getElem? (i := 145) rfl)) (by decide +kernel)
set_option maxRecDepth 20000 in
theorem wd_707 : Cond.static ⟨"java/lang/System", "arraycopy", "(Ljava/lang/Object;ILjava/lang/Object;II)V"⟩ ∈ GT := in_gt (in_t1 (List.mem_of_getElem? (i := 144) rfl)) (by decide +kernel)
set_option maxRecDepth 20000 in
theorem wd_708 : Cond.initialized "java/lang/System" ∈ GT := in_gt (in_t1 (List.mem_of_getElem? (i := 9) rfl)) (by decide +kernel)
set_option maxRecDepth 20000 in
theorem wd_709 : Cond.selects "[Ljava/lang/Object;" ⟨"java/lang/Object", "getClass", "()Ljava/lang/Class;"⟩ ⟨"java/lang/Object", "getClass", "()Ljava/lang/Class;"⟩ ∈ GT := in_gt (in_t5 (List.mem_of_getElem? (i := 7) rfl)) (by decide +kernel)
set_option maxRecDepth 20000 in
theorem wd_710 : Cond.instanceMethod ⟨"java/lang/Object", "getClass", "()Ljava/lang/Class;"⟩ ∈ GT := in_gt (in_t1 (List.mem_of_getElem? (i := 121) rfl)) (by decide +kernel)
set_option maxRecDepth 20000 in
theorem wd_711 : Cond.native ⟨"java/lang/Object", "getClass", "()Ljava/lang/Class;"⟩ ∈ GT := in_gt (in_t1 (List.mem_of_getElem? (i := 133) rfl)) (by decide +kernel)
theorem ks_J15_105 : LkS RJ15 105 yJ3_checkIndex_8e157 cJ3_checkIndex_8e157 3 (some .int) 3 := ⟨wd_1, wd_2, wd_3, wd_0, by decide +kernel, by decide +kernel⟩
theorem ks_J7_300 : LkS RJ7 300 yJ7_copyOf_6403c cJ7_copyOf_6403c 4 (some (.array (.object "java/lang/Object"))) 3 := ⟨wd_5, wd_6, wd_7, wd_4, by decide +kernel, by decide +kernel⟩
theorem kc_J7_2 : Cond.classLink RJ7 2 "java/lang/Object" ∈ GT := wd_8
theorem kc_J7_110 : Cond.classLink RJ7 110 "[Ljava/lang/Object;" ∈ GT := wd_9
theorem ks_J7_304 : LkS RJ7 304 yJ9_min_7cf53 cJ9_min_7cf53 2 (some .int) 2 := ⟨wd_11, wd_12, wd_13, wd_10, by decide +kernel, by decide +kernel⟩
theorem kk_J8_200 : Cond.constant RJ8 200 (2147483639) ∈ GT := wd_14
theorem ks_J8_194 : LkS RJ8 194 yJ9_max_7cf53 cJ9_max_7cf53 2 (some .int) 2 := ⟨wd_16, wd_17, wd_13, wd_15, by decide +kernel, by decide +kernel⟩
theorem ks_J8_201 : LkS RJ8 201 yJ8_hugeLength_7cf53 cJ8_hugeLength_7cf53 3 (some .int) 2 := ⟨wd_19, wd_20, wd_21, wd_18, by decide +kernel, by decide +kernel⟩
theorem kv_Jx4a65c_129 : LkV RJx4a65c 129 yJx4a65c_grow_d5877 RJx4a65c cJx4a65c_grow_d5877 1 (some (.array (.object "java/lang/Object"))) 0 := ⟨wd_23, wd_24, wd_25, wd_26, wd_22, by decide +kernel, by decide +kernel⟩
theorem kf_Jx4a65c_48 : Cond.fieldLink RJx4a65c 48 "java/util/ArrayList" "size" "I" ∈ GT := wd_27
theorem kf_Jx4a65c_63 : Cond.fieldLink RJx4a65c 63 "java/util/ArrayList" "modCount" "I" ∈ GT := wd_28
theorem kf_Jx4a65c_9 : Cond.fieldLink RJx4a65c 9 "java/util/ArrayList" "elementData" "[Ljava/lang/Object;" ∈ GT := wd_29
theorem kv_Jx4a65c_131 : LkV RJx4a65c 131 yJx4a65c_add_72be8 RJx4a65c cJx4a65c_add_72be8 4 none 3 := ⟨wd_31, wd_32, wd_33, wd_26, wd_30, by decide +kernel, by decide +kernel⟩
theorem ks_Jx4a65c_118 : LkS RJx4a65c 118 yJ15_checkIndex_7cf53 cJ15_checkIndex_7cf53 2 (some .int) 2 := ⟨wd_35, wd_36, wd_37, wd_34, by decide +kernel, by decide +kernel⟩
theorem kv_Jx4a65c_123 : LkV RJx4a65c 123 yJx4a65c_elementData_915e3 RJx4a65c cJx4a65c_elementData_915e3 2 (some (.object "java/lang/Object")) 1 := ⟨wd_39, wd_40, wd_41, wd_26, wd_38, by decide +kernel, by decide +kernel⟩
theorem kf_Jx4a65c_39 : Cond.fieldLink RJx4a65c 39 "java/util/ArrayList" "DEFAULTCAPACITY_EMPTY_ELEMENTDATA" "[Ljava/lang/Object;" ∈ GT := wd_42
theorem ks_Jx4a65c_73 : LkS RJx4a65c 73 yJ8_newLength_cabcc cJ8_newLength_cabcc 4 (some .int) 3 := ⟨wd_44, wd_45, wd_21, wd_43, by decide +kernel, by decide +kernel⟩
theorem ks_Jx4a65c_66 : LkS RJx4a65c 66 yJ7_copyOf_1904c cJ7_copyOf_1904c 2 (some (.array (.object "java/lang/Object"))) 2 := ⟨wd_47, wd_48, wd_7, wd_46, by decide +kernel, by decide +kernel⟩
theorem ks_Jx4a65c_79 : LkS RJx4a65c 79 yJ9_max_7cf53 cJ9_max_7cf53 2 (some .int) 2 := ⟨wd_49, wd_17, wd_13, wd_15, by decide +kernel, by decide +kernel⟩
theorem kc_Jx4a65c_7 : Cond.classLink RJx4a65c 7 "java/lang/Object" ∈ GT := wd_50
theorem kv_Jx4a65c_69 : LkV RJx4a65c 69 yJx4a65c_grow_92f84 RJx4a65c cJx4a65c_grow_92f84 4 (some (.array (.object "java/lang/Object"))) 1 := ⟨wd_52, wd_53, wd_54, wd_26, wd_51, by decide +kernel, by decide +kernel⟩
theorem ki_Jx4a65c_1 : LkI RJx4a65c 1 yJxc12de_init_da8c8 cJxc12de_init_da8c8 1 0 := ⟨wd_56, wd_57, wd_58, wd_55, by decide +kernel, by decide +kernel, by decide +kernel⟩
theorem ko_Jxa1e45_1 : LkO RJxa1e45 1 := ⟨wd_59, wd_60, wd_61⟩
theorem ki_Jxc12de_1 : LkI RJxc12de 1 yJxa1e45_init_da8c8 cJxa1e45_init_da8c8 1 0 := ⟨wd_63, wd_64, wd_65, wd_62, by decide +kernel, by decide +kernel, by decide +kernel⟩
theorem kf_Jxc12de_7 : Cond.fieldLink RJxc12de 7 "java/util/AbstractList" "modCount" "I" ∈ GT := wd_66
theorem kv_L_37 : LkV RL 37 yX4_addBadge RX4 cX4_addBadge 2 (some .int) 1 := ⟨wd_68, wd_69, wd_70, wd_71, wd_67, by decide +kernel, by decide +kernel⟩
theorem kv_L_23 : LkV RL 23 yX4_addDoor RX4 cX4_addDoor 8 (some .int) 4 := ⟨wd_73, wd_74, wd_75, wd_71, wd_72, by decide +kernel, by decide +kernel⟩
theorem kv_L_40 : LkV RL 40 yX4_addVisitor RX4 cX4_addVisitor 3 (some .int) 1 := ⟨wd_77, wd_78, wd_79, wd_71, wd_76, by decide +kernel, by decide +kernel⟩
theorem kv_L_7 : LkV RL 7 yX4_addZone RX4 cX4_addZone 5 (some .int) 3 := ⟨wd_81, wd_82, wd_83, wd_71, wd_80, by decide +kernel, by decide +kernel⟩
theorem kv_L_51 : LkV RL 51 yX4_badge RX4 cX4_badge 4 (some .int) 2 := ⟨wd_85, wd_86, wd_87, wd_71, wd_84, by decide +kernel, by decide +kernel⟩
theorem kv_L_47 : LkV RL 47 yX4_block RX4 cX4_block 5 (some .boolean) 2 := ⟨wd_89, wd_90, wd_91, wd_71, wd_88, by decide +kernel, by decide +kernel⟩
theorem kv_L_78 : LkV RL 78 yX4_canCome RX4 cX4_canCome 6 (some .int) 1 := ⟨wd_93, wd_94, wd_95, wd_71, wd_92, by decide +kernel, by decide +kernel⟩
theorem kv_L_26 : LkV RL 26 yX4_distance RX4 cX4_distance 3 (some .int) 1 := ⟨wd_97, wd_98, wd_99, wd_71, wd_96, by decide +kernel, by decide +kernel⟩
theorem kv_L_63 : LkV RL 63 yX4_inside RX4 cX4_inside 2 (some .int) 1 := ⟨wd_101, wd_102, wd_103, wd_71, wd_100, by decide +kernel, by decide +kernel⟩
theorem kv_L_30 : LkV RL 30 yX4_isOpen RX4 cX4_isOpen 2 (some .boolean) 1 := ⟨wd_105, wd_106, wd_107, wd_71, wd_104, by decide +kernel, by decide +kernel⟩
theorem kc_L_8 : Cond.classLink RL 8 "BadgeZones" ∈ GT := wd_108
theorem ki_L_81 : LkI RL 81 yX4_init cX4_init 1 0 := ⟨wd_110, wd_111, wd_71, wd_109, by decide +kernel, by decide +kernel, by decide +kernel⟩
theorem kc_L_82 : Cond.classLink RL 82 "BadgeZonesModel" ∈ GT := wd_112
theorem ki_L_84 : LkI RL 84 yX5_init cX5_init 1 0 := ⟨wd_114, wd_115, wd_116, wd_113, by decide +kernel, by decide +kernel, by decide +kernel⟩
theorem ks_L_85 : LkSW RL 85 yL_addZone cL_addZone 6 (some .int) [(0, 12, 15, 13), (0, 12, 19, 15)] 5 := ⟨wd_118, wd_119, wd_120, wd_117, by decide +kernel, by decide +kernel⟩
theorem kv_L_90 : LkV RL 90 yX5_addZone RX5 cX5_addZone 4 (some .int) 3 := ⟨wd_122, wd_123, wd_124, wd_116, wd_121, by decide +kernel, by decide +kernel⟩
theorem kv_L_91 : LkV RL 91 yX5_thrown RX5 cX5_thrown 1 (some .int) 0 := ⟨wd_126, wd_127, wd_128, wd_116, wd_125, by decide +kernel, by decide +kernel⟩
theorem ks_L_95 : LkSW RL 95 yL_setZone cL_setZone 7 (some .int) [(0, 14, 17, 21), (0, 14, 21, 13)] 6 := ⟨wd_130, wd_131, wd_120, wd_129, by decide +kernel, by decide +kernel⟩
theorem kv_L_98 : LkV RL 98 yX5_setZone RX5 cX5_setZone 5 (some .int) 4 := ⟨wd_133, wd_134, wd_135, wd_116, wd_132, by decide +kernel, by decide +kernel⟩
theorem ks_L_99 : LkSW RL 99 yL_addDoor cL_addDoor 7 (some .int) [(0, 14, 17, 21), (0, 14, 21, 13), (0, 14, 25, 15)] 6 := ⟨wd_137, wd_138, wd_120, wd_136, by decide +kernel, by decide +kernel⟩
theorem kv_L_101 : LkV RL 101 yX5_addDoor RX5 cX5_addDoor 5 (some .int) 4 := ⟨wd_140, wd_141, wd_142, wd_116, wd_139, by decide +kernel, by decide +kernel⟩
theorem ks_L_102 : LkSW RL 102 yL_distance cL_distance 4 (some .int) [(0, 9, 12, 21)] 3 := ⟨wd_144, wd_145, wd_120, wd_143, by decide +kernel, by decide +kernel⟩
theorem kv_L_105 : LkV RL 105 yX5_distance RX5 cX5_distance 2 (some .int) 1 := ⟨wd_147, wd_148, wd_149, wd_116, wd_146, by decide +kernel, by decide +kernel⟩
theorem ks_L_106 : LkSW RL 106 yL_isOpen cL_isOpen 4 (some .int) [(0, 16, 19, 21)] 3 := ⟨wd_151, wd_152, wd_120, wd_150, by decide +kernel, by decide +kernel⟩
theorem kv_L_108 : LkV RL 108 yX5_isOpen RX5 cX5_isOpen 2 (some .boolean) 1 := ⟨wd_154, wd_155, wd_156, wd_116, wd_153, by decide +kernel, by decide +kernel⟩
theorem ks_L_109 : LkSW RL 109 yL_openFor cL_openFor 4 (some .int) [(0, 9, 12, 21)] 3 := ⟨wd_158, wd_159, wd_120, wd_157, by decide +kernel, by decide +kernel⟩
theorem kv_L_111 : LkV RL 111 yX5_openFor RX5 cX5_openFor 2 (some .int) 1 := ⟨wd_161, wd_162, wd_163, wd_116, wd_160, by decide +kernel, by decide +kernel⟩
theorem ks_L_112 : LkSW RL 112 yL_addBadge cL_addBadge 4 (some .int) [(0, 9, 12, 13), (0, 9, 15, 15)] 3 := ⟨wd_165, wd_166, wd_120, wd_164, by decide +kernel, by decide +kernel⟩
theorem kv_L_114 : LkV RL 114 yX5_addBadge RX5 cX5_addBadge 2 (some .int) 1 := ⟨wd_168, wd_169, wd_170, wd_116, wd_167, by decide +kernel, by decide +kernel⟩
theorem ks_L_115 : LkSW RL 115 yL_addVisitor cL_addVisitor 4 (some .int) [(0, 9, 12, 21), (0, 9, 15, 13), (0, 9, 18, 15)] 3 := ⟨wd_172, wd_173, wd_120, wd_171, by decide +kernel, by decide +kernel⟩
theorem kv_L_117 : LkV RL 117 yX5_addVisitor RX5 cX5_addVisitor 2 (some .int) 1 := ⟨wd_175, wd_176, wd_177, wd_116, wd_174, by decide +kernel, by decide +kernel⟩
theorem ks_L_118 : LkSW RL 118 yL_setRights cL_setRights 5 (some .int) [(0, 10, 13, 21), (0, 10, 17, 13), (0, 10, 21, 15)] 4 := ⟨wd_179, wd_180, wd_120, wd_178, by decide +kernel, by decide +kernel⟩
theorem kv_L_121 : LkV RL 121 yX5_setRights RX5 cX5_setRights 4 (some .int) 2 := ⟨wd_182, wd_183, wd_184, wd_116, wd_181, by decide +kernel, by decide +kernel⟩
theorem ks_L_122 : LkSW RL 122 yL_block cL_block 5 (some .int) [(0, 17, 20, 21)] 4 := ⟨wd_186, wd_187, wd_120, wd_185, by decide +kernel, by decide +kernel⟩
theorem kv_L_125 : LkV RL 125 yX5_block RX5 cX5_block 4 (some .boolean) 2 := ⟨wd_189, wd_190, wd_191, wd_116, wd_188, by decide +kernel, by decide +kernel⟩
theorem ks_L_126 : LkSW RL 126 yL_badge cL_badge 5 (some .int) [(0, 10, 13, 21)] 4 := ⟨wd_193, wd_194, wd_120, wd_192, by decide +kernel, by decide +kernel⟩
theorem kv_L_128 : LkV RL 128 yX5_badge RX5 cX5_badge 3 (some .int) 2 := ⟨wd_196, wd_197, wd_198, wd_116, wd_195, by decide +kernel, by decide +kernel⟩
theorem ks_L_129 : LkSW RL 129 yL_tick cL_tick 4 (some .int) [(0, 9, 12, 13), (0, 9, 15, 15)] 3 := ⟨wd_200, wd_201, wd_120, wd_199, by decide +kernel, by decide +kernel⟩
theorem kv_L_131 : LkV RL 131 yX5_tick RX5 cX5_tick 2 (some .int) 1 := ⟨wd_203, wd_204, wd_205, wd_116, wd_202, by decide +kernel, by decide +kernel⟩
theorem kv_L_132 : LkV RL 132 yX4_alarm RX4 cX4_alarm 3 (some .boolean) 1 := ⟨wd_207, wd_208, wd_209, wd_71, wd_206, by decide +kernel, by decide +kernel⟩
theorem kv_L_136 : LkV RL 136 yX5_alarm RX5 cX5_alarm 3 (some .boolean) 1 := ⟨wd_211, wd_212, wd_213, wd_116, wd_210, by decide +kernel, by decide +kernel⟩
theorem ks_L_137 : LkSW RL 137 yL_request cL_request 5 (some .int) [(0, 10, 13, 21)] 4 := ⟨wd_215, wd_216, wd_120, wd_214, by decide +kernel, by decide +kernel⟩
theorem kv_L_139 : LkV RL 139 yX5_request RX5 cX5_request 4 (some .int) 2 := ⟨wd_218, wd_219, wd_220, wd_116, wd_217, by decide +kernel, by decide +kernel⟩
theorem ks_L_140 : LkSW RL 140 yL_wouldBe cL_wouldBe 5 (some .int) [(0, 10, 13, 21)] 4 := ⟨wd_222, wd_223, wd_120, wd_221, by decide +kernel, by decide +kernel⟩
theorem kv_L_142 : LkV RL 142 yX5_wouldBe RX5 cX5_wouldBe 3 (some .int) 2 := ⟨wd_225, wd_226, wd_227, wd_116, wd_224, by decide +kernel, by decide +kernel⟩
theorem kv_L_143 : LkV RL 143 yX4_now RX4 cX4_now 1 (some .int) 0 := ⟨wd_229, wd_230, wd_231, wd_71, wd_228, by decide +kernel, by decide +kernel⟩
theorem kv_L_146 : LkV RL 146 yX5_now RX5 cX5_now 1 (some .int) 0 := ⟨wd_233, wd_234, wd_235, wd_116, wd_232, by decide +kernel, by decide +kernel⟩
theorem ks_L_147 : LkSW RL 147 yL_inside cL_inside 4 (some .int) [(0, 9, 12, 21)] 3 := ⟨wd_237, wd_238, wd_120, wd_236, by decide +kernel, by decide +kernel⟩
theorem kv_L_149 : LkV RL 149 yX5_inside RX5 cX5_inside 2 (some .int) 1 := ⟨wd_240, wd_241, wd_242, wd_116, wd_239, by decide +kernel, by decide +kernel⟩
theorem kv_L_150 : LkV RL 150 yX4_alone RX4 cX4_alone 3 (some .int) 0 := ⟨wd_244, wd_245, wd_246, wd_71, wd_243, by decide +kernel, by decide +kernel⟩
theorem kv_L_153 : LkV RL 153 yX5_alone RX5 cX5_alone 3 (some .int) 0 := ⟨wd_248, wd_249, wd_250, wd_116, wd_247, by decide +kernel, by decide +kernel⟩
theorem ks_L_154 : LkSW RL 154 yL_wasIn cL_wasIn 5 (some .int) [(0, 10, 13, 21), (0, 10, 17, 13)] 4 := ⟨wd_252, wd_253, wd_120, wd_251, by decide +kernel, by decide +kernel⟩
theorem kv_L_156 : LkV RL 156 yX5_wasIn RX5 cX5_wasIn 5 (some .int) 2 := ⟨wd_255, wd_256, wd_257, wd_116, wd_254, by decide +kernel, by decide +kernel⟩
theorem ks_L_157 : LkSW RL 157 yL_minutesIn cL_minutesIn 5 (some .int) [(0, 10, 13, 21)] 4 := ⟨wd_259, wd_260, wd_120, wd_258, by decide +kernel, by decide +kernel⟩
theorem kv_L_159 : LkV RL 159 yX5_minutesIn RX5 cX5_minutesIn 7 (some .int) 2 := ⟨wd_262, wd_263, wd_264, wd_116, wd_261, by decide +kernel, by decide +kernel⟩
theorem kv_L_160 : LkV RL 160 yX4_presence RX4 cX4_presence 2 (some .double) 0 := ⟨wd_266, wd_267, wd_268, wd_71, wd_265, by decide +kernel, by decide +kernel⟩
theorem kv_L_164 : LkV RL 164 yX5_presence RX5 cX5_presence 1 (some .double) 0 := ⟨wd_270, wd_271, wd_272, wd_116, wd_269, by decide +kernel, by decide +kernel⟩
theorem ks_L_165 : LkSW RL 165 yL_way cL_way 5 (some .int) [(0, 10, 13, 21)] 4 := ⟨wd_274, wd_275, wd_120, wd_273, by decide +kernel, by decide +kernel⟩
theorem kv_L_167 : LkV RL 167 yX5_way RX5 cX5_way 3 (some .int) 2 := ⟨wd_277, wd_278, wd_279, wd_116, wd_276, by decide +kernel, by decide +kernel⟩
theorem ks_L_168 : LkSW RL 168 yL_next cL_next 5 (some .int) [(0, 10, 13, 21)] 4 := ⟨wd_281, wd_282, wd_120, wd_280, by decide +kernel, by decide +kernel⟩
theorem kv_L_170 : LkV RL 170 yX5_next RX5 cX5_next 7 (some .int) 2 := ⟨wd_284, wd_285, wd_286, wd_116, wd_283, by decide +kernel, by decide +kernel⟩
theorem ks_L_171 : LkSW RL 171 yL_canCome cL_canCome 4 (some .int) [(0, 9, 12, 21)] 3 := ⟨wd_288, wd_289, wd_120, wd_287, by decide +kernel, by decide +kernel⟩
theorem kv_L_173 : LkV RL 173 yX5_canCome RX5 cX5_canCome 4 (some .int) 1 := ⟨wd_291, wd_292, wd_293, wd_116, wd_290, by decide +kernel, by decide +kernel⟩
theorem kv_L_174 : LkV RL 174 yX4_digest RX4 cX4_digest 6 (some .long) 0 := ⟨wd_295, wd_296, wd_297, wd_71, wd_294, by decide +kernel, by decide +kernel⟩
theorem kv_L_178 : LkV RL 178 yX5_digest RX5 cX5_digest 5 (some .long) 0 := ⟨wd_299, wd_300, wd_301, wd_116, wd_298, by decide +kernel, by decide +kernel⟩
theorem kv_L_69 : LkV RL 69 yX4_minutesIn RX4 cX4_minutesIn 4 (some .int) 2 := ⟨wd_303, wd_304, wd_305, wd_71, wd_302, by decide +kernel, by decide +kernel⟩
theorem kv_L_75 : LkV RL 75 yX4_next RX4 cX4_next 4 (some .int) 2 := ⟨wd_307, wd_308, wd_309, wd_71, wd_306, by decide +kernel, by decide +kernel⟩
theorem kv_L_34 : LkV RL 34 yX4_openFor RX4 cX4_openFor 2 (some .int) 1 := ⟨wd_311, wd_312, wd_313, wd_71, wd_310, by decide +kernel, by decide +kernel⟩
theorem kv_L_57 : LkV RL 57 yX4_request RX4 cX4_request 6 (some .int) 2 := ⟨wd_315, wd_316, wd_317, wd_71, wd_314, by decide +kernel, by decide +kernel⟩
theorem kv_L_43 : LkV RL 43 yX4_setRights RX4 cX4_setRights 5 (some .int) 2 := ⟨wd_319, wd_320, wd_321, wd_71, wd_318, by decide +kernel, by decide +kernel⟩
theorem kv_L_17 : LkV RL 17 yX4_setZone RX4 cX4_setZone 6 (some .int) 4 := ⟨wd_323, wd_324, wd_325, wd_71, wd_322, by decide +kernel, by decide +kernel⟩
theorem kv_L_54 : LkV RL 54 yX4_tick RX4 cX4_tick 2 (some .int) 1 := ⟨wd_327, wd_328, wd_329, wd_71, wd_326, by decide +kernel, by decide +kernel⟩
theorem kv_L_66 : LkV RL 66 yX4_wasIn RX4 cX4_wasIn 4 (some .int) 2 := ⟨wd_331, wd_332, wd_333, wd_71, wd_330, by decide +kernel, by decide +kernel⟩
theorem kv_L_72 : LkV RL 72 yX4_way RX4 cX4_way 4 (some .int) 2 := ⟨wd_335, wd_336, wd_337, wd_71, wd_334, by decide +kernel, by decide +kernel⟩
theorem kv_L_60 : LkV RL 60 yX4_wouldBe RX4 cX4_wouldBe 4 (some .int) 2 := ⟨wd_339, wd_340, wd_341, wd_71, wd_338, by decide +kernel, by decide +kernel⟩
theorem kf_X0_22 : Cond.fieldLink RX0 22 "BadgeZones$Badge" "refusals" "I" ∈ GT := wd_342
theorem kf_X0_18 : Cond.fieldLink RX0 18 "BadgeZones$Badge" "isBlocked" "Z" ∈ GT := wd_343
theorem kf_X0_41 : Cond.fieldLink RX0 41 "BadgeZones$Badge" "stay" "LBadgeZones$Stay;" ∈ GT := wd_344
theorem kf_X0_60 : Cond.fieldLink RX0 60 "BadgeZones$Stay" "since" "I" ∈ GT := wd_345
theorem kf_X0_12 : Cond.fieldLink RX0 12 "BadgeZones$Badge" "stays" "Ljava/util/ArrayList;" ∈ GT := wd_346
theorem kv_X0_63 : LkV RX0 63 yJx4a65c_size_8abf5 RJx4a65c cJx4a65c_size_8abf5 1 (some .int) 0 := ⟨wd_348, wd_349, wd_350, wd_26, wd_347, by decide +kernel, by decide +kernel⟩
theorem kf_X0_56 : Cond.fieldLink RX0 56 "BadgeZones$Stay" "zone" "LBadgeZones$Zone;" ∈ GT := wd_351
theorem kc_X0_36 : Cond.classLink RX0 36 "BadgeZones$Stay" ∈ GT := wd_352
theorem ki_X0_38 : LkI RX0 38 yX2_init cX2_init 3 2 := ⟨wd_354, wd_355, wd_356, wd_353, by decide +kernel, by decide +kernel, by decide +kernel⟩
theorem kv_X0_45 : LkV RX0 45 yJx4a65c_add_9ea2d RJx4a65c cJx4a65c_add_9ea2d 2 (some .boolean) 1 := ⟨wd_358, wd_359, wd_360, wd_26, wd_357, by decide +kernel, by decide +kernel⟩
theorem kf_X0_49 : Cond.fieldLink RX0 49 "BadgeZones$Zone" "number" "I" ∈ GT := wd_361
theorem kv_X0_52 : LkV RX0 52 yX0_rightsNow RX0 cX0_rightsNow 1 (some .int) 0 := ⟨wd_363, wd_364, wd_365, wd_366, wd_362, by decide +kernel, by decide +kernel⟩
theorem ko_X0_3 : LkO RX0 3 := ⟨wd_367, wd_60, wd_61⟩
theorem kc_X0_9 : Cond.classLink RX0 9 "java/util/ArrayList" ∈ GT := wd_368
theorem ki_X0_11 : LkI RX0 11 yJx4a65c_init_da8c8 cJx4a65c_init_da8c8 1 0 := ⟨wd_370, wd_371, wd_26, wd_369, by decide +kernel, by decide +kernel, by decide +kernel⟩
theorem kf_X0_26 : Cond.fieldLink RX0 26 "BadgeZones$Badge" "number" "I" ∈ GT := wd_372
theorem kf_X0_29 : Cond.fieldLink RX0 29 "BadgeZones$Badge" "host" "LBadgeZones$Badge;" ∈ GT := wd_373
theorem kf_X0_33 : Cond.fieldLink RX0 33 "BadgeZones$Badge" "ownRights" "I" ∈ GT := wd_374
theorem kv_X0_66 : LkV RX0 66 yJx4a65c_get_915e3 RJx4a65c cJx4a65c_get_915e3 2 (some (.object "java/lang/Object")) 1 := ⟨wd_376, wd_377, wd_378, wd_26, wd_375, by decide +kernel, by decide +kernel⟩
theorem kf_X1_25 : Cond.fieldLink RX1 25 "BadgeZones$Door" "lock" "I" ∈ GT := wd_379
theorem ko_X1_3 : LkO RX1 3 := ⟨wd_380, wd_60, wd_61⟩
theorem kf_X1_9 : Cond.fieldLink RX1 9 "BadgeZones$Door" "openUntil" "I" ∈ GT := wd_381
theorem kf_X1_15 : Cond.fieldLink RX1 15 "BadgeZones$Door" "sideA" "LBadgeZones$Zone;" ∈ GT := wd_382
theorem kf_X1_19 : Cond.fieldLink RX1 19 "BadgeZones$Door" "sideB" "LBadgeZones$Zone;" ∈ GT := wd_383
theorem kf_X1_22 : Cond.fieldLink RX1 22 "BadgeZones$Door" "hold" "I" ∈ GT := wd_384
theorem ks_X1_34 : LkS RX1 34 yX1_measureFrom cX1_measureFrom 3 none 3 := ⟨wd_386, wd_387, wd_388, wd_385, by decide +kernel, by decide +kernel⟩
theorem kf_X1_38 : Cond.fieldLink RX1 38 "BadgeZones$Zone" "isOnTheWay" "Z" ∈ GT := wd_389
theorem kf_X1_44 : Cond.fieldLink RX1 44 "BadgeZones$Zone" "doorsLeft" "I" ∈ GT := wd_390
theorem ks_X1_28 : LkS RX1 28 yJ9_max_7cf53 cJ9_max_7cf53 2 (some .int) 2 := ⟨wd_391, wd_17, wd_13, wd_15, by decide +kernel, by decide +kernel⟩
theorem ko_X2_1 : LkO RX2 1 := ⟨wd_392, wd_60, wd_61⟩
theorem kf_X2_7 : Cond.fieldLink RX2 7 "BadgeZones$Stay" "zone" "LBadgeZones$Zone;" ∈ GT := wd_393
theorem kf_X2_13 : Cond.fieldLink RX2 13 "BadgeZones$Stay" "since" "I" ∈ GT := wd_394
theorem kf_X3_28 : Cond.fieldLink RX3 28 "BadgeZones$Zone" "end" "I" ∈ GT := wd_395
theorem kf_X3_25 : Cond.fieldLink RX3 25 "BadgeZones$Zone" "begin" "I" ∈ GT := wd_396
theorem ko_X3_3 : LkO RX3 3 := ⟨wd_397, wd_60, wd_61⟩
theorem kf_X3_9 : Cond.fieldLink RX3 9 "BadgeZones$Zone" "isOnTheWay" "Z" ∈ GT := wd_398
theorem kf_X3_15 : Cond.fieldLink RX3 15 "BadgeZones$Zone" "doorsLeft" "I" ∈ GT := wd_399
theorem kf_X3_19 : Cond.fieldLink RX3 19 "BadgeZones$Zone" "number" "I" ∈ GT := wd_400
theorem kf_X3_22 : Cond.fieldLink RX3 22 "BadgeZones$Zone" "capacity" "I" ∈ GT := wd_401
theorem ks_X4_114 : LkS RX4 114 yX4_checkRights cX4_checkRights 1 none 1 := ⟨wd_403, wd_404, wd_71, wd_402, by decide +kernel, by decide +kernel⟩
theorem kv_X4_118 : LkV RX4 118 yX4_keepBadge RX4 cX4_keepBadge 4 (some .int) 2 := ⟨wd_406, wd_407, wd_408, wd_71, wd_405, by decide +kernel, by decide +kernel⟩
theorem kv_X4_58 : LkV RX4 58 yX4_zoneAt RX4 cX4_zoneAt 2 (some (.object "BadgeZones$Zone")) 1 := ⟨wd_410, wd_411, wd_412, wd_71, wd_409, by decide +kernel, by decide +kernel⟩
theorem ks_X4_80 : LkS RX4 80 yX4_isWithin cX4_isWithin 3 (some .boolean) 3 := ⟨wd_414, wd_415, wd_71, wd_413, by decide +kernel, by decide +kernel⟩
theorem kc_X4_84 : Cond.classLink RX4 84 "java/lang/IllegalArgumentException" ∈ GT := wd_416
theorem kf_X4_25 : Cond.fieldLink RX4 25 "BadgeZones" "doors" "Ljava/util/ArrayList;" ∈ GT := wd_417
theorem kv_X4_47 : LkV RX4 47 yJx4a65c_size_8abf5 RJx4a65c cJx4a65c_size_8abf5 1 (some .int) 0 := ⟨wd_418, wd_349, wd_350, wd_26, wd_347, by decide +kernel, by decide +kernel⟩
theorem kc_X4_51 : Cond.classLink RX4 51 "java/lang/IllegalStateException" ∈ GT := wd_419
theorem kc_X4_91 : Cond.classLink RX4 91 "BadgeZones$Door" ∈ GT := wd_420
theorem ki_X4_93 : LkI RX4 93 yX1_init cX1_init 5 4 := ⟨wd_422, wd_423, wd_388, wd_421, by decide +kernel, by decide +kernel, by decide +kernel⟩
theorem kv_X4_39 : LkV RX4 39 yJx4a65c_add_9ea2d RJx4a65c cJx4a65c_add_9ea2d 2 (some .boolean) 1 := ⟨wd_424, wd_359, wd_360, wd_26, wd_357, by decide +kernel, by decide +kernel⟩
theorem kk_X4_228 : Cond.constantLong RX4 228 (31) ∈ GT := wd_425
theorem kv_X4_122 : LkV RX4 122 yX4_badgeAt RX4 cX4_badgeAt 2 (some (.object "BadgeZones$Badge")) 1 := ⟨wd_427, wd_428, wd_429, wd_71, wd_426, by decide +kernel, by decide +kernel⟩
theorem kf_X4_126 : Cond.fieldLink RX4 126 "BadgeZones$Badge" "host" "LBadgeZones$Badge;" ∈ GT := wd_430
theorem ks_X4_43 : LkS RX4 43 yX4_checkZone cX4_checkZone 3 none 3 := ⟨wd_432, wd_433, wd_71, wd_431, by decide +kernel, by decide +kernel⟩
theorem kf_X4_21 : Cond.fieldLink RX4 21 "BadgeZones" "zones" "Ljava/util/ArrayList;" ∈ GT := wd_434
theorem kc_X4_9 : Cond.classLink RX4 9 "BadgeZones$Zone" ∈ GT := wd_435
theorem ki_X4_11 : LkI RX4 11 yX3_init cX3_init 5 4 := ⟨wd_437, wd_438, wd_439, wd_436, by decide +kernel, by decide +kernel, by decide +kernel⟩
theorem kf_X4_35 : Cond.fieldLink RX4 35 "BadgeZones" "isAlarm" "Z" ∈ GT := wd_440
theorem kf_X4_28 : Cond.fieldLink RX4 28 "BadgeZones" "badges" "Ljava/util/ArrayList;" ∈ GT := wd_441
theorem kv_X4_169 : LkV RX4 169 yJx4a65c_get_915e3 RJx4a65c cJx4a65c_get_915e3 2 (some (.object "java/lang/Object")) 1 := ⟨wd_442, wd_377, wd_378, wd_26, wd_375, by decide +kernel, by decide +kernel⟩
theorem kc_X4_127 : Cond.classLink RX4 127 "BadgeZones$Badge" ∈ GT := wd_443
theorem kf_X4_14 : Cond.fieldLink RX4 14 "BadgeZones" "outside" "LBadgeZones$Zone;" ∈ GT := wd_444
theorem kv_X4_173 : LkV RX4 173 yX0_isAlone RX0 cX0_isAlone 2 (some .boolean) 1 := ⟨wd_446, wd_447, wd_448, wd_366, wd_445, by decide +kernel, by decide +kernel⟩
theorem kv_X4_96 : LkV RX4 96 yX4_measureDistances RX4 cX4_measureDistances 2 none 0 := ⟨wd_450, wd_451, wd_452, wd_71, wd_449, by decide +kernel, by decide +kernel⟩
theorem kf_X4_99 : Cond.fieldLink RX4 99 "BadgeZones$Zone" "doorsLeft" "I" ∈ GT := wd_453
theorem kf_X4_193 : Cond.fieldLink RX4 193 "BadgeZones$Badge" "stay" "LBadgeZones$Stay;" ∈ GT := wd_454
theorem kf_X4_197 : Cond.fieldLink RX4 197 "BadgeZones$Stay" "zone" "LBadgeZones$Zone;" ∈ GT := wd_455
theorem kv_X4_254 : LkV RX4 254 yX0_wouldLackHost RX0 cX0_wouldLackHost 4 (some .boolean) 2 := ⟨wd_457, wd_458, wd_459, wd_366, wd_456, by decide +kernel, by decide +kernel⟩
theorem kv_X4_247 : LkV RX4 247 yX0_hasRightFor RX0 cX0_hasRightFor 2 (some .boolean) 1 := ⟨wd_461, wd_462, wd_463, wd_366, wd_460, by decide +kernel, by decide +kernel⟩
theorem kf_X4_31 : Cond.fieldLink RX4 31 "BadgeZones" "minute" "I" ∈ GT := wd_464
theorem kv_X4_102 : LkV RX4 102 yX3_hasHoursAt RX3 cX3_hasHoursAt 3 (some .boolean) 1 := ⟨wd_466, wd_467, wd_468, wd_439, wd_465, by decide +kernel, by decide +kernel⟩
theorem kv_X4_76 : LkV RX4 76 yX4_countIn RX4 cX4_countIn 2 (some .int) 1 := ⟨wd_470, wd_471, wd_472, wd_71, wd_469, by decide +kernel, by decide +kernel⟩
theorem kf_X4_67 : Cond.fieldLink RX4 67 "BadgeZones$Zone" "capacity" "I" ∈ GT := wd_473
theorem kv_X4_250 : LkV RX4 250 yX4_isExcluded RX4 cX4_isExcluded 4 (some .boolean) 1 := ⟨wd_475, wd_476, wd_477, wd_71, wd_474, by decide +kernel, by decide +kernel⟩
theorem kv_X4_258 : LkV RX4 258 yX4_wouldLeaveVisitor RX4 cX4_wouldLeaveVisitor 5 (some .boolean) 1 := ⟨wd_479, wd_480, wd_481, wd_71, wd_478, by decide +kernel, by decide +kernel⟩
theorem kf_X4_139 : Cond.fieldLink RX4 139 "BadgeZones$Badge" "isBlocked" "Z" ∈ GT := wd_482
theorem kv_X4_235 : LkV RX4 235 yX1_otherSide RX1 cX1_otherSide 2 (some (.object "BadgeZones$Zone")) 1 := ⟨wd_484, wd_485, wd_486, wd_388, wd_483, by decide +kernel, by decide +kernel⟩
theorem kv_X4_239 : LkV RX4 239 yX4_answerInAlarm RX4 cX4_answerInAlarm 3 (some .int) 2 := ⟨wd_488, wd_489, wd_490, wd_71, wd_487, by decide +kernel, by decide +kernel⟩
theorem kv_X4_243 : LkV RX4 243 yX4_answerInPeace RX4 cX4_answerInPeace 4 (some .int) 3 := ⟨wd_492, wd_493, wd_494, wd_71, wd_491, by decide +kernel, by decide +kernel⟩
theorem kc_X4_62 : Cond.classLink RX4 62 "java/lang/IndexOutOfBoundsException" ∈ GT := wd_495
theorem kv_X4_147 : LkV RX4 147 yX0_tell RX0 cX0_tell 2 (some .int) 1 := ⟨wd_497, wd_498, wd_499, wd_366, wd_496, by decide +kernel, by decide +kernel⟩
theorem kf_X4_142 : Cond.fieldLink RX4 142 "BadgeZones$Badge" "refusals" "I" ∈ GT := wd_500
theorem kv_X4_189 : LkV RX4 189 yX4_measureWays RX4 cX4_measureWays 5 none 2 := ⟨wd_502, wd_503, wd_504, wd_71, wd_501, by decide +kernel, by decide +kernel⟩
theorem kv_X4_166 : LkV RX4 166 yX4_badgesIn RX4 cX4_badgesIn 4 (some .int) 1 := ⟨wd_506, wd_507, wd_508, wd_71, wd_505, by decide +kernel, by decide +kernel⟩
theorem ks_X4_230 : LkS RX4 230 yJ6_bitCount_0f7a4 cJ6_bitCount_0f7a4 1 (some .int) 1 := ⟨wd_510, wd_511, wd_512, wd_509, by decide +kernel, by decide +kernel⟩
theorem kk_X4_205 : Cond.constantLong RX4 205 (179) ∈ GT := wd_513
theorem ks_X4_207 : LkS RX4 207 yX4_addTo cX4_addTo 3 (some .long) 2 := ⟨wd_515, wd_516, wd_71, wd_514, by decide +kernel, by decide +kernel⟩
theorem kv_X4_110 : LkV RX4 110 yX1_minutesLeft RX1 cX1_minutesLeft 2 (some .int) 1 := ⟨wd_518, wd_519, wd_520, wd_388, wd_517, by decide +kernel, by decide +kernel⟩
theorem kf_X4_272 : Cond.fieldLink RX4 272 "BadgeZones$Zone" "isOnTheWay" "Z" ∈ GT := wd_521
theorem ko_X4_3 : LkO RX4 3 := ⟨wd_522, wd_60, wd_61⟩
theorem kc_X4_18 : Cond.classLink RX4 18 "java/util/ArrayList" ∈ GT := wd_523
theorem ki_X4_20 : LkI RX4 20 yJx4a65c_init_da8c8 cJx4a65c_init_da8c8 1 0 := ⟨wd_524, wd_371, wd_26, wd_369, by decide +kernel, by decide +kernel, by decide +kernel⟩
theorem kv_X4_262 : LkV RX4 262 yX1_excludes RX1 cX1_excludes 2 (some .boolean) 1 := ⟨wd_526, wd_527, wd_528, wd_388, wd_525, by decide +kernel, by decide +kernel⟩
theorem ki_X4_225 : LkI RX4 225 yX0_init cX0_init 5 4 := ⟨wd_530, wd_531, wd_366, wd_529, by decide +kernel, by decide +kernel, by decide +kernel⟩
theorem kv_X4_275 : LkV RX4 275 yX4_measureTo RX4 cX4_measureTo 4 none 1 := ⟨wd_533, wd_534, wd_535, wd_71, wd_532, by decide +kernel, by decide +kernel⟩
theorem kv_X4_279 : LkV RX4 279 yX1_measureBack RX1 cX1_measureBack 2 none 1 := ⟨wd_537, wd_538, wd_539, wd_388, wd_536, by decide +kernel, by decide +kernel⟩
theorem kv_X4_185 : LkV RX4 185 yX0_minutesSpent RX0 cX0_minutesSpent 7 (some .int) 2 := ⟨wd_541, wd_542, wd_543, wd_366, wd_540, by decide +kernel, by decide +kernel⟩
theorem kv_X4_202 : LkV RX4 202 yX4_firstDoorFrom RX4 cX4_firstDoorFrom 4 (some .int) 1 := ⟨wd_545, wd_546, wd_547, wd_71, wd_544, by decide +kernel, by decide +kernel⟩
theorem kv_X4_106 : LkV RX4 106 yX4_doorAt RX4 cX4_doorAt 2 (some (.object "BadgeZones$Door")) 1 := ⟨wd_549, wd_550, wd_551, wd_71, wd_548, by decide +kernel, by decide +kernel⟩
theorem kv_X4_265 : LkV RX4 265 yX0_enter RX0 cX0_enter 3 none 2 := ⟨wd_553, wd_554, wd_555, wd_366, wd_552, by decide +kernel, by decide +kernel⟩
theorem kv_X4_269 : LkV RX4 269 yX1_openAt RX1 cX1_openAt 2 none 1 := ⟨wd_557, wd_558, wd_559, wd_388, wd_556, by decide +kernel, by decide +kernel⟩
theorem kv_X4_155 : LkV RX4 155 yX4_answerTo RX4 cX4_answerTo 4 (some .int) 2 := ⟨wd_561, wd_562, wd_563, wd_71, wd_560, by decide +kernel, by decide +kernel⟩
theorem kv_X4_159 : LkV RX4 159 yX4_pass RX4 cX4_pass 4 none 2 := ⟨wd_565, wd_566, wd_567, wd_71, wd_564, by decide +kernel, by decide +kernel⟩
theorem kv_X4_163 : LkV RX4 163 yX0_countRefusal RX0 cX0_countRefusal 1 none 0 := ⟨wd_569, wd_570, wd_571, wd_366, wd_568, by decide +kernel, by decide +kernel⟩
theorem kf_X4_136 : Cond.fieldLink RX4 136 "BadgeZones$Badge" "ownRights" "I" ∈ GT := wd_572
theorem kf_X4_70 : Cond.fieldLink RX4 70 "BadgeZones$Zone" "begin" "I" ∈ GT := wd_573
theorem kf_X4_73 : Cond.fieldLink RX4 73 "BadgeZones$Zone" "end" "I" ∈ GT := wd_574
theorem kk_X4_152 : Cond.constant RX4 152 (99999) ∈ GT := wd_575
theorem kv_X4_179 : LkV RX4 179 yX0_zoneAtEndOf RX0 cX0_zoneAtEndOf 4 (some (.object "BadgeZones$Zone")) 1 := ⟨wd_577, wd_578, wd_579, wd_366, wd_576, by decide +kernel, by decide +kernel⟩
theorem kf_X4_182 : Cond.fieldLink RX4 182 "BadgeZones$Zone" "number" "I" ∈ GT := wd_580
theorem kf_X5_23 : Cond.fieldLink RX5 23 "BadgeZonesModel" "sides" "[I" ∈ GT := wd_581
theorem kf_X5_35 : Cond.fieldLink RX5 35 "BadgeZonesModel" "places" "[I" ∈ GT := wd_582
theorem kf_X5_60 : Cond.fieldLink RX5 60 "BadgeZonesModel" "badges" "I" ∈ GT := wd_583
theorem kf_X5_38 : Cond.fieldLink RX5 38 "BadgeZonesModel" "rights" "[I" ∈ GT := wd_584
theorem kf_X5_41 : Cond.fieldLink RX5 41 "BadgeZonesModel" "hosts" "[I" ∈ GT := wd_585
theorem kf_X5_44 : Cond.fieldLink RX5 44 "BadgeZonesModel" "areBlocked" "[Z" ∈ GT := wd_586
theorem kf_X5_48 : Cond.fieldLink RX5 48 "BadgeZonesModel" "refusals" "[I" ∈ GT := wd_587
theorem kf_X5_54 : Cond.fieldLink RX5 54 "BadgeZonesModel" "thrown" "I" ∈ GT := wd_588
theorem kv_X5_67 : LkV RX5 67 yX5_fail RX5 cX5_fail 2 (some .int) 1 := ⟨wd_590, wd_591, wd_592, wd_116, wd_589, by decide +kernel, by decide +kernel⟩
theorem kv_X5_109 : LkV RX5 109 yX5_add RX5 cX5_add 3 (some .int) 2 := ⟨wd_594, wd_595, wd_596, wd_116, wd_593, by decide +kernel, by decide +kernel⟩
theorem kv_X5_71 : LkV RX5 71 yX5_isZone RX5 cX5_isZone 2 (some .boolean) 1 := ⟨wd_598, wd_599, wd_600, wd_116, wd_597, by decide +kernel, by decide +kernel⟩
theorem kf_X5_57 : Cond.fieldLink RX5 57 "BadgeZonesModel" "doors" "I" ∈ GT := wd_601
theorem kf_X5_26 : Cond.fieldLink RX5 26 "BadgeZonesModel" "holds" "[I" ∈ GT := wd_602
theorem kf_X5_29 : Cond.fieldLink RX5 29 "BadgeZonesModel" "locks" "[I" ∈ GT := wd_603
theorem kf_X5_32 : Cond.fieldLink RX5 32 "BadgeZonesModel" "shuts" "[I" ∈ GT := wd_604
theorem kv_X5_112 : LkV RX5 112 yX5_isBadge RX5 cX5_isBadge 2 (some .boolean) 1 := ⟨wd_606, wd_607, wd_608, wd_116, wd_605, by decide +kernel, by decide +kernel⟩
theorem ks_X5_63 : LkS RX5 63 yX5_areHours cX5_areHours 3 (some .boolean) 3 := ⟨wd_610, wd_611, wd_116, wd_609, by decide +kernel, by decide +kernel⟩
theorem kf_X5_7 : Cond.fieldLink RX5 7 "BadgeZonesModel" "zones" "I" ∈ GT := wd_612
theorem kf_X5_13 : Cond.fieldLink RX5 13 "BadgeZonesModel" "capacities" "[I" ∈ GT := wd_613
theorem kf_X5_17 : Cond.fieldLink RX5 17 "BadgeZonesModel" "begins" "[I" ∈ GT := wd_614
theorem kf_X5_20 : Cond.fieldLink RX5 20 "BadgeZonesModel" "ends" "[I" ∈ GT := wd_615
theorem kf_X5_122 : Cond.fieldLink RX5 122 "BadgeZonesModel" "isAlarm" "Z" ∈ GT := wd_616
theorem kv_X5_94 : LkV RX5 94 yX5_isOpenNow RX5 cX5_isOpenNow 3 (some .boolean) 1 := ⟨wd_618, wd_619, wd_620, wd_116, wd_617, by decide +kernel, by decide +kernel⟩
theorem kv_X5_115 : LkV RX5 115 yX5_rightsOf RX5 cX5_rightsOf 2 (some .int) 1 := ⟨wd_622, wd_623, wd_624, wd_116, wd_621, by decide +kernel, by decide +kernel⟩
theorem ks_X5_83 : LkS RX5 83 yX5_has cX5_has 2 (some .boolean) 2 := ⟨wd_626, wd_627, wd_116, wd_625, by decide +kernel, by decide +kernel⟩
theorem kv_X5_126 : LkV RX5 126 yX5_across RX5 cX5_across 3 (some .int) 2 := ⟨wd_629, wd_630, wd_631, wd_116, wd_628, by decide +kernel, by decide +kernel⟩
theorem kv_X5_129 : LkV RX5 129 yX5_isNearer RX5 cX5_isNearer 5 (some .boolean) 2 := ⟨wd_633, wd_634, wd_635, wd_116, wd_632, by decide +kernel, by decide +kernel⟩
theorem kv_X5_132 : LkV RX5 132 yX5_isWithoutHost RX5 cX5_isWithoutHost 3 (some .boolean) 2 := ⟨wd_637, wd_638, wd_639, wd_116, wd_636, by decide +kernel, by decide +kernel⟩
theorem kv_X5_75 : LkV RX5 75 yX5_insideOf RX5 cX5_insideOf 4 (some .int) 1 := ⟨wd_641, wd_642, wd_643, wd_116, wd_640, by decide +kernel, by decide +kernel⟩
theorem ks_X5_78 : LkS RX5 78 yJ6_bitCount_0f7a4 cJ6_bitCount_0f7a4 1 (some .int) 1 := ⟨wd_644, wd_511, wd_512, wd_509, by decide +kernel, by decide +kernel⟩
theorem kv_X5_135 : LkV RX5 135 yX5_isExcluded RX5 cX5_isExcluded 4 (some .boolean) 1 := ⟨wd_646, wd_647, wd_648, wd_116, wd_645, by decide +kernel, by decide +kernel⟩
theorem kv_X5_138 : LkV RX5 138 yX5_leavesGuests RX5 cX5_leavesGuests 4 (some .boolean) 1 := ⟨wd_650, wd_651, wd_652, wd_116, wd_649, by decide +kernel, by decide +kernel⟩
theorem kv_X5_118 : LkV RX5 118 yX5_told RX5 cX5_told 3 (some .int) 2 := ⟨wd_654, wd_655, wd_656, wd_116, wd_653, by decide +kernel, by decide +kernel⟩
theorem kv_X5_160 : LkV RX5 160 yX5_wayOf RX5 cX5_wayOf 3 (some .int) 2 := ⟨wd_658, wd_659, wd_660, wd_116, wd_657, by decide +kernel, by decide +kernel⟩
theorem kk_X5_163 : Cond.constantLong RX5 163 (5549) ∈ GT := wd_661
theorem kf_X5_91 : Cond.fieldLink RX5 91 "BadgeZonesModel" "minute" "I" ∈ GT := wd_662
theorem kk_X5_165 : Cond.constantLong RX5 165 (31) ∈ GT := wd_663
theorem kv_X5_106 : LkV RX5 106 yX5_left RX5 cX5_left 2 (some .int) 1 := ⟨wd_665, wd_666, wd_667, wd_116, wd_664, by decide +kernel, by decide +kernel⟩
theorem kv_X5_87 : LkV RX5 87 yX5_steps RX5 cX5_steps 10 (some .int) 3 := ⟨wd_669, wd_670, wd_671, wd_116, wd_668, by decide +kernel, by decide +kernel⟩
theorem ko_X5_1 : LkO RX5 1 := ⟨wd_672, wd_60, wd_61⟩
theorem kf_X5_51 : Cond.fieldLink RX5 51 "BadgeZonesModel" "log" "[I" ∈ GT := wd_673
theorem ks_X5_97 : LkS RX5 97 yJ9_max_7cf53 cJ9_max_7cf53 2 (some .int) 2 := ⟨wd_674, wd_17, wd_13, wd_15, by decide +kernel, by decide +kernel⟩
theorem kf_X5_141 : Cond.fieldLink RX5 141 "BadgeZonesModel" "moves" "I" ∈ GT := wd_675
theorem kv_X5_157 : LkV RX5 157 yX5_allowed RX5 cX5_allowed 4 (some .int) 1 := ⟨wd_677, wd_678, wd_679, wd_116, wd_676, by decide +kernel, by decide +kernel⟩
theorem kv_X5_103 : LkV RX5 103 yX5_isDoor RX5 cX5_isDoor 2 (some .boolean) 1 := ⟨wd_681, wd_682, wd_683, wd_116, wd_680, by decide +kernel, by decide +kernel⟩
theorem kv_X5_150 : LkV RX5 150 yX5_answer RX5 cX5_answer 4 (some .int) 2 := ⟨wd_685, wd_686, wd_687, wd_116, wd_684, by decide +kernel, by decide +kernel⟩
theorem kv_X5_153 : LkV RX5 153 yX5_note RX5 cX5_note 4 none 2 := ⟨wd_689, wd_690, wd_691, wd_116, wd_688, by decide +kernel, by decide +kernel⟩
theorem kk_X5_121 : Cond.constant RX5 121 (99999) ∈ GT := wd_692
theorem kn_X4 : Cond.instantiable RX4 6 ∈ GT ∧ Cond.initialized RX4 ∈ GT := ⟨wd_693, wd_71⟩
theorem kn_X5 : Cond.instantiable RX5 20 ∈ GT ∧ Cond.initialized RX5 ∈ GT := ⟨wd_694, wd_116⟩
theorem kn_X3 : Cond.instantiable RX3 6 ∈ GT ∧ Cond.initialized RX3 ∈ GT := ⟨wd_695, wd_439⟩
theorem kn_X1 : Cond.instantiable RX1 5 ∈ GT ∧ Cond.initialized RX1 ∈ GT := ⟨wd_696, wd_388⟩
theorem kn_X0 : Cond.instantiable RX0 7 ∈ GT ∧ Cond.initialized RX0 ∈ GT := ⟨wd_697, wd_366⟩
theorem kn_X2 : Cond.instantiable RX2 2 ∈ GT ∧ Cond.initialized RX2 ∈ GT := ⟨wd_698, wd_356⟩
theorem kn_Jx4a65c : Cond.instantiable RJx4a65c 3 ∈ GT ∧ Cond.initialized RJx4a65c ∈ GT := ⟨wd_699, wd_26⟩
theorem ka_int : Cond.arrayClass .int ∈ GT := wd_700
theorem ka_boolean : Cond.arrayClass .boolean ∈ GT := wd_701
theorem ka_long : Cond.arrayClass .long ∈ GT := wd_702
theorem kg_J7_86 : Cond.methodLink RJ7 86 ⟨"java/lang/Object", "getClass", "()Ljava/lang/Class;"⟩ ∈ GT := wd_703
theorem kg_J7_150 : Cond.methodLink RJ7 150 arraycopyName ∈ GT := wd_704
theorem kg_X5_144 : Cond.methodLink RX5 144 arraycopyName ∈ GT := wd_705
theorem kg_J7_110 : Cond.classLink RJ7 110 "[Ljava/lang/Object;" ∈ GT := wd_9
theorem wk_copy : Cond.native arraycopyName ∈ GT ∧ Cond.static arraycopyName ∈ GT ∧ Cond.initialized "java/lang/System" ∈ GT := ⟨wd_706, wd_707, wd_708⟩
theorem wk_getC : Cond.declares ⟨"java/lang/Object", "getClass", "()Ljava/lang/Class;"⟩ ∈ NG ∧ Cond.selects "[Ljava/lang/Object;" ⟨"java/lang/Object", "getClass", "()Ljava/lang/Class;"⟩ ⟨"java/lang/Object", "getClass", "()Ljava/lang/Class;"⟩ ∈ GT ∧ Cond.instanceMethod ⟨"java/lang/Object", "getClass", "()Ljava/lang/Class;"⟩ ∈ GT ∧ Cond.native ⟨"java/lang/Object", "getClass", "()Ljava/lang/Class;"⟩ ∈ GT := ⟨(in_ng (in_t5 (List.mem_of_getElem? (i := 8) rfl)) rfl), wd_709, wd_710, wd_711⟩
theorem wk_max : Cond.static Lib.Math.max.name ∈ GT ∧ Cond.initialized "java/lang/Math" ∈ GT ∧ Cond.code Lib.Math.max.name Lib.Math.max.code 2 (some .int) ∈ GT := ⟨wd_17, wd_13, wd_15⟩
theorem wk_min : Cond.static Lib.Math.min.name ∈ GT ∧ Cond.initialized "java/lang/Math" ∈ GT ∧ Cond.code Lib.Math.min.name Lib.Math.min.code 2 (some .int) ∈ GT := ⟨wd_12, wd_13, wd_10⟩
theorem kt_X3 : Cond.castable RX3 "java/lang/Object" ∈ NG := (in_ng (in_t4 (List.mem_of_getElem? (i := 235) rfl)) rfl)
theorem kt_X1 : Cond.castable RX1 "java/lang/Object" ∈ NG := (in_ng (in_t5 (List.mem_of_getElem? (i := 1) rfl)) rfl)
theorem kt_X0 : Cond.castable RX0 "java/lang/Object" ∈ NG := (in_ng (in_t5 (List.mem_of_getElem? (i := 2) rfl)) rfl)
theorem kt_X2 : Cond.castable RX2 "java/lang/Object" ∈ NG := (in_ng (in_t5 (List.mem_of_getElem? (i := 3) rfl)) rfl)
theorem kt_IAE : Cond.castable "java/lang/IllegalArgumentException" "java/lang/IllegalArgumentException" ∈ NG := (in_ng (in_t2 (List.mem_of_getElem? (i := 24) rfl)) rfl)
theorem kt_ISE : Cond.castable "java/lang/IllegalStateException" "java/lang/IllegalStateException" ∈ NG := (in_ng (in_t2 (List.mem_of_getElem? (i := 93) rfl)) rfl)
theorem kt_IOB : Cond.castable "java/lang/IndexOutOfBoundsException" "java/lang/IndexOutOfBoundsException" ∈ NG := (in_ng (in_t2 (List.mem_of_getElem? (i := 121) rfl)) rfl)
set_option maxRecDepth 20000 in
theorem kw_X4 : ∀ w ∈ u_ws RX4 TX4 6, w ∈ GT := in_ps [194, 196, 198, 200, 202, 204] (by decide +kernel) (by decide +kernel)
set_option maxRecDepth 20000 in
theorem kw_X5 : ∀ w ∈ u_ws RX5 TX5 20, w ∈ GT := in_ps [753, 755, 757, 759, 761, 763, 765, 767, 769, 771, 773, 775, 777, 779, 781, 783, 785, 787, 789, 791] (by decide +kernel) (by decide +kernel)
set_option maxRecDepth 20000 in
theorem kw_X3 : ∀ w ∈ u_ws RX3 TX3 6, w ∈ GT := in_ps [92, 94, 96, 98, 100, 102] (by decide +kernel) (by decide +kernel)
set_option maxRecDepth 20000 in
theorem kw_X1 : ∀ w ∈ u_ws RX1 TX1 5, w ∈ GT := in_ps [435, 437, 439, 441, 443] (by decide +kernel) (by decide +kernel)
set_option maxRecDepth 20000 in
theorem kw_X0 : ∀ w ∈ u_ws RX0 TX0 7, w ∈ GT := in_ps [539, 541, 543, 545, 547, 549, 551] (by decide +kernel) (by decide +kernel)
set_option maxRecDepth 20000 in
theorem kw_X2 : ∀ w ∈ u_ws RX2 TX2 2, w ∈ GT := in_ps [521, 523] (by decide +kernel) (by decide +kernel)
set_option maxRecDepth 20000 in
theorem kw_Jx4a65c : ∀ w ∈ u_ws RJx4a65c TJx4a65c 3, w ∈ GT := in_ps [128, 124, 126] (by decide +kernel) (by decide +kernel)
