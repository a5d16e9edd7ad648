/-- the tables' words that a callee may rest on -/
def GT : List Cond := lw_tbl.filter goodWord
theorem in_gt {w : Cond} (h : w ∈ lw_tbl) (g : goodWord w = true) : w ∈ GT := List.mem_filter.mpr ⟨h, g⟩
theorem gt_good : ∀ w ∈ GT, (w.onTables && w.keeps) = true ∨ ∃ ty, w = .arrayClass ty := fun _ h => good_of_word (List.mem_filter.mp h).2
theorem gt_tbl : ∀ w ∈ GT, w ∈ lw_tbl := fun _ h => (List.mem_filter.mp h).1
/-- words that are no good ones but are kept: casts, declarations -/
def isCD : Cond → Bool
  | .castable _ _ => true
  | .declares _ => true
  | _ => false
def NG : List Cond := lw_tbl.filter isCD
theorem in_ng {w : Cond} (h : w ∈ lw_tbl) (g : isCD w = true) : w ∈ NG := List.mem_filter.mpr ⟨h, g⟩
theorem in_ps {ws : List Cond} (ps : List Nat) (hp : ws = ps.filterMap (fun i => lw_tbl[i]?)) (h : ws.all goodWord = true) : ∀ w ∈ ws, w ∈ GT := by
  intro w hw
  refine in_gt ?_ (List.all_eq_true.mp h w hw)
  rw [hp] at hw
  obtain ⟨i, -, hi⟩ := List.mem_filterMap.mp hw
  exact List.mem_of_getElem? hi
theorem in_t0 {w : Cond} (h : w ∈ tables_1) : w ∈ lw_tbl := List.mem_append_right _ h
theorem in_t1 {w : Cond} (h : w ∈ tables_1_1) : w ∈ lw_tbl := in_t0 (List.mem_append_left _ h)
theorem in_t2 {w : Cond} (h : w ∈ tables_1_2) : w ∈ lw_tbl := in_t0 (List.mem_append_right _ (List.mem_append_left _ h))
theorem in_t3 {w : Cond} (h : w ∈ tables_1_3) : w ∈ lw_tbl := in_t0 (List.mem_append_right _ (List.mem_append_right _ h))
theorem lw_pv {q : MethodName × Nat} (i : Nat) (h : lw_privs[i]? = some q) : q ∈ lw_privs := List.mem_of_getElem? h
/-- a virtual call's words -/
def LkV (own : String) (idx : Nat) (y : MethodName) (C : String) (bytes : ByteArray) (maxL : Nat) (ret : Option FieldType) (n : Nat) : Prop :=
  Cond.methodLink own idx y ∈ GT ∧ Cond.instanceMethod y ∈ GT ∧ Cond.selects C y y ∈ GT ∧ Cond.initialized y.cls ∈ GT ∧ Cond.code y bytes maxL ret ∈ GT ∧ (y.cls ≠ "java/lang/invoke/MethodHandle" ∧ y.cls ≠ "java/lang/invoke/VarHandle") ∧ (parseMethodDescriptor y.desc).map (fun d => d.parameters.length) = some n
/-- a static call's -/
def LkS (own : String) (idx : Nat) (y : MethodName) (bytes : ByteArray) (maxL : Nat) (ret : Option FieldType) (n : Nat) : Prop :=
  Cond.methodLink own idx y ∈ GT ∧ Cond.static y ∈ GT ∧ Cond.initialized y.cls ∈ GT ∧ Cond.code y bytes maxL ret ∈ GT ∧ (y.cls ≠ "java/lang/invoke/MethodHandle" ∧ y.cls ≠ "java/lang/invoke/VarHandle") ∧ (parseMethodDescriptor y.desc).map (fun d => d.parameters.length) = some n
def LkSW (own : String) (idx : Nat) (y : MethodName) (bytes : ByteArray) (maxL : Nat) (ret : Option FieldType) (hh : List (Nat × Nat × Nat × Nat)) (n : Nat) : Prop :=
  Cond.methodLink own idx y ∈ GT ∧ Cond.static y ∈ GT ∧ Cond.initialized y.cls ∈ GT ∧ Cond.codeWith y bytes maxL ret hh ∈ GT ∧ (y.cls ≠ "java/lang/invoke/MethodHandle" ∧ y.cls ≠ "java/lang/invoke/VarHandle") ∧ (parseMethodDescriptor y.desc).map (fun d => d.parameters.length) = some n
/-- a constructor's -/
def LkI (own : String) (idx : Nat) (y : MethodName) (bytes : ByteArray) (maxL : Nat) (n : Nat) : Prop :=
  Cond.methodLink own idx y ∈ GT ∧ Cond.instanceMethod y ∈ GT ∧ Cond.initialized y.cls ∈ GT ∧ Cond.code y bytes maxL none ∈ GT ∧ (y.cls ≠ "java/lang/invoke/MethodHandle" ∧ y.cls ≠ "java/lang/invoke/VarHandle") ∧ (parseMethodDescriptor y.desc).map (fun d => d.parameters.length) = some n ∧ y.name = "<init>"
def LkO (own : String) (idx : Nat) : Prop := Cond.methodLink own idx Lib.objectInit ∈ GT ∧ Cond.instanceMethod Lib.objectInit ∈ GT ∧ Cond.code Lib.objectInit ⟨#[0xb1]⟩ 1 none ∈ GT
set_option maxRecDepth 20000 in
theorem wd_0 : Cond.code yJ3_checkIndex_8e157 cJ3_checkIndex_8e157 3 (some .int) ∈ GT := in_gt (in_t2 (List.mem_of_getElem? (i := 12) rfl)) (by decide +kernel)
set_option maxRecDepth 20000 in
theorem wd_1 : Cond.methodLink "java/util/Objects" 105 yJ3_checkIndex_8e157 ∈ GT := in_gt (in_t2 (List.mem_of_getElem? (i := 10) rfl)) (by decide +kernel)
set_option maxRecDepth 20000 in
theorem wd_2 : Cond.static yJ3_checkIndex_8e157 ∈ GT := in_gt (in_t2 (List.mem_of_getElem? (i := 11) rfl)) (by decide +kernel)
set_option maxRecDepth 20000 in
theorem wd_3 : Cond.initialized "jdk/internal/util/Preconditions" ∈ GT := in_gt (in_t1 (List.mem_of_getElem? (i := 17) rfl)) (by decide +kernel)
set_option maxRecDepth 20000 in
theorem wd_4 : Cond.constant "java/lang/Integer" 265 (1431655765) ∈ GT := in_gt (in_t2 (List.mem_of_getElem? (i := 148) rfl)) (by decide +kernel)
set_option maxRecDepth 20000 in
theorem wd_5 : Cond.constant "java/lang/Integer" 266 (858993459) ∈ GT := in_gt (in_t2 (List.mem_of_getElem? (i := 149) rfl)) (by decide +kernel)
set_option maxRecDepth 20000 in
theorem wd_6 : Cond.constant "java/lang/Integer" 267 (252645135) ∈ GT := in_gt (in_t2 (List.mem_of_getElem? (i := 150) rfl)) (by decide +kernel)
set_option maxRecDepth 20000 in
theorem wd_7 : Cond.code yJ7_copyOf_6403c cJ7_copyOf_6403c 4 (some (.array (.object "java/lang/Object"))) ∈ GT := in_gt (in_t1 (List.mem_of_getElem? (i := 132) rfl)) (by decide +kernel)
set_option maxRecDepth 20000 in
theorem wd_8 : Cond.methodLink "java/util/Arrays" 300 yJ7_copyOf_6403c ∈ GT := in_gt (in_t1 (List.mem_of_getElem? (i := 130) rfl)) (by decide +kernel)
set_option maxRecDepth 20000 in
theorem wd_9 : Cond.static yJ7_copyOf_6403c ∈ GT := in_gt (in_t1 (List.mem_of_getElem? (i := 131) rfl)) (by decide +kernel)
set_option maxRecDepth 20000 in
theorem wd_10 : Cond.initialized "java/util/Arrays" ∈ GT := in_gt (in_t1 (List.mem_of_getElem? (i := 8) rfl)) (by decide +kernel)
set_option maxRecDepth 20000 in
theorem wd_11 : Cond.classLink "java/util/Arrays" 2 "java/lang/Object" ∈ GT := in_gt (in_t1 (List.mem_of_getElem? (i := 135) rfl)) (by decide +kernel)
set_option maxRecDepth 20000 in
theorem wd_12 : Cond.classLink "java/util/Arrays" 110 "[Ljava/lang/Object;" ∈ GT := in_gt (in_t1 (List.mem_of_getElem? (i := 133) rfl)) (by decide +kernel)
set_option maxRecDepth 20000 in
theorem wd_13 : Cond.code yJ9_min_7cf53 cJ9_min_7cf53 2 (some .int) ∈ GT := in_gt (in_t1 (List.mem_of_getElem? (i := 138) rfl)) (by decide +kernel)
set_option maxRecDepth 20000 in
theorem wd_14 : Cond.methodLink "java/util/Arrays" 304 yJ9_min_7cf53 ∈ GT := in_gt (in_t1 (List.mem_of_getElem? (i := 136) rfl)) (by decide +kernel)
set_option maxRecDepth 20000 in
theorem wd_15 : Cond.static yJ9_min_7cf53 ∈ GT := in_gt (in_t1 (List.mem_of_getElem? (i := 137) rfl)) (by decide +kernel)
set_option maxRecDepth 20000 in
theorem wd_16 : Cond.initialized "java/lang/Math" ∈ GT := in_gt (in_t1 (List.mem_of_getElem? (i := 7) rfl)) (by decide +kernel)
set_option maxRecDepth 20000 in
theorem wd_17 : Cond.constant "jdk/internal/util/ArraysSupport" 200 (2147483639) ∈ GT := in_gt (in_t1 (List.mem_of_getElem? (i := 110) rfl)) (by decide +kernel)
set_option maxRecDepth 20000 in
theorem wd_18 : Cond.code yJ9_max_7cf53 cJ9_max_7cf53 2 (some .int) ∈ GT := in_gt (in_t1 (List.mem_of_getElem? (i := 109) rfl)) (by decide +kernel)
set_option maxRecDepth 20000 in
theorem wd_19 : Cond.methodLink "jdk/internal/util/ArraysSupport" 194 yJ9_max_7cf53 ∈ GT := in_gt (in_t1 (List.mem_of_getElem? (i := 107) rfl)) (by decide +kernel)
set_option maxRecDepth 20000 in
theorem wd_20 : Cond.static yJ9_max_7cf53 ∈ GT := in_gt (in_t1 (List.mem_of_getElem? (i := 108) rfl)) (by decide +kernel)
set_option maxRecDepth 20000 in
theorem wd_21 : Cond.code yJ8_hugeLength_7cf53 cJ8_hugeLength_7cf53 3 (some .int) ∈ GT := in_gt (in_t1 (List.mem_of_getElem? (i := 113) rfl)) (by decide +kernel)
set_option maxRecDepth 20000 in
theorem wd_22 : Cond.methodLink "jdk/internal/util/ArraysSupport" 201 yJ8_hugeLength_7cf53 ∈ GT := in_gt (in_t1 (List.mem_of_getElem? (i := 111) rfl)) (by decide +kernel)
set_option maxRecDepth 20000 in
theorem wd_23 : Cond.static yJ8_hugeLength_7cf53 ∈ GT := in_gt (in_t1 (List.mem_of_getElem? (i := 112) rfl)) (by decide +kernel)
set_option maxRecDepth 20000 in
theorem wd_24 : Cond.initialized "jdk/internal/util/ArraysSupport" ∈ GT := in_gt (in_t1 (List.mem_of_getElem? (i := 6) rfl)) (by decide +kernel)
set_option maxRecDepth 20000 in
theorem wd_25 : Cond.code yJx4a65c_grow_d5877 cJx4a65c_grow_d5877 1 (some (.array (.object "java/lang/Object"))) ∈ GT := in_gt (in_t1 (List.mem_of_getElem? (i := 99) rfl)) (by decide +kernel)
set_option maxRecDepth 20000 in
theorem wd_26 : Cond.methodLink "java/util/ArrayList" 129 yJx4a65c_grow_d5877 ∈ GT := in_gt (in_t1 (List.mem_of_getElem? (i := 96) rfl)) (by decide +kernel)
set_option maxRecDepth 20000 in
theorem wd_27 : Cond.instanceMethod yJx4a65c_grow_d5877 ∈ GT := in_gt (in_t1 (List.mem_of_getElem? (i := 98) rfl)) (by decide +kernel)
set_option maxRecDepth 20000 in
theorem wd_28 : Cond.selects "java/util/ArrayList" yJx4a65c_grow_d5877 yJx4a65c_grow_d5877 ∈ GT := in_gt (List.mem_append_left _ (List.mem_map.mpr ⟨_, lw_pv 1 rfl, rfl⟩)) (by decide +kernel)
set_option maxRecDepth 20000 in
theorem wd_29 : Cond.initialized "java/util/ArrayList" ∈ GT := in_gt (in_t1 (List.mem_of_getElem? (i := 5) rfl)) (by decide +kernel)
set_option maxRecDepth 20000 in
theorem wd_30 : Cond.fieldLink "java/util/ArrayList" 48 "java/util/ArrayList" "size" "I" ∈ GT := in_gt (in_t1 (List.mem_of_getElem? (i := 77) rfl)) (by decide +kernel)
set_option maxRecDepth 20000 in
theorem wd_31 : Cond.fieldLink "java/util/ArrayList" 63 "java/util/ArrayList" "modCount" "I" ∈ GT := in_gt (in_t1 (List.mem_of_getElem? (i := 79) rfl)) (by decide +kernel)
set_option maxRecDepth 20000 in
theorem wd_32 : Cond.fieldLink "java/util/ArrayList" 9 "java/util/ArrayList" "elementData" "[Ljava/lang/Object;" ∈ GT := in_gt (in_t1 (List.mem_of_getElem? (i := 76) rfl)) (by decide +kernel)
set_option maxRecDepth 20000 in
theorem wd_33 : Cond.code yJx4a65c_add_72be8 cJx4a65c_add_72be8 4 none ∈ GT := in_gt (in_t1 (List.mem_of_getElem? (i := 95) rfl)) (by decide +kernel)
set_option maxRecDepth 20000 in
theorem wd_34 : Cond.methodLink "java/util/ArrayList" 131 yJx4a65c_add_72be8 ∈ GT := in_gt (in_t1 (List.mem_of_getElem? (i := 92) rfl)) (by decide +kernel)
set_option maxRecDepth 20000 in
theorem wd_35 : Cond.instanceMethod yJx4a65c_add_72be8 ∈ GT := in_gt (in_t1 (List.mem_of_getElem? (i := 94) rfl)) (by decide +kernel)
set_option maxRecDepth 20000 in
theorem wd_36 : Cond.selects "java/util/ArrayList" yJx4a65c_add_72be8 yJx4a65c_add_72be8 ∈ GT := in_gt (List.mem_append_left _ (List.mem_map.mpr ⟨_, lw_pv 0 rfl, rfl⟩)) (by decide +kernel)
set_option maxRecDepth 20000 in
theorem wd_37 : Cond.code yJ15_checkIndex_7cf53 cJ15_checkIndex_7cf53 2 (some .int) ∈ GT := in_gt (in_t2 (List.mem_of_getElem? (i := 9) rfl)) (by decide +kernel)
set_option maxRecDepth 20000 in
theorem wd_38 : Cond.methodLink "java/util/ArrayList" 118 yJ15_checkIndex_7cf53 ∈ GT := in_gt (in_t2 (List.mem_of_getElem? (i := 7) rfl)) (by decide +kernel)
set_option maxRecDepth 20000 in
theorem wd_39 : Cond.static yJ15_checkIndex_7cf53 ∈ GT := in_gt (in_t2 (List.mem_of_getElem? (i := 8) rfl)) (by decide +kernel)
set_option maxRecDepth 20000 in
theorem wd_40 : Cond.initialized "java/util/Objects" ∈ GT := in_gt (in_t1 (List.mem_of_getElem? (i := 16) rfl)) (by decide +kernel)
set_option maxRecDepth 20000 in
theorem wd_41 : Cond.code yJx4a65c_elementData_915e3 cJx4a65c_elementData_915e3 2 (some (.object "java/lang/Object")) ∈ GT := in_gt (in_t2 (List.mem_of_getElem? (i := 16) rfl)) (by decide +kernel)
set_option maxRecDepth 20000 in
theorem wd_42 : Cond.methodLink "java/util/ArrayList" 123 yJx4a65c_elementData_915e3 ∈ GT := in_gt (in_t2 (List.mem_of_getElem? (i := 13) rfl)) (by decide +kernel)
set_option maxRecDepth 20000 in
theorem wd_43 : Cond.instanceMethod yJx4a65c_elementData_915e3 ∈ GT := in_gt (in_t2 (List.mem_of_getElem? (i := 14) rfl)) (by decide +kernel)
set_option maxRecDepth 20000 in
theorem wd_44 : Cond.selects "java/util/ArrayList" yJx4a65c_elementData_915e3 yJx4a65c_elementData_915e3 ∈ GT := in_gt (in_t2 (List.mem_of_getElem? (i := 15) rfl)) (by decide +kernel)
set_option maxRecDepth 20000 in
theorem wd_45 : Cond.fieldLink "java/util/ArrayList" 39 "java/util/ArrayList" "DEFAULTCAPACITY_EMPTY_ELEMENTDATA" "[Ljava/lang/Object;" ∈ GT := in_gt (in_t1 (List.mem_of_getElem? (i := 74) rfl)) (by decide +kernel)
set_option maxRecDepth 20000 in
theorem wd_46 : Cond.code yJ8_newLength_cabcc cJ8_newLength_cabcc 4 (some .int) ∈ GT := in_gt (in_t1 (List.mem_of_getElem? (i := 106) rfl)) (by decide +kernel)
set_option maxRecDepth 20000 in
theorem wd_47 : Cond.methodLink "java/util/ArrayList" 73 yJ8_newLength_cabcc ∈ GT := in_gt (in_t1 (List.mem_of_getElem? (i := 104) rfl)) (by decide +kernel)
set_option maxRecDepth 20000 in
theorem wd_48 : Cond.static yJ8_newLength_cabcc ∈ GT := in_gt (in_t1 (List.mem_of_getElem? (i := 105) rfl)) (by decide +kernel)
set_option maxRecDepth 20000 in
theorem wd_49 : Cond.code yJ7_copyOf_1904c cJ7_copyOf_1904c 2 (some (.array (.object "java/lang/Object"))) ∈ GT := in_gt (in_t1 (List.mem_of_getElem? (i := 116) rfl)) (by decide +kernel)
set_option maxRecDepth 20000 in
theorem wd_50 : Cond.methodLink "java/util/ArrayList" 66 yJ7_copyOf_1904c ∈ GT := in_gt (in_t1 (List.mem_of_getElem? (i := 114) rfl)) (by decide +kernel)
set_option maxRecDepth 20000 in
theorem wd_51 : Cond.static yJ7_copyOf_1904c ∈ GT := in_gt (in_t1 (List.mem_of_getElem? (i := 115) rfl)) (by decide +kernel)
set_option maxRecDepth 20000 in
theorem wd_52 : Cond.methodLink "java/util/ArrayList" 79 yJ9_max_7cf53 ∈ GT := in_gt (in_t1 (List.mem_of_getElem? (i := 142) rfl)) (by decide +kernel)
set_option maxRecDepth 20000 in
theorem wd_53 : Cond.classLink "java/util/ArrayList" 7 "java/lang/Object" ∈ GT := in_gt (in_t1 (List.mem_of_getElem? (i := 143) rfl)) (by decide +kernel)
set_option maxRecDepth 20000 in
theorem wd_54 : Cond.code yJx4a65c_grow_92f84 cJx4a65c_grow_92f84 4 (some (.array (.object "java/lang/Object"))) ∈ GT := in_gt (in_t1 (List.mem_of_getElem? (i := 103) rfl)) (by decide +kernel)
set_option maxRecDepth 20000 in
theorem wd_55 : Cond.methodLink "java/util/ArrayList" 69 yJx4a65c_grow_92f84 ∈ GT := in_gt (in_t1 (List.mem_of_getElem? (i := 100) rfl)) (by decide +kernel)
set_option maxRecDepth 20000 in
theorem wd_56 : Cond.instanceMethod yJx4a65c_grow_92f84 ∈ GT := in_gt (in_t1 (List.mem_of_getElem? (i := 102) rfl)) (by decide +kernel)
set_option maxRecDepth 20000 in
theorem wd_57 : Cond.selects "java/util/ArrayList" yJx4a65c_grow_92f84 yJx4a65c_grow_92f84 ∈ GT := in_gt (List.mem_append_left _ (List.mem_map.mpr ⟨_, lw_pv 2 rfl, rfl⟩)) (by decide +kernel)
set_option maxRecDepth 20000 in
theorem wd_58 : Cond.code yJxc12de_init_da8c8 cJxc12de_init_da8c8 1 none ∈ GT := in_gt (in_t1 (List.mem_of_getElem? (i := 69) rfl)) (by decide +kernel)
set_option maxRecDepth 20000 in
theorem wd_59 : Cond.methodLink "java/util/ArrayList" 1 yJxc12de_init_da8c8 ∈ GT := in_gt (in_t1 (List.mem_of_getElem? (i := 67) rfl)) (by decide +kernel)
set_option maxRecDepth 20000 in
theorem wd_60 : Cond.instanceMethod yJxc12de_init_da8c8 ∈ GT := in_gt (in_t1 (List.mem_of_getElem? (i := 68) rfl)) (by decide +kernel)
set_option maxRecDepth 20000 in
theorem wd_61 : Cond.initialized "java/util/AbstractList" ∈ GT := in_gt (in_t1 (List.mem_of_getElem? (i := 4) rfl)) (by decide +kernel)
set_option maxRecDepth 20000 in
theorem wd_62 : Cond.methodLink "java/util/AbstractCollection" 1 ⟨"java/lang/Object", "<init>", "()V"⟩ ∈ GT := in_gt (in_t1 (List.mem_of_getElem? (i := 73) rfl)) (by decide +kernel)
set_option maxRecDepth 20000 in
theorem wd_63 : Cond.instanceMethod ⟨"java/lang/Object", "<init>", "()V"⟩ ∈ GT := in_gt (in_t1 (List.mem_of_getElem? (i := 28) rfl)) (by decide +kernel)
set_option maxRecDepth 20000 in
theorem wd_64 : Cond.code Lib.objectInit ⟨#[0xb1]⟩ 1 none ∈ GT := in_gt (in_t1 (List.mem_of_getElem? (i := 29) rfl)) (by decide +kernel)
set_option maxRecDepth 20000 in
theorem wd_65 : Cond.code yJxa1e45_init_da8c8 cJxa1e45_init_da8c8 1 none ∈ GT := in_gt (in_t1 (List.mem_of_getElem? (i := 72) rfl)) (by decide +kernel)
set_option maxRecDepth 20000 in
theorem wd_66 : Cond.methodLink "java/util/AbstractList" 1 yJxa1e45_init_da8c8 ∈ GT := in_gt (in_t1 (List.mem_of_getElem? (i := 70) rfl)) (by decide +kernel)
set_option maxRecDepth 20000 in
theorem wd_67 : Cond.instanceMethod yJxa1e45_init_da8c8 ∈ GT := in_gt (in_t1 (List.mem_of_getElem? (i := 71) rfl)) (by decide +kernel)
set_option maxRecDepth 20000 in
theorem wd_68 : Cond.initialized "java/util/AbstractCollection" ∈ GT := in_gt (in_t1 (List.mem_of_getElem? (i := 3) rfl)) (by decide +kernel)
set_option maxRecDepth 20000 in
theorem wd_69 : Cond.fieldLink "java/util/AbstractList" 7 "java/util/AbstractList" "modCount" "I" ∈ GT := in_gt (in_t1 (List.mem_of_getElem? (i := 78) rfl)) (by decide +kernel)
set_option maxRecDepth 20000 in
theorem wd_70 : Cond.constant "BadgeZonesLaw" 7 (2147483647) ∈ GT := in_gt (in_t2 (List.mem_of_getElem? (i := 231) rfl)) (by decide +kernel)
set_option maxRecDepth 20000 in
theorem wd_71 : Cond.code yL_cell cL_cell 2 (some .int) ∈ GT := in_gt (in_t2 (List.mem_of_getElem? (i := 234) rfl)) (by decide +kernel)
set_option maxRecDepth 20000 in
theorem wd_72 : Cond.methodLink "BadgeZonesLaw" 9 yL_cell ∈ GT := in_gt (in_t2 (List.mem_of_getElem? (i := 232) rfl)) (by decide +kernel)
set_option maxRecDepth 20000 in
theorem wd_73 : Cond.static yL_cell ∈ GT := in_gt (in_t2 (List.mem_of_getElem? (i := 233) rfl)) (by decide +kernel)
set_option maxRecDepth 20000 in
theorem wd_74 : Cond.initialized "BadgeZonesLaw" ∈ GT := in_gt (in_t1 (List.mem_of_getElem? (i := 0) rfl)) (by decide +kernel)
set_option maxRecDepth 20000 in
theorem wd_75 : Cond.code yL_below cL_below 2 (some .int) ∈ GT := in_gt (in_t2 (List.mem_of_getElem? (i := 230) rfl)) (by decide +kernel)
set_option maxRecDepth 20000 in
theorem wd_76 : Cond.methodLink "BadgeZonesLaw" 15 yL_below ∈ GT := in_gt (in_t2 (List.mem_of_getElem? (i := 228) rfl)) (by decide +kernel)
set_option maxRecDepth 20000 in
theorem wd_77 : Cond.static yL_below ∈ GT := in_gt (in_t2 (List.mem_of_getElem? (i := 229) rfl)) (by decide +kernel)
set_option maxRecDepth 20000 in
theorem wd_78 : Cond.code yX4_addZone cX4_addZone 5 (some .int) ∈ GT := in_gt (in_t3 (List.mem_of_getElem? (i := 2) rfl)) (by decide +kernel)
set_option maxRecDepth 20000 in
theorem wd_79 : Cond.methodLink "BadgeZonesLaw" 19 yX4_addZone ∈ GT := in_gt (in_t2 (List.mem_of_getElem? (i := 239) rfl)) (by decide +kernel)
set_option maxRecDepth 20000 in
theorem wd_80 : Cond.instanceMethod yX4_addZone ∈ GT := in_gt (in_t3 (List.mem_of_getElem? (i := 0) rfl)) (by decide +kernel)
set_option maxRecDepth 20000 in
theorem wd_81 : Cond.selects "BadgeZones" yX4_addZone yX4_addZone ∈ GT := in_gt (in_t3 (List.mem_of_getElem? (i := 1) rfl)) (by decide +kernel)
set_option maxRecDepth 20000 in
theorem wd_82 : Cond.initialized "BadgeZones" ∈ GT := in_gt (in_t1 (List.mem_of_getElem? (i := 1) rfl)) (by decide +kernel)
set_option maxRecDepth 20000 in
theorem wd_83 : Cond.code yX4_addDoor cX4_addDoor 8 (some .int) ∈ GT := in_gt (in_t3 (List.mem_of_getElem? (i := 12) rfl)) (by decide +kernel)
set_option maxRecDepth 20000 in
theorem wd_84 : Cond.methodLink "BadgeZonesLaw" 25 yX4_addDoor ∈ GT := in_gt (in_t3 (List.mem_of_getElem? (i := 9) rfl)) (by decide +kernel)
set_option maxRecDepth 20000 in
theorem wd_85 : Cond.instanceMethod yX4_addDoor ∈ GT := in_gt (in_t3 (List.mem_of_getElem? (i := 10) rfl)) (by decide +kernel)
set_option maxRecDepth 20000 in
theorem wd_86 : Cond.selects "BadgeZones" yX4_addDoor yX4_addDoor ∈ GT := in_gt (in_t3 (List.mem_of_getElem? (i := 11) rfl)) (by decide +kernel)
set_option maxRecDepth 20000 in
theorem wd_87 : Cond.code yX4_addVisitor cX4_addVisitor 3 (some .int) ∈ GT := in_gt (in_t3 (List.mem_of_getElem? (i := 39) rfl)) (by decide +kernel)
set_option maxRecDepth 20000 in
theorem wd_88 : Cond.methodLink "BadgeZonesLaw" 29 yX4_addVisitor ∈ GT := in_gt (in_t3 (List.mem_of_getElem? (i := 36) rfl)) (by decide +kernel)
set_option maxRecDepth 20000 in
theorem wd_89 : Cond.instanceMethod yX4_addVisitor ∈ GT := in_gt (in_t3 (List.mem_of_getElem? (i := 37) rfl)) (by decide +kernel)
set_option maxRecDepth 20000 in
theorem wd_90 : Cond.selects "BadgeZones" yX4_addVisitor yX4_addVisitor ∈ GT := in_gt (in_t3 (List.mem_of_getElem? (i := 38) rfl)) (by decide +kernel)
set_option maxRecDepth 20000 in
theorem wd_91 : Cond.code yX4_addBadge cX4_addBadge 2 (some .int) ∈ GT := in_gt (in_t3 (List.mem_of_getElem? (i := 82) rfl)) (by decide +kernel)
set_option maxRecDepth 20000 in
theorem wd_92 : Cond.methodLink "BadgeZonesLaw" 33 yX4_addBadge ∈ GT := in_gt (in_t3 (List.mem_of_getElem? (i := 79) rfl)) (by decide +kernel)
set_option maxRecDepth 20000 in
theorem wd_93 : Cond.instanceMethod yX4_addBadge ∈ GT := in_gt (in_t3 (List.mem_of_getElem? (i := 80) rfl)) (by decide +kernel)
set_option maxRecDepth 20000 in
theorem wd_94 : Cond.selects "BadgeZones" yX4_addBadge yX4_addBadge ∈ GT := in_gt (in_t3 (List.mem_of_getElem? (i := 81) rfl)) (by decide +kernel)
set_option maxRecDepth 20000 in
theorem wd_95 : Cond.constant "BadgeZonesLaw" 8 (790386105) ∈ GT := in_gt (in_t2 (List.mem_of_getElem? (i := 235) rfl)) (by decide +kernel)
set_option maxRecDepth 20000 in
theorem wd_96 : Cond.classLink "BadgeZonesLaw" 20 "BadgeZones" ∈ GT := in_gt (in_t1 (List.mem_of_getElem? (i := 22) rfl)) (by decide +kernel)
set_option maxRecDepth 20000 in
theorem wd_97 : Cond.code yX4_init cX4_init 1 none ∈ GT := in_gt (in_t1 (List.mem_of_getElem? (i := 26) rfl)) (by decide +kernel)
set_option maxRecDepth 20000 in
theorem wd_98 : Cond.methodLink "BadgeZonesLaw" 49 yX4_init ∈ GT := in_gt (in_t1 (List.mem_of_getElem? (i := 24) rfl)) (by decide +kernel)
set_option maxRecDepth 20000 in
theorem wd_99 : Cond.instanceMethod yX4_init ∈ GT := in_gt (in_t1 (List.mem_of_getElem? (i := 25) rfl)) (by decide +kernel)
set_option maxRecDepth 20000 in
theorem wd_100 : Cond.code yL_build cL_build 11 (some .boolean) ∈ GT := in_gt (in_t2 (List.mem_of_getElem? (i := 238) rfl)) (by decide +kernel)
set_option maxRecDepth 20000 in
theorem wd_101 : Cond.methodLink "BadgeZonesLaw" 50 yL_build ∈ GT := in_gt (in_t2 (List.mem_of_getElem? (i := 236) rfl)) (by decide +kernel)
set_option maxRecDepth 20000 in
theorem wd_102 : Cond.static yL_build ∈ GT := in_gt (in_t2 (List.mem_of_getElem? (i := 237) rfl)) (by decide +kernel)
set_option maxRecDepth 20000 in
theorem wd_103 : Cond.code yX4_tick cX4_tick 2 (some .int) ∈ GT := in_gt (in_t2 (List.mem_of_getElem? (i := 52) rfl)) (by decide +kernel)
set_option maxRecDepth 20000 in
theorem wd_104 : Cond.methodLink "BadgeZonesLaw" 54 yX4_tick ∈ GT := in_gt (in_t2 (List.mem_of_getElem? (i := 49) rfl)) (by decide +kernel)
set_option maxRecDepth 20000 in
theorem wd_105 : Cond.instanceMethod yX4_tick ∈ GT := in_gt (in_t2 (List.mem_of_getElem? (i := 50) rfl)) (by decide +kernel)
set_option maxRecDepth 20000 in
theorem wd_106 : Cond.selects "BadgeZones" yX4_tick yX4_tick ∈ GT := in_gt (in_t2 (List.mem_of_getElem? (i := 51) rfl)) (by decide +kernel)
set_option maxRecDepth 20000 in
theorem wd_107 : Cond.code yX4_alarm cX4_alarm 3 (some .boolean) ∈ GT := in_gt (in_t2 (List.mem_of_getElem? (i := 89) rfl)) (by decide +kernel)
set_option maxRecDepth 20000 in
theorem wd_108 : Cond.methodLink "BadgeZonesLaw" 57 yX4_alarm ∈ GT := in_gt (in_t2 (List.mem_of_getElem? (i := 86) rfl)) (by decide +kernel)
set_option maxRecDepth 20000 in
theorem wd_109 : Cond.instanceMethod yX4_alarm ∈ GT := in_gt (in_t2 (List.mem_of_getElem? (i := 87) rfl)) (by decide +kernel)
set_option maxRecDepth 20000 in
theorem wd_110 : Cond.selects "BadgeZones" yX4_alarm yX4_alarm ∈ GT := in_gt (in_t2 (List.mem_of_getElem? (i := 88) rfl)) (by decide +kernel)
set_option maxRecDepth 20000 in
theorem wd_111 : Cond.code yX4_block cX4_block 5 (some .boolean) ∈ GT := in_gt (in_t2 (List.mem_of_getElem? (i := 26) rfl)) (by decide +kernel)
set_option maxRecDepth 20000 in
theorem wd_112 : Cond.methodLink "BadgeZonesLaw" 61 yX4_block ∈ GT := in_gt (in_t2 (List.mem_of_getElem? (i := 23) rfl)) (by decide +kernel)
set_option maxRecDepth 20000 in
theorem wd_113 : Cond.instanceMethod yX4_block ∈ GT := in_gt (in_t2 (List.mem_of_getElem? (i := 24) rfl)) (by decide +kernel)
set_option maxRecDepth 20000 in
theorem wd_114 : Cond.selects "BadgeZones" yX4_block yX4_block ∈ GT := in_gt (in_t2 (List.mem_of_getElem? (i := 25) rfl)) (by decide +kernel)
set_option maxRecDepth 20000 in
theorem wd_115 : Cond.code yX4_request cX4_request 6 (some .int) ∈ GT := in_gt (in_t2 (List.mem_of_getElem? (i := 93) rfl)) (by decide +kernel)
set_option maxRecDepth 20000 in
theorem wd_116 : Cond.methodLink "BadgeZonesLaw" 65 yX4_request ∈ GT := in_gt (in_t2 (List.mem_of_getElem? (i := 90) rfl)) (by decide +kernel)
set_option maxRecDepth 20000 in
theorem wd_117 : Cond.instanceMethod yX4_request ∈ GT := in_gt (in_t2 (List.mem_of_getElem? (i := 91) rfl)) (by decide +kernel)
set_option maxRecDepth 20000 in
theorem wd_118 : Cond.selects "BadgeZones" yX4_request yX4_request ∈ GT := in_gt (in_t2 (List.mem_of_getElem? (i := 92) rfl)) (by decide +kernel)
set_option maxRecDepth 20000 in
theorem wd_119 : Cond.code yX4_inside cX4_inside 2 (some .int) ∈ GT := in_gt (in_t2 (List.mem_of_getElem? (i := 204) rfl)) (by decide +kernel)
set_option maxRecDepth 20000 in
theorem wd_120 : Cond.methodLink "BadgeZonesLaw" 68 yX4_inside ∈ GT := in_gt (in_t2 (List.mem_of_getElem? (i := 201) rfl)) (by decide +kernel)
set_option maxRecDepth 20000 in
theorem wd_121 : Cond.instanceMethod yX4_inside ∈ GT := in_gt (in_t2 (List.mem_of_getElem? (i := 202) rfl)) (by decide +kernel)
set_option maxRecDepth 20000 in
theorem wd_122 : Cond.selects "BadgeZones" yX4_inside yX4_inside ∈ GT := in_gt (in_t2 (List.mem_of_getElem? (i := 203) rfl)) (by decide +kernel)
set_option maxRecDepth 20000 in
theorem wd_123 : Cond.code yJ6_bitCount_0f7a4 cJ6_bitCount_0f7a4 1 (some .int) ∈ GT := in_gt (in_t2 (List.mem_of_getElem? (i := 147) rfl)) (by decide +kernel)
set_option maxRecDepth 20000 in
theorem wd_124 : Cond.methodLink "BadgeZonesLaw" 71 yJ6_bitCount_0f7a4 ∈ GT := in_gt (in_t3 (List.mem_of_getElem? (i := 87) rfl)) (by decide +kernel)
set_option maxRecDepth 20000 in
theorem wd_125 : Cond.static yJ6_bitCount_0f7a4 ∈ GT := in_gt (in_t2 (List.mem_of_getElem? (i := 146) rfl)) (by decide +kernel)
set_option maxRecDepth 20000 in
theorem wd_126 : Cond.initialized "java/lang/Integer" ∈ GT := in_gt (in_t1 (List.mem_of_getElem? (i := 21) rfl)) (by decide +kernel)
set_option maxRecDepth 20000 in
theorem wd_127 : Cond.code yX4_badge cX4_badge 4 (some .int) ∈ GT := in_gt (in_t2 (List.mem_of_getElem? (i := 36) rfl)) (by decide +kernel)
set_option maxRecDepth 20000 in
theorem wd_128 : Cond.methodLink "BadgeZonesLaw" 76 yX4_badge ∈ GT := in_gt (in_t2 (List.mem_of_getElem? (i := 33) rfl)) (by decide +kernel)
set_option maxRecDepth 20000 in
theorem wd_129 : Cond.instanceMethod yX4_badge ∈ GT := in_gt (in_t2 (List.mem_of_getElem? (i := 34) rfl)) (by decide +kernel)
set_option maxRecDepth 20000 in
theorem wd_130 : Cond.selects "BadgeZones" yX4_badge yX4_badge ∈ GT := in_gt (in_t2 (List.mem_of_getElem? (i := 35) rfl)) (by decide +kernel)
set_option maxRecDepth 20000 in
theorem wd_131 : Cond.code yX4_openFor cX4_openFor 2 (some .int) ∈ GT := in_gt (in_t1 (List.mem_of_getElem? (i := 166) rfl)) (by decide +kernel)
set_option maxRecDepth 20000 in
theorem wd_132 : Cond.methodLink "BadgeZonesLaw" 79 yX4_openFor ∈ GT := in_gt (in_t1 (List.mem_of_getElem? (i := 163) rfl)) (by decide +kernel)
set_option maxRecDepth 20000 in
theorem wd_133 : Cond.instanceMethod yX4_openFor ∈ GT := in_gt (in_t1 (List.mem_of_getElem? (i := 164) rfl)) (by decide +kernel)
set_option maxRecDepth 20000 in
theorem wd_134 : Cond.selects "BadgeZones" yX4_openFor yX4_openFor ∈ GT := in_gt (in_t1 (List.mem_of_getElem? (i := 165) rfl)) (by decide +kernel)
set_option maxRecDepth 20000 in
theorem wd_135 : Cond.code yX4_minutesIn cX4_minutesIn 4 (some .int) ∈ GT := in_gt (in_t2 (List.mem_of_getElem? (i := 223) rfl)) (by decide +kernel)
set_option maxRecDepth 20000 in
theorem wd_136 : Cond.methodLink "BadgeZonesLaw" 82 yX4_minutesIn ∈ GT := in_gt (in_t2 (List.mem_of_getElem? (i := 220) rfl)) (by decide +kernel)
set_option maxRecDepth 20000 in
theorem wd_137 : Cond.instanceMethod yX4_minutesIn ∈ GT := in_gt (in_t2 (List.mem_of_getElem? (i := 221) rfl)) (by decide +kernel)
set_option maxRecDepth 20000 in
theorem wd_138 : Cond.selects "BadgeZones" yX4_minutesIn yX4_minutesIn ∈ GT := in_gt (in_t2 (List.mem_of_getElem? (i := 222) rfl)) (by decide +kernel)
set_option maxRecDepth 20000 in
theorem wd_139 : Cond.code yX4_now cX4_now 1 (some .int) ∈ GT := in_gt (in_t2 (List.mem_of_getElem? (i := 200) rfl)) (by decide +kernel)
set_option maxRecDepth 20000 in
theorem wd_140 : Cond.methodLink "BadgeZonesLaw" 85 yX4_now ∈ GT := in_gt (in_t2 (List.mem_of_getElem? (i := 197) rfl)) (by decide +kernel)
set_option maxRecDepth 20000 in
theorem wd_141 : Cond.instanceMethod yX4_now ∈ GT := in_gt (in_t2 (List.mem_of_getElem? (i := 198) rfl)) (by decide +kernel)
set_option maxRecDepth 20000 in
theorem wd_142 : Cond.selects "BadgeZones" yX4_now yX4_now ∈ GT := in_gt (in_t2 (List.mem_of_getElem? (i := 199) rfl)) (by decide +kernel)
set_option maxRecDepth 20000 in
theorem wd_143 : Cond.code yX4_wasIn cX4_wasIn 4 (some .int) ∈ GT := in_gt (in_t2 (List.mem_of_getElem? (i := 213) rfl)) (by decide +kernel)
set_option maxRecDepth 20000 in
theorem wd_144 : Cond.methodLink "BadgeZonesLaw" 89 yX4_wasIn ∈ GT := in_gt (in_t2 (List.mem_of_getElem? (i := 210) rfl)) (by decide +kernel)
set_option maxRecDepth 20000 in
theorem wd_145 : Cond.instanceMethod yX4_wasIn ∈ GT := in_gt (in_t2 (List.mem_of_getElem? (i := 211) rfl)) (by decide +kernel)
set_option maxRecDepth 20000 in
theorem wd_146 : Cond.selects "BadgeZones" yX4_wasIn yX4_wasIn ∈ GT := in_gt (in_t2 (List.mem_of_getElem? (i := 212) rfl)) (by decide +kernel)
set_option maxRecDepth 20000 in
theorem wd_147 : Cond.fieldLink "BadgeZones$Badge" 22 "BadgeZones$Badge" "refusals" "I" ∈ GT := in_gt (in_t3 (List.mem_of_getElem? (i := 62) rfl)) (by decide +kernel)
set_option maxRecDepth 20000 in
theorem wd_148 : Cond.fieldLink "BadgeZones$Badge" 18 "BadgeZones$Badge" "isBlocked" "Z" ∈ GT := in_gt (in_t3 (List.mem_of_getElem? (i := 60) rfl)) (by decide +kernel)
set_option maxRecDepth 20000 in
theorem wd_149 : Cond.fieldLink "BadgeZones$Badge" 41 "BadgeZones$Badge" "stay" "LBadgeZones$Stay;" ∈ GT := in_gt (in_t3 (List.mem_of_getElem? (i := 57) rfl)) (by decide +kernel)
set_option maxRecDepth 20000 in
theorem wd_150 : Cond.fieldLink "BadgeZones$Badge" 60 "BadgeZones$Stay" "since" "I" ∈ GT := in_gt (in_t2 (List.mem_of_getElem? (i := 182) rfl)) (by decide +kernel)
set_option maxRecDepth 20000 in
theorem wd_151 : Cond.fieldLink "BadgeZones$Badge" 12 "BadgeZones$Badge" "stays" "Ljava/util/ArrayList;" ∈ GT := in_gt (in_t3 (List.mem_of_getElem? (i := 56) rfl)) (by decide +kernel)
set_option maxRecDepth 20000 in
theorem wd_152 : Cond.code yJx4a65c_size_8abf5 cJx4a65c_size_8abf5 1 (some .int) ∈ GT := in_gt (in_t1 (List.mem_of_getElem? (i := 174) rfl)) (by decide +kernel)
set_option maxRecDepth 20000 in
theorem wd_153 : Cond.methodLink "BadgeZones$Badge" 63 yJx4a65c_size_8abf5 ∈ GT := in_gt (in_t2 (List.mem_of_getElem? (i := 171) rfl)) (by decide +kernel)
set_option maxRecDepth 20000 in
theorem wd_154 : Cond.instanceMethod yJx4a65c_size_8abf5 ∈ GT := in_gt (in_t1 (List.mem_of_getElem? (i := 172) rfl)) (by decide +kernel)
set_option maxRecDepth 20000 in
theorem wd_155 : Cond.selects "java/util/ArrayList" yJx4a65c_size_8abf5 yJx4a65c_size_8abf5 ∈ GT := in_gt (in_t1 (List.mem_of_getElem? (i := 173) rfl)) (by decide +kernel)
set_option maxRecDepth 20000 in
theorem wd_156 : Cond.fieldLink "BadgeZones$Badge" 56 "BadgeZones$Stay" "zone" "LBadgeZones$Zone;" ∈ GT := in_gt (in_t2 (List.mem_of_getElem? (i := 179) rfl)) (by decide +kernel)
set_option maxRecDepth 20000 in
theorem wd_157 : Cond.classLink "BadgeZones$Badge" 36 "BadgeZones$Stay" ∈ GT := in_gt (in_t2 (List.mem_of_getElem? (i := 172) rfl)) (by decide +kernel)
set_option maxRecDepth 20000 in
theorem wd_158 : Cond.code yX2_init cX2_init 3 none ∈ GT := in_gt (in_t2 (List.mem_of_getElem? (i := 176) rfl)) (by decide +kernel)
set_option maxRecDepth 20000 in
theorem wd_159 : Cond.methodLink "BadgeZones$Badge" 38 yX2_init ∈ GT := in_gt (in_t2 (List.mem_of_getElem? (i := 174) rfl)) (by decide +kernel)
set_option maxRecDepth 20000 in
theorem wd_160 : Cond.instanceMethod yX2_init ∈ GT := in_gt (in_t2 (List.mem_of_getElem? (i := 175) rfl)) (by decide +kernel)
set_option maxRecDepth 20000 in
theorem wd_161 : Cond.initialized "BadgeZones$Stay" ∈ GT := in_gt (in_t1 (List.mem_of_getElem? (i := 20) rfl)) (by decide +kernel)
set_option maxRecDepth 20000 in
theorem wd_162 : Cond.code yJx4a65c_add_9ea2d cJx4a65c_add_9ea2d 2 (some .boolean) ∈ GT := in_gt (in_t1 (List.mem_of_getElem? (i := 91) rfl)) (by decide +kernel)
set_option maxRecDepth 20000 in
theorem wd_163 : Cond.methodLink "BadgeZones$Badge" 45 yJx4a65c_add_9ea2d ∈ GT := in_gt (in_t2 (List.mem_of_getElem? (i := 188) rfl)) (by decide +kernel)
set_option maxRecDepth 20000 in
theorem wd_164 : Cond.instanceMethod yJx4a65c_add_9ea2d ∈ GT := in_gt (in_t1 (List.mem_of_getElem? (i := 89) rfl)) (by decide +kernel)
set_option maxRecDepth 20000 in
theorem wd_165 : Cond.selects "java/util/ArrayList" yJx4a65c_add_9ea2d yJx4a65c_add_9ea2d ∈ GT := in_gt (in_t1 (List.mem_of_getElem? (i := 90) rfl)) (by decide +kernel)
set_option maxRecDepth 20000 in
theorem wd_166 : Cond.fieldLink "BadgeZones$Badge" 49 "BadgeZones$Zone" "number" "I" ∈ GT := in_gt (in_t1 (List.mem_of_getElem? (i := 37) rfl)) (by decide +kernel)
set_option maxRecDepth 20000 in
theorem wd_167 : Cond.code yX0_rightsNow cX0_rightsNow 1 (some .int) ∈ GT := in_gt (in_t2 (List.mem_of_getElem? (i := 48) rfl)) (by decide +kernel)
set_option maxRecDepth 20000 in
theorem wd_168 : Cond.methodLink "BadgeZones$Badge" 52 yX0_rightsNow ∈ GT := in_gt (in_t2 (List.mem_of_getElem? (i := 45) rfl)) (by decide +kernel)
set_option maxRecDepth 20000 in
theorem wd_169 : Cond.instanceMethod yX0_rightsNow ∈ GT := in_gt (in_t2 (List.mem_of_getElem? (i := 46) rfl)) (by decide +kernel)
set_option maxRecDepth 20000 in
theorem wd_170 : Cond.selects "BadgeZones$Badge" yX0_rightsNow yX0_rightsNow ∈ GT := in_gt (in_t2 (List.mem_of_getElem? (i := 47) rfl)) (by decide +kernel)
set_option maxRecDepth 20000 in
theorem wd_171 : Cond.initialized "BadgeZones$Badge" ∈ GT := in_gt (in_t1 (List.mem_of_getElem? (i := 19) rfl)) (by decide +kernel)
set_option maxRecDepth 20000 in
theorem wd_172 : Cond.methodLink "BadgeZones$Badge" 3 ⟨"java/lang/Object", "<init>", "()V"⟩ ∈ GT := in_gt (in_t3 (List.mem_of_getElem? (i := 50) rfl)) (by decide +kernel)
set_option maxRecDepth 20000 in
theorem wd_173 : Cond.classLink "BadgeZones$Badge" 9 "java/util/ArrayList" ∈ GT := in_gt (in_t3 (List.mem_of_getElem? (i := 51) rfl)) (by decide +kernel)
set_option maxRecDepth 20000 in
theorem wd_174 : Cond.code yJx4a65c_init_da8c8 cJx4a65c_init_da8c8 1 none ∈ GT := in_gt (in_t1 (List.mem_of_getElem? (i := 66) rfl)) (by decide +kernel)
set_option maxRecDepth 20000 in
theorem wd_175 : Cond.methodLink "BadgeZones$Badge" 11 yJx4a65c_init_da8c8 ∈ GT := in_gt (in_t3 (List.mem_of_getElem? (i := 52) rfl)) (by decide +kernel)
set_option maxRecDepth 20000 in
theorem wd_176 : Cond.instanceMethod yJx4a65c_init_da8c8 ∈ GT := in_gt (in_t1 (List.mem_of_getElem? (i := 65) rfl)) (by decide +kernel)
set_option maxRecDepth 20000 in
theorem wd_177 : Cond.fieldLink "BadgeZones$Badge" 26 "BadgeZones$Badge" "number" "I" ∈ GT := in_gt (in_t3 (List.mem_of_getElem? (i := 53) rfl)) (by decide +kernel)
set_option maxRecDepth 20000 in
theorem wd_178 : Cond.fieldLink "BadgeZones$Badge" 29 "BadgeZones$Badge" "host" "LBadgeZones$Badge;" ∈ GT := in_gt (in_t3 (List.mem_of_getElem? (i := 54) rfl)) (by decide +kernel)
set_option maxRecDepth 20000 in
theorem wd_179 : Cond.fieldLink "BadgeZones$Badge" 33 "BadgeZones$Badge" "ownRights" "I" ∈ GT := in_gt (in_t3 (List.mem_of_getElem? (i := 59) rfl)) (by decide +kernel)
set_option maxRecDepth 20000 in
theorem wd_180 : Cond.code yJx4a65c_get_915e3 cJx4a65c_get_915e3 2 (some (.object "java/lang/Object")) ∈ GT := in_gt (in_t2 (List.mem_of_getElem? (i := 6) rfl)) (by decide +kernel)
set_option maxRecDepth 20000 in
theorem wd_181 : Cond.methodLink "BadgeZones$Badge" 66 yJx4a65c_get_915e3 ∈ GT := in_gt (in_t2 (List.mem_of_getElem? (i := 219) rfl)) (by decide +kernel)
set_option maxRecDepth 20000 in
theorem wd_182 : Cond.instanceMethod yJx4a65c_get_915e3 ∈ GT := in_gt (in_t2 (List.mem_of_getElem? (i := 4) rfl)) (by decide +kernel)
set_option maxRecDepth 20000 in
theorem wd_183 : Cond.selects "java/util/ArrayList" yJx4a65c_get_915e3 yJx4a65c_get_915e3 ∈ GT := in_gt (in_t2 (List.mem_of_getElem? (i := 5) rfl)) (by decide +kernel)
set_option maxRecDepth 20000 in
theorem wd_184 : Cond.fieldLink "BadgeZones$Door" 25 "BadgeZones$Door" "lock" "I" ∈ GT := in_gt (in_t3 (List.mem_of_getElem? (i := 23) rfl)) (by decide +kernel)
set_option maxRecDepth 20000 in
theorem wd_185 : Cond.methodLink "BadgeZones$Door" 3 ⟨"java/lang/Object", "<init>", "()V"⟩ ∈ GT := in_gt (in_t3 (List.mem_of_getElem? (i := 19) rfl)) (by decide +kernel)
set_option maxRecDepth 20000 in
theorem wd_186 : Cond.fieldLink "BadgeZones$Door" 9 "BadgeZones$Door" "openUntil" "I" ∈ GT := in_gt (in_t3 (List.mem_of_getElem? (i := 24) rfl)) (by decide +kernel)
set_option maxRecDepth 20000 in
theorem wd_187 : Cond.fieldLink "BadgeZones$Door" 15 "BadgeZones$Door" "sideA" "LBadgeZones$Zone;" ∈ GT := in_gt (in_t3 (List.mem_of_getElem? (i := 20) rfl)) (by decide +kernel)
set_option maxRecDepth 20000 in
theorem wd_188 : Cond.fieldLink "BadgeZones$Door" 19 "BadgeZones$Door" "sideB" "LBadgeZones$Zone;" ∈ GT := in_gt (in_t3 (List.mem_of_getElem? (i := 21) rfl)) (by decide +kernel)
set_option maxRecDepth 20000 in
theorem wd_189 : Cond.fieldLink "BadgeZones$Door" 22 "BadgeZones$Door" "hold" "I" ∈ GT := in_gt (in_t3 (List.mem_of_getElem? (i := 22) rfl)) (by decide +kernel)
set_option maxRecDepth 20000 in
theorem wd_190 : Cond.code yX1_measureFrom cX1_measureFrom 3 none ∈ GT := in_gt (in_t2 (List.mem_of_getElem? (i := 120) rfl)) (by decide +kernel)
set_option maxRecDepth 20000 in
theorem wd_191 : Cond.methodLink "BadgeZones$Door" 34 yX1_measureFrom ∈ GT := in_gt (in_t2 (List.mem_of_getElem? (i := 118) rfl)) (by decide +kernel)
set_option maxRecDepth 20000 in
theorem wd_192 : Cond.static yX1_measureFrom ∈ GT := in_gt (in_t2 (List.mem_of_getElem? (i := 119) rfl)) (by decide +kernel)
set_option maxRecDepth 20000 in
theorem wd_193 : Cond.initialized "BadgeZones$Door" ∈ GT := in_gt (in_t1 (List.mem_of_getElem? (i := 18) rfl)) (by decide +kernel)
set_option maxRecDepth 20000 in
theorem wd_194 : Cond.fieldLink "BadgeZones$Door" 38 "BadgeZones$Zone" "isOnTheWay" "Z" ∈ GT := in_gt (in_t1 (List.mem_of_getElem? (i := 44) rfl)) (by decide +kernel)
set_option maxRecDepth 20000 in
theorem wd_195 : Cond.fieldLink "BadgeZones$Door" 44 "BadgeZones$Zone" "doorsLeft" "I" ∈ GT := in_gt (in_t1 (List.mem_of_getElem? (i := 47) rfl)) (by decide +kernel)
set_option maxRecDepth 20000 in
theorem wd_196 : Cond.methodLink "BadgeZones$Door" 28 yJ9_max_7cf53 ∈ GT := in_gt (in_t2 (List.mem_of_getElem? (i := 22) rfl)) (by decide +kernel)
set_option maxRecDepth 20000 in
theorem wd_197 : Cond.methodLink "BadgeZones$Stay" 1 ⟨"java/lang/Object", "<init>", "()V"⟩ ∈ GT := in_gt (in_t2 (List.mem_of_getElem? (i := 177) rfl)) (by decide +kernel)
set_option maxRecDepth 20000 in
theorem wd_198 : Cond.fieldLink "BadgeZones$Stay" 7 "BadgeZones$Stay" "zone" "LBadgeZones$Zone;" ∈ GT := in_gt (in_t2 (List.mem_of_getElem? (i := 178) rfl)) (by decide +kernel)
set_option maxRecDepth 20000 in
theorem wd_199 : Cond.fieldLink "BadgeZones$Stay" 13 "BadgeZones$Stay" "since" "I" ∈ GT := in_gt (in_t2 (List.mem_of_getElem? (i := 181) rfl)) (by decide +kernel)
set_option maxRecDepth 20000 in
theorem wd_200 : Cond.fieldLink "BadgeZones$Zone" 28 "BadgeZones$Zone" "end" "I" ∈ GT := in_gt (in_t1 (List.mem_of_getElem? (i := 42) rfl)) (by decide +kernel)
set_option maxRecDepth 20000 in
theorem wd_201 : Cond.fieldLink "BadgeZones$Zone" 25 "BadgeZones$Zone" "begin" "I" ∈ GT := in_gt (in_t1 (List.mem_of_getElem? (i := 41) rfl)) (by decide +kernel)
set_option maxRecDepth 20000 in
theorem wd_202 : Cond.methodLink "BadgeZones$Zone" 3 ⟨"java/lang/Object", "<init>", "()V"⟩ ∈ GT := in_gt (in_t1 (List.mem_of_getElem? (i := 35) rfl)) (by decide +kernel)
set_option maxRecDepth 20000 in
theorem wd_203 : Cond.fieldLink "BadgeZones$Zone" 9 "BadgeZones$Zone" "isOnTheWay" "Z" ∈ GT := in_gt (in_t1 (List.mem_of_getElem? (i := 43) rfl)) (by decide +kernel)
set_option maxRecDepth 20000 in
theorem wd_204 : Cond.fieldLink "BadgeZones$Zone" 15 "BadgeZones$Zone" "doorsLeft" "I" ∈ GT := in_gt (in_t1 (List.mem_of_getElem? (i := 46) rfl)) (by decide +kernel)
set_option maxRecDepth 20000 in
theorem wd_205 : Cond.fieldLink "BadgeZones$Zone" 19 "BadgeZones$Zone" "number" "I" ∈ GT := in_gt (in_t1 (List.mem_of_getElem? (i := 36) rfl)) (by decide +kernel)
set_option maxRecDepth 20000 in
theorem wd_206 : Cond.fieldLink "BadgeZones$Zone" 22 "BadgeZones$Zone" "capacity" "I" ∈ GT := in_gt (in_t1 (List.mem_of_getElem? (i := 39) rfl)) (by decide +kernel)
set_option maxRecDepth 20000 in
theorem wd_207 : Cond.code yX4_checkRights cX4_checkRights 1 none ∈ GT := in_gt (in_t3 (List.mem_of_getElem? (i := 85) rfl)) (by decide +kernel)
set_option maxRecDepth 20000 in
theorem wd_208 : Cond.methodLink "BadgeZones" 114 yX4_checkRights ∈ GT := in_gt (in_t3 (List.mem_of_getElem? (i := 83) rfl)) (by decide +kernel)
set_option maxRecDepth 20000 in
theorem wd_209 : Cond.static yX4_checkRights ∈ GT := in_gt (in_t3 (List.mem_of_getElem? (i := 84) rfl)) (by decide +kernel)
set_option maxRecDepth 20000 in
theorem wd_210 : Cond.code yX4_keepBadge cX4_keepBadge 4 (some .int) ∈ GT := in_gt (in_t3 (List.mem_of_getElem? (i := 44) rfl)) (by decide +kernel)
set_option maxRecDepth 20000 in
theorem wd_211 : Cond.methodLink "BadgeZones" 118 yX4_keepBadge ∈ GT := in_gt (in_t3 (List.mem_of_getElem? (i := 41) rfl)) (by decide +kernel)
set_option maxRecDepth 20000 in
theorem wd_212 : Cond.instanceMethod yX4_keepBadge ∈ GT := in_gt (in_t3 (List.mem_of_getElem? (i := 43) rfl)) (by decide +kernel)
set_option maxRecDepth 20000 in
theorem wd_213 : Cond.selects "BadgeZones" yX4_keepBadge yX4_keepBadge ∈ GT := in_gt (List.mem_append_left _ (List.mem_map.mpr ⟨_, lw_pv 17 rfl, rfl⟩)) (by decide +kernel)
set_option maxRecDepth 20000 in
theorem wd_214 : Cond.code yX4_zoneAt cX4_zoneAt 2 (some (.object "BadgeZones$Zone")) ∈ GT := in_gt (in_t2 (List.mem_of_getElem? (i := 208) rfl)) (by decide +kernel)
set_option maxRecDepth 20000 in
theorem wd_215 : Cond.methodLink "BadgeZones" 58 yX4_zoneAt ∈ GT := in_gt (in_t2 (List.mem_of_getElem? (i := 205) rfl)) (by decide +kernel)
set_option maxRecDepth 20000 in
theorem wd_216 : Cond.instanceMethod yX4_zoneAt ∈ GT := in_gt (in_t2 (List.mem_of_getElem? (i := 207) rfl)) (by decide +kernel)
set_option maxRecDepth 20000 in
theorem wd_217 : Cond.selects "BadgeZones" yX4_zoneAt yX4_zoneAt ∈ GT := in_gt (List.mem_append_left _ (List.mem_map.mpr ⟨_, lw_pv 16 rfl, rfl⟩)) (by decide +kernel)
set_option maxRecDepth 20000 in
theorem wd_218 : Cond.code yX4_isWithin cX4_isWithin 3 (some .boolean) ∈ GT := in_gt (in_t2 (List.mem_of_getElem? (i := 39) rfl)) (by decide +kernel)
set_option maxRecDepth 20000 in
theorem wd_219 : Cond.methodLink "BadgeZones" 80 yX4_isWithin ∈ GT := in_gt (in_t2 (List.mem_of_getElem? (i := 37) rfl)) (by decide +kernel)
set_option maxRecDepth 20000 in
theorem wd_220 : Cond.static yX4_isWithin ∈ GT := in_gt (in_t2 (List.mem_of_getElem? (i := 38) rfl)) (by decide +kernel)
set_option maxRecDepth 20000 in
theorem wd_221 : Cond.classLink "BadgeZones" 84 "java/lang/IllegalArgumentException" ∈ GT := in_gt (in_t2 (List.mem_of_getElem? (i := 53) rfl)) (by decide +kernel)
set_option maxRecDepth 20000 in
theorem wd_222 : Cond.fieldLink "BadgeZones" 25 "BadgeZones" "doors" "Ljava/util/ArrayList;" ∈ GT := in_gt (in_t1 (List.mem_of_getElem? (i := 146) rfl)) (by decide +kernel)
set_option maxRecDepth 20000 in
theorem wd_223 : Cond.methodLink "BadgeZones" 47 yJx4a65c_size_8abf5 ∈ GT := in_gt (in_t1 (List.mem_of_getElem? (i := 171) rfl)) (by decide +kernel)
set_option maxRecDepth 20000 in
theorem wd_224 : Cond.classLink "BadgeZones" 51 "java/lang/IllegalStateException" ∈ GT := in_gt (in_t2 (List.mem_of_getElem? (i := 70) rfl)) (by decide +kernel)
set_option maxRecDepth 20000 in
theorem wd_225 : Cond.classLink "BadgeZones" 91 "BadgeZones$Door" ∈ GT := in_gt (in_t2 (List.mem_of_getElem? (i := 17) rfl)) (by decide +kernel)
set_option maxRecDepth 20000 in
theorem wd_226 : Cond.code yX1_init cX1_init 5 none ∈ GT := in_gt (in_t3 (List.mem_of_getElem? (i := 18) rfl)) (by decide +kernel)
set_option maxRecDepth 20000 in
theorem wd_227 : Cond.methodLink "BadgeZones" 93 yX1_init ∈ GT := in_gt (in_t3 (List.mem_of_getElem? (i := 16) rfl)) (by decide +kernel)
set_option maxRecDepth 20000 in
theorem wd_228 : Cond.instanceMethod yX1_init ∈ GT := in_gt (in_t3 (List.mem_of_getElem? (i := 17) rfl)) (by decide +kernel)
set_option maxRecDepth 20000 in
theorem wd_229 : Cond.methodLink "BadgeZones" 39 yJx4a65c_add_9ea2d ∈ GT := in_gt (in_t1 (List.mem_of_getElem? (i := 88) rfl)) (by decide +kernel)
set_option maxRecDepth 20000 in
theorem wd_230 : Cond.code yX4_badgeAt cX4_badgeAt 2 (some (.object "BadgeZones$Badge")) ∈ GT := in_gt (in_t2 (List.mem_of_getElem? (i := 30) rfl)) (by decide +kernel)
set_option maxRecDepth 20000 in
theorem wd_231 : Cond.methodLink "BadgeZones" 122 yX4_badgeAt ∈ GT := in_gt (in_t2 (List.mem_of_getElem? (i := 27) rfl)) (by decide +kernel)
set_option maxRecDepth 20000 in
theorem wd_232 : Cond.instanceMethod yX4_badgeAt ∈ GT := in_gt (in_t2 (List.mem_of_getElem? (i := 29) rfl)) (by decide +kernel)
set_option maxRecDepth 20000 in
theorem wd_233 : Cond.selects "BadgeZones" yX4_badgeAt yX4_badgeAt ∈ GT := in_gt (List.mem_append_left _ (List.mem_map.mpr ⟨_, lw_pv 5 rfl, rfl⟩)) (by decide +kernel)
set_option maxRecDepth 20000 in
theorem wd_234 : Cond.fieldLink "BadgeZones" 126 "BadgeZones$Badge" "host" "LBadgeZones$Badge;" ∈ GT := in_gt (in_t3 (List.mem_of_getElem? (i := 55) rfl)) (by decide +kernel)
set_option maxRecDepth 20000 in
theorem wd_235 : Cond.code yX4_checkZone cX4_checkZone 3 none ∈ GT := in_gt (in_t3 (List.mem_of_getElem? (i := 5) rfl)) (by decide +kernel)
set_option maxRecDepth 20000 in
theorem wd_236 : Cond.methodLink "BadgeZones" 43 yX4_checkZone ∈ GT := in_gt (in_t3 (List.mem_of_getElem? (i := 3) rfl)) (by decide +kernel)
set_option maxRecDepth 20000 in
theorem wd_237 : Cond.static yX4_checkZone ∈ GT := in_gt (in_t3 (List.mem_of_getElem? (i := 4) rfl)) (by decide +kernel)
set_option maxRecDepth 20000 in
theorem wd_238 : Cond.fieldLink "BadgeZones" 21 "BadgeZones" "zones" "Ljava/util/ArrayList;" ∈ GT := in_gt (in_t1 (List.mem_of_getElem? (i := 145) rfl)) (by decide +kernel)
set_option maxRecDepth 20000 in
theorem wd_239 : Cond.classLink "BadgeZones" 9 "BadgeZones$Zone" ∈ GT := in_gt (in_t1 (List.mem_of_getElem? (i := 30) rfl)) (by decide +kernel)
set_option maxRecDepth 20000 in
theorem wd_240 : Cond.code yX3_init cX3_init 5 none ∈ GT := in_gt (in_t1 (List.mem_of_getElem? (i := 34) rfl)) (by decide +kernel)
set_option maxRecDepth 20000 in
theorem wd_241 : Cond.methodLink "BadgeZones" 11 yX3_init ∈ GT := in_gt (in_t1 (List.mem_of_getElem? (i := 32) rfl)) (by decide +kernel)
set_option maxRecDepth 20000 in
theorem wd_242 : Cond.instanceMethod yX3_init ∈ GT := in_gt (in_t1 (List.mem_of_getElem? (i := 33) rfl)) (by decide +kernel)
set_option maxRecDepth 20000 in
theorem wd_243 : Cond.initialized "BadgeZones$Zone" ∈ GT := in_gt (in_t1 (List.mem_of_getElem? (i := 2) rfl)) (by decide +kernel)
set_option maxRecDepth 20000 in
theorem wd_244 : Cond.fieldLink "BadgeZones" 35 "BadgeZones" "isAlarm" "Z" ∈ GT := in_gt (in_t1 (List.mem_of_getElem? (i := 149) rfl)) (by decide +kernel)
set_option maxRecDepth 20000 in
theorem wd_245 : Cond.code yX4_measureDistances cX4_measureDistances 2 none ∈ GT := in_gt (in_t2 (List.mem_of_getElem? (i := 109) rfl)) (by decide +kernel)
set_option maxRecDepth 20000 in
theorem wd_246 : Cond.methodLink "BadgeZones" 96 yX4_measureDistances ∈ GT := in_gt (in_t2 (List.mem_of_getElem? (i := 106) rfl)) (by decide +kernel)
set_option maxRecDepth 20000 in
theorem wd_247 : Cond.instanceMethod yX4_measureDistances ∈ GT := in_gt (in_t2 (List.mem_of_getElem? (i := 108) rfl)) (by decide +kernel)
set_option maxRecDepth 20000 in
theorem wd_248 : Cond.selects "BadgeZones" yX4_measureDistances yX4_measureDistances ∈ GT := in_gt (List.mem_append_left _ (List.mem_map.mpr ⟨_, lw_pv 8 rfl, rfl⟩)) (by decide +kernel)
set_option maxRecDepth 20000 in
theorem wd_249 : Cond.fieldLink "BadgeZones" 99 "BadgeZones$Zone" "doorsLeft" "I" ∈ GT := in_gt (in_t1 (List.mem_of_getElem? (i := 48) rfl)) (by decide +kernel)
set_option maxRecDepth 20000 in
theorem wd_250 : Cond.fieldLink "BadgeZones" 193 "BadgeZones$Badge" "stay" "LBadgeZones$Stay;" ∈ GT := in_gt (in_t3 (List.mem_of_getElem? (i := 58) rfl)) (by decide +kernel)
set_option maxRecDepth 20000 in
theorem wd_251 : Cond.fieldLink "BadgeZones" 197 "BadgeZones$Stay" "zone" "LBadgeZones$Zone;" ∈ GT := in_gt (in_t2 (List.mem_of_getElem? (i := 180) rfl)) (by decide +kernel)
set_option maxRecDepth 20000 in
theorem wd_252 : Cond.fieldLink "BadgeZones" 14 "BadgeZones" "outside" "LBadgeZones$Zone;" ∈ GT := in_gt (in_t1 (List.mem_of_getElem? (i := 144) rfl)) (by decide +kernel)
set_option maxRecDepth 20000 in
theorem wd_253 : Cond.code yX0_wouldLackHost cX0_wouldLackHost 4 (some .boolean) ∈ GT := in_gt (in_t2 (List.mem_of_getElem? (i := 124) rfl)) (by decide +kernel)
set_option maxRecDepth 20000 in
theorem wd_254 : Cond.methodLink "BadgeZones" 254 yX0_wouldLackHost ∈ GT := in_gt (in_t2 (List.mem_of_getElem? (i := 121) rfl)) (by decide +kernel)
set_option maxRecDepth 20000 in
theorem wd_255 : Cond.instanceMethod yX0_wouldLackHost ∈ GT := in_gt (in_t2 (List.mem_of_getElem? (i := 122) rfl)) (by decide +kernel)
set_option maxRecDepth 20000 in
theorem wd_256 : Cond.selects "BadgeZones$Badge" yX0_wouldLackHost yX0_wouldLackHost ∈ GT := in_gt (in_t2 (List.mem_of_getElem? (i := 123) rfl)) (by decide +kernel)
set_option maxRecDepth 20000 in
theorem wd_257 : Cond.code yX0_hasRightFor cX0_hasRightFor 2 (some .boolean) ∈ GT := in_gt (in_t2 (List.mem_of_getElem? (i := 132) rfl)) (by decide +kernel)
set_option maxRecDepth 20000 in
theorem wd_258 : Cond.methodLink "BadgeZones" 247 yX0_hasRightFor ∈ GT := in_gt (in_t2 (List.mem_of_getElem? (i := 129) rfl)) (by decide +kernel)
set_option maxRecDepth 20000 in
theorem wd_259 : Cond.instanceMethod yX0_hasRightFor ∈ GT := in_gt (in_t2 (List.mem_of_getElem? (i := 130) rfl)) (by decide +kernel)
set_option maxRecDepth 20000 in
theorem wd_260 : Cond.selects "BadgeZones$Badge" yX0_hasRightFor yX0_hasRightFor ∈ GT := in_gt (in_t2 (List.mem_of_getElem? (i := 131) rfl)) (by decide +kernel)
set_option maxRecDepth 20000 in
theorem wd_261 : Cond.fieldLink "BadgeZones" 31 "BadgeZones" "minute" "I" ∈ GT := in_gt (in_t1 (List.mem_of_getElem? (i := 148) rfl)) (by decide +kernel)
set_option maxRecDepth 20000 in
theorem wd_262 : Cond.code yX3_hasHoursAt cX3_hasHoursAt 3 (some .boolean) ∈ GT := in_gt (in_t2 (List.mem_of_getElem? (i := 136) rfl)) (by decide +kernel)
set_option maxRecDepth 20000 in
theorem wd_263 : Cond.methodLink "BadgeZones" 102 yX3_hasHoursAt ∈ GT := in_gt (in_t2 (List.mem_of_getElem? (i := 133) rfl)) (by decide +kernel)
set_option maxRecDepth 20000 in
theorem wd_264 : Cond.instanceMethod yX3_hasHoursAt ∈ GT := in_gt (in_t2 (List.mem_of_getElem? (i := 134) rfl)) (by decide +kernel)
set_option maxRecDepth 20000 in
theorem wd_265 : Cond.selects "BadgeZones$Zone" yX3_hasHoursAt yX3_hasHoursAt ∈ GT := in_gt (in_t2 (List.mem_of_getElem? (i := 135) rfl)) (by decide +kernel)
set_option maxRecDepth 20000 in
theorem wd_266 : Cond.code yX4_countIn cX4_countIn 2 (some .int) ∈ GT := in_gt (in_t2 (List.mem_of_getElem? (i := 140) rfl)) (by decide +kernel)
set_option maxRecDepth 20000 in
theorem wd_267 : Cond.methodLink "BadgeZones" 76 yX4_countIn ∈ GT := in_gt (in_t2 (List.mem_of_getElem? (i := 137) rfl)) (by decide +kernel)
set_option maxRecDepth 20000 in
theorem wd_268 : Cond.instanceMethod yX4_countIn ∈ GT := in_gt (in_t2 (List.mem_of_getElem? (i := 139) rfl)) (by decide +kernel)
set_option maxRecDepth 20000 in
theorem wd_269 : Cond.selects "BadgeZones" yX4_countIn yX4_countIn ∈ GT := in_gt (List.mem_append_left _ (List.mem_map.mpr ⟨_, lw_pv 11 rfl, rfl⟩)) (by decide +kernel)
set_option maxRecDepth 20000 in
theorem wd_270 : Cond.fieldLink "BadgeZones" 67 "BadgeZones$Zone" "capacity" "I" ∈ GT := in_gt (in_t1 (List.mem_of_getElem? (i := 40) rfl)) (by decide +kernel)
set_option maxRecDepth 20000 in
theorem wd_271 : Cond.code yX4_isExcluded cX4_isExcluded 4 (some .boolean) ∈ GT := in_gt (in_t2 (List.mem_of_getElem? (i := 154) rfl)) (by decide +kernel)
set_option maxRecDepth 20000 in
theorem wd_272 : Cond.methodLink "BadgeZones" 250 yX4_isExcluded ∈ GT := in_gt (in_t2 (List.mem_of_getElem? (i := 151) rfl)) (by decide +kernel)
set_option maxRecDepth 20000 in
theorem wd_273 : Cond.instanceMethod yX4_isExcluded ∈ GT := in_gt (in_t2 (List.mem_of_getElem? (i := 153) rfl)) (by decide +kernel)
set_option maxRecDepth 20000 in
theorem wd_274 : Cond.selects "BadgeZones" yX4_isExcluded yX4_isExcluded ∈ GT := in_gt (List.mem_append_left _ (List.mem_map.mpr ⟨_, lw_pv 13 rfl, rfl⟩)) (by decide +kernel)
set_option maxRecDepth 20000 in
theorem wd_275 : Cond.code yX4_wouldLeaveVisitor cX4_wouldLeaveVisitor 5 (some .boolean) ∈ GT := in_gt (in_t2 (List.mem_of_getElem? (i := 162) rfl)) (by decide +kernel)
set_option maxRecDepth 20000 in
theorem wd_276 : Cond.methodLink "BadgeZones" 258 yX4_wouldLeaveVisitor ∈ GT := in_gt (in_t2 (List.mem_of_getElem? (i := 159) rfl)) (by decide +kernel)
set_option maxRecDepth 20000 in
theorem wd_277 : Cond.instanceMethod yX4_wouldLeaveVisitor ∈ GT := in_gt (in_t2 (List.mem_of_getElem? (i := 161) rfl)) (by decide +kernel)
set_option maxRecDepth 20000 in
theorem wd_278 : Cond.selects "BadgeZones" yX4_wouldLeaveVisitor yX4_wouldLeaveVisitor ∈ GT := in_gt (List.mem_append_left _ (List.mem_map.mpr ⟨_, lw_pv 14 rfl, rfl⟩)) (by decide +kernel)
set_option maxRecDepth 20000 in
theorem wd_279 : Cond.fieldLink "BadgeZones" 139 "BadgeZones$Badge" "isBlocked" "Z" ∈ GT := in_gt (in_t3 (List.mem_of_getElem? (i := 61) rfl)) (by decide +kernel)
set_option maxRecDepth 20000 in
theorem wd_280 : Cond.code yX1_otherSide cX1_otherSide 2 (some (.object "BadgeZones$Zone")) ∈ GT := in_gt (in_t2 (List.mem_of_getElem? (i := 101) rfl)) (by decide +kernel)
set_option maxRecDepth 20000 in
theorem wd_281 : Cond.methodLink "BadgeZones" 235 yX1_otherSide ∈ GT := in_gt (in_t2 (List.mem_of_getElem? (i := 98) rfl)) (by decide +kernel)
set_option maxRecDepth 20000 in
theorem wd_282 : Cond.instanceMethod yX1_otherSide ∈ GT := in_gt (in_t2 (List.mem_of_getElem? (i := 99) rfl)) (by decide +kernel)
set_option maxRecDepth 20000 in
theorem wd_283 : Cond.selects "BadgeZones$Door" yX1_otherSide yX1_otherSide ∈ GT := in_gt (in_t2 (List.mem_of_getElem? (i := 100) rfl)) (by decide +kernel)
set_option maxRecDepth 20000 in
theorem wd_284 : Cond.code yX4_answerInAlarm cX4_answerInAlarm 3 (some .int) ∈ GT := in_gt (in_t2 (List.mem_of_getElem? (i := 105) rfl)) (by decide +kernel)
set_option maxRecDepth 20000 in
theorem wd_285 : Cond.methodLink "BadgeZones" 239 yX4_answerInAlarm ∈ GT := in_gt (in_t2 (List.mem_of_getElem? (i := 102) rfl)) (by decide +kernel)
set_option maxRecDepth 20000 in
theorem wd_286 : Cond.instanceMethod yX4_answerInAlarm ∈ GT := in_gt (in_t2 (List.mem_of_getElem? (i := 104) rfl)) (by decide +kernel)
set_option maxRecDepth 20000 in
theorem wd_287 : Cond.selects "BadgeZones" yX4_answerInAlarm yX4_answerInAlarm ∈ GT := in_gt (List.mem_append_left _ (List.mem_map.mpr ⟨_, lw_pv 7 rfl, rfl⟩)) (by decide +kernel)
set_option maxRecDepth 20000 in
theorem wd_288 : Cond.code yX4_answerInPeace cX4_answerInPeace 4 (some .int) ∈ GT := in_gt (in_t2 (List.mem_of_getElem? (i := 128) rfl)) (by decide +kernel)
set_option maxRecDepth 20000 in
theorem wd_289 : Cond.methodLink "BadgeZones" 243 yX4_answerInPeace ∈ GT := in_gt (in_t2 (List.mem_of_getElem? (i := 125) rfl)) (by decide +kernel)
set_option maxRecDepth 20000 in
theorem wd_290 : Cond.instanceMethod yX4_answerInPeace ∈ GT := in_gt (in_t2 (List.mem_of_getElem? (i := 127) rfl)) (by decide +kernel)
set_option maxRecDepth 20000 in
theorem wd_291 : Cond.selects "BadgeZones" yX4_answerInPeace yX4_answerInPeace ∈ GT := in_gt (List.mem_append_left _ (List.mem_map.mpr ⟨_, lw_pv 10 rfl, rfl⟩)) (by decide +kernel)
set_option maxRecDepth 20000 in
theorem wd_292 : Cond.classLink "BadgeZones" 62 "java/lang/IndexOutOfBoundsException" ∈ GT := in_gt (in_t1 (List.mem_of_getElem? (i := 175) rfl)) (by decide +kernel)
set_option maxRecDepth 20000 in
theorem wd_293 : Cond.code yX0_tell cX0_tell 2 (some .int) ∈ GT := in_gt (in_t2 (List.mem_of_getElem? (i := 44) rfl)) (by decide +kernel)
set_option maxRecDepth 20000 in
theorem wd_294 : Cond.methodLink "BadgeZones" 147 yX0_tell ∈ GT := in_gt (in_t2 (List.mem_of_getElem? (i := 41) rfl)) (by decide +kernel)
set_option maxRecDepth 20000 in
theorem wd_295 : Cond.instanceMethod yX0_tell ∈ GT := in_gt (in_t2 (List.mem_of_getElem? (i := 42) rfl)) (by decide +kernel)
set_option maxRecDepth 20000 in
theorem wd_296 : Cond.selects "BadgeZones$Badge" yX0_tell yX0_tell ∈ GT := in_gt (in_t2 (List.mem_of_getElem? (i := 43) rfl)) (by decide +kernel)
set_option maxRecDepth 20000 in
theorem wd_297 : Cond.fieldLink "BadgeZones" 28 "BadgeZones" "badges" "Ljava/util/ArrayList;" ∈ GT := in_gt (in_t1 (List.mem_of_getElem? (i := 147) rfl)) (by decide +kernel)
set_option maxRecDepth 20000 in
theorem wd_298 : Cond.methodLink "BadgeZones" 169 yJx4a65c_get_915e3 ∈ GT := in_gt (in_t2 (List.mem_of_getElem? (i := 3) rfl)) (by decide +kernel)
set_option maxRecDepth 20000 in
theorem wd_299 : Cond.classLink "BadgeZones" 127 "BadgeZones$Badge" ∈ GT := in_gt (in_t2 (List.mem_of_getElem? (i := 32) rfl)) (by decide +kernel)
set_option maxRecDepth 20000 in
theorem wd_300 : Cond.fieldLink "BadgeZones" 142 "BadgeZones$Badge" "refusals" "I" ∈ GT := in_gt (in_t3 (List.mem_of_getElem? (i := 63) rfl)) (by decide +kernel)
set_option maxRecDepth 20000 in
theorem wd_301 : Cond.code yX4_badgesIn cX4_badgesIn 4 (some .int) ∈ GT := in_gt (in_t2 (List.mem_of_getElem? (i := 144) rfl)) (by decide +kernel)
set_option maxRecDepth 20000 in
theorem wd_302 : Cond.methodLink "BadgeZones" 166 yX4_badgesIn ∈ GT := in_gt (in_t2 (List.mem_of_getElem? (i := 141) rfl)) (by decide +kernel)
set_option maxRecDepth 20000 in
theorem wd_303 : Cond.instanceMethod yX4_badgesIn ∈ GT := in_gt (in_t2 (List.mem_of_getElem? (i := 143) rfl)) (by decide +kernel)
set_option maxRecDepth 20000 in
theorem wd_304 : Cond.selects "BadgeZones" yX4_badgesIn yX4_badgesIn ∈ GT := in_gt (List.mem_append_left _ (List.mem_map.mpr ⟨_, lw_pv 12 rfl, rfl⟩)) (by decide +kernel)
set_option maxRecDepth 20000 in
theorem wd_305 : Cond.methodLink "BadgeZones" 230 yJ6_bitCount_0f7a4 ∈ GT := in_gt (in_t2 (List.mem_of_getElem? (i := 145) rfl)) (by decide +kernel)
set_option maxRecDepth 20000 in
theorem wd_306 : Cond.methodLink "BadgeZones" 3 ⟨"java/lang/Object", "<init>", "()V"⟩ ∈ GT := in_gt (in_t1 (List.mem_of_getElem? (i := 27) rfl)) (by decide +kernel)
set_option maxRecDepth 20000 in
theorem wd_307 : Cond.classLink "BadgeZones" 18 "java/util/ArrayList" ∈ GT := in_gt (in_t1 (List.mem_of_getElem? (i := 62) rfl)) (by decide +kernel)
set_option maxRecDepth 20000 in
theorem wd_308 : Cond.methodLink "BadgeZones" 20 yJx4a65c_init_da8c8 ∈ GT := in_gt (in_t1 (List.mem_of_getElem? (i := 64) rfl)) (by decide +kernel)
set_option maxRecDepth 20000 in
theorem wd_309 : Cond.code yX1_excludes cX1_excludes 2 (some .boolean) ∈ GT := in_gt (in_t2 (List.mem_of_getElem? (i := 158) rfl)) (by decide +kernel)
set_option maxRecDepth 20000 in
theorem wd_310 : Cond.methodLink "BadgeZones" 262 yX1_excludes ∈ GT := in_gt (in_t2 (List.mem_of_getElem? (i := 155) rfl)) (by decide +kernel)
set_option maxRecDepth 20000 in
theorem wd_311 : Cond.instanceMethod yX1_excludes ∈ GT := in_gt (in_t2 (List.mem_of_getElem? (i := 156) rfl)) (by decide +kernel)
set_option maxRecDepth 20000 in
theorem wd_312 : Cond.selects "BadgeZones$Door" yX1_excludes yX1_excludes ∈ GT := in_gt (in_t2 (List.mem_of_getElem? (i := 157) rfl)) (by decide +kernel)
set_option maxRecDepth 20000 in
theorem wd_313 : Cond.code yX1_minutesLeft cX1_minutesLeft 2 (some .int) ∈ GT := in_gt (in_t2 (List.mem_of_getElem? (i := 21) rfl)) (by decide +kernel)
set_option maxRecDepth 20000 in
theorem wd_314 : Cond.methodLink "BadgeZones" 110 yX1_minutesLeft ∈ GT := in_gt (in_t2 (List.mem_of_getElem? (i := 18) rfl)) (by decide +kernel)
set_option maxRecDepth 20000 in
theorem wd_315 : Cond.instanceMethod yX1_minutesLeft ∈ GT := in_gt (in_t2 (List.mem_of_getElem? (i := 19) rfl)) (by decide +kernel)
set_option maxRecDepth 20000 in
theorem wd_316 : Cond.selects "BadgeZones$Door" yX1_minutesLeft yX1_minutesLeft ∈ GT := in_gt (in_t2 (List.mem_of_getElem? (i := 20) rfl)) (by decide +kernel)
set_option maxRecDepth 20000 in
theorem wd_317 : Cond.code yX0_init cX0_init 5 none ∈ GT := in_gt (in_t3 (List.mem_of_getElem? (i := 49) rfl)) (by decide +kernel)
set_option maxRecDepth 20000 in
theorem wd_318 : Cond.methodLink "BadgeZones" 225 yX0_init ∈ GT := in_gt (in_t3 (List.mem_of_getElem? (i := 47) rfl)) (by decide +kernel)
set_option maxRecDepth 20000 in
theorem wd_319 : Cond.instanceMethod yX0_init ∈ GT := in_gt (in_t3 (List.mem_of_getElem? (i := 48) rfl)) (by decide +kernel)
set_option maxRecDepth 20000 in
theorem wd_320 : Cond.fieldLink "BadgeZones" 272 "BadgeZones$Zone" "isOnTheWay" "Z" ∈ GT := in_gt (in_t1 (List.mem_of_getElem? (i := 45) rfl)) (by decide +kernel)
set_option maxRecDepth 20000 in
theorem wd_321 : Cond.code yX4_measureTo cX4_measureTo 4 none ∈ GT := in_gt (in_t2 (List.mem_of_getElem? (i := 113) rfl)) (by decide +kernel)
set_option maxRecDepth 20000 in
theorem wd_322 : Cond.methodLink "BadgeZones" 275 yX4_measureTo ∈ GT := in_gt (in_t2 (List.mem_of_getElem? (i := 110) rfl)) (by decide +kernel)
set_option maxRecDepth 20000 in
theorem wd_323 : Cond.instanceMethod yX4_measureTo ∈ GT := in_gt (in_t2 (List.mem_of_getElem? (i := 112) rfl)) (by decide +kernel)
set_option maxRecDepth 20000 in
theorem wd_324 : Cond.selects "BadgeZones" yX4_measureTo yX4_measureTo ∈ GT := in_gt (List.mem_append_left _ (List.mem_map.mpr ⟨_, lw_pv 9 rfl, rfl⟩)) (by decide +kernel)
set_option maxRecDepth 20000 in
theorem wd_325 : Cond.code yX1_measureBack cX1_measureBack 2 none ∈ GT := in_gt (in_t2 (List.mem_of_getElem? (i := 117) rfl)) (by decide +kernel)
set_option maxRecDepth 20000 in
theorem wd_326 : Cond.methodLink "BadgeZones" 279 yX1_measureBack ∈ GT := in_gt (in_t2 (List.mem_of_getElem? (i := 114) rfl)) (by decide +kernel)
set_option maxRecDepth 20000 in
theorem wd_327 : Cond.instanceMethod yX1_measureBack ∈ GT := in_gt (in_t2 (List.mem_of_getElem? (i := 115) rfl)) (by decide +kernel)
set_option maxRecDepth 20000 in
theorem wd_328 : Cond.selects "BadgeZones$Door" yX1_measureBack yX1_measureBack ∈ GT := in_gt (in_t2 (List.mem_of_getElem? (i := 116) rfl)) (by decide +kernel)
set_option maxRecDepth 20000 in
theorem wd_329 : Cond.code yX0_minutesSpent cX0_minutesSpent 7 (some .int) ∈ GT := in_gt (in_t2 (List.mem_of_getElem? (i := 227) rfl)) (by decide +kernel)
set_option maxRecDepth 20000 in
theorem wd_330 : Cond.methodLink "BadgeZones" 185 yX0_minutesSpent ∈ GT := in_gt (in_t2 (List.mem_of_getElem? (i := 224) rfl)) (by decide +kernel)
set_option maxRecDepth 20000 in
theorem wd_331 : Cond.instanceMethod yX0_minutesSpent ∈ GT := in_gt (in_t2 (List.mem_of_getElem? (i := 225) rfl)) (by decide +kernel)
set_option maxRecDepth 20000 in
theorem wd_332 : Cond.selects "BadgeZones$Badge" yX0_minutesSpent yX0_minutesSpent ∈ GT := in_gt (in_t2 (List.mem_of_getElem? (i := 226) rfl)) (by decide +kernel)
set_option maxRecDepth 20000 in
theorem wd_333 : Cond.code yX4_doorAt cX4_doorAt 2 (some (.object "BadgeZones$Door")) ∈ GT := in_gt (in_t1 (List.mem_of_getElem? (i := 170) rfl)) (by decide +kernel)
set_option maxRecDepth 20000 in
theorem wd_334 : Cond.methodLink "BadgeZones" 106 yX4_doorAt ∈ GT := in_gt (in_t1 (List.mem_of_getElem? (i := 167) rfl)) (by decide +kernel)
set_option maxRecDepth 20000 in
theorem wd_335 : Cond.instanceMethod yX4_doorAt ∈ GT := in_gt (in_t1 (List.mem_of_getElem? (i := 169) rfl)) (by decide +kernel)
set_option maxRecDepth 20000 in
theorem wd_336 : Cond.selects "BadgeZones" yX4_doorAt yX4_doorAt ∈ GT := in_gt (List.mem_append_left _ (List.mem_map.mpr ⟨_, lw_pv 3 rfl, rfl⟩)) (by decide +kernel)
set_option maxRecDepth 20000 in
theorem wd_337 : Cond.code yX0_enter cX0_enter 3 none ∈ GT := in_gt (in_t2 (List.mem_of_getElem? (i := 170) rfl)) (by decide +kernel)
set_option maxRecDepth 20000 in
theorem wd_338 : Cond.methodLink "BadgeZones" 265 yX0_enter ∈ GT := in_gt (in_t2 (List.mem_of_getElem? (i := 167) rfl)) (by decide +kernel)
set_option maxRecDepth 20000 in
theorem wd_339 : Cond.instanceMethod yX0_enter ∈ GT := in_gt (in_t2 (List.mem_of_getElem? (i := 168) rfl)) (by decide +kernel)
set_option maxRecDepth 20000 in
theorem wd_340 : Cond.selects "BadgeZones$Badge" yX0_enter yX0_enter ∈ GT := in_gt (in_t2 (List.mem_of_getElem? (i := 169) rfl)) (by decide +kernel)
set_option maxRecDepth 20000 in
theorem wd_341 : Cond.code yX1_openAt cX1_openAt 2 none ∈ GT := in_gt (in_t2 (List.mem_of_getElem? (i := 192) rfl)) (by decide +kernel)
set_option maxRecDepth 20000 in
theorem wd_342 : Cond.methodLink "BadgeZones" 269 yX1_openAt ∈ GT := in_gt (in_t2 (List.mem_of_getElem? (i := 189) rfl)) (by decide +kernel)
set_option maxRecDepth 20000 in
theorem wd_343 : Cond.instanceMethod yX1_openAt ∈ GT := in_gt (in_t2 (List.mem_of_getElem? (i := 190) rfl)) (by decide +kernel)
set_option maxRecDepth 20000 in
theorem wd_344 : Cond.selects "BadgeZones$Door" yX1_openAt yX1_openAt ∈ GT := in_gt (in_t2 (List.mem_of_getElem? (i := 191) rfl)) (by decide +kernel)
set_option maxRecDepth 20000 in
theorem wd_345 : Cond.code yX4_answerTo cX4_answerTo 4 (some .int) ∈ GT := in_gt (in_t2 (List.mem_of_getElem? (i := 97) rfl)) (by decide +kernel)
set_option maxRecDepth 20000 in
theorem wd_346 : Cond.methodLink "BadgeZones" 155 yX4_answerTo ∈ GT := in_gt (in_t2 (List.mem_of_getElem? (i := 94) rfl)) (by decide +kernel)
set_option maxRecDepth 20000 in
theorem wd_347 : Cond.instanceMethod yX4_answerTo ∈ GT := in_gt (in_t2 (List.mem_of_getElem? (i := 96) rfl)) (by decide +kernel)
set_option maxRecDepth 20000 in
theorem wd_348 : Cond.selects "BadgeZones" yX4_answerTo yX4_answerTo ∈ GT := in_gt (List.mem_append_left _ (List.mem_map.mpr ⟨_, lw_pv 6 rfl, rfl⟩)) (by decide +kernel)
set_option maxRecDepth 20000 in
theorem wd_349 : Cond.code yX4_pass cX4_pass 4 none ∈ GT := in_gt (in_t2 (List.mem_of_getElem? (i := 166) rfl)) (by decide +kernel)
set_option maxRecDepth 20000 in
theorem wd_350 : Cond.methodLink "BadgeZones" 159 yX4_pass ∈ GT := in_gt (in_t2 (List.mem_of_getElem? (i := 163) rfl)) (by decide +kernel)
set_option maxRecDepth 20000 in
theorem wd_351 : Cond.instanceMethod yX4_pass ∈ GT := in_gt (in_t2 (List.mem_of_getElem? (i := 165) rfl)) (by decide +kernel)
set_option maxRecDepth 20000 in
theorem wd_352 : Cond.selects "BadgeZones" yX4_pass yX4_pass ∈ GT := in_gt (List.mem_append_left _ (List.mem_map.mpr ⟨_, lw_pv 15 rfl, rfl⟩)) (by decide +kernel)
set_option maxRecDepth 20000 in
theorem wd_353 : Cond.code yX0_countRefusal cX0_countRefusal 1 none ∈ GT := in_gt (in_t2 (List.mem_of_getElem? (i := 196) rfl)) (by decide +kernel)
set_option maxRecDepth 20000 in
theorem wd_354 : Cond.methodLink "BadgeZones" 163 yX0_countRefusal ∈ GT := in_gt (in_t2 (List.mem_of_getElem? (i := 193) rfl)) (by decide +kernel)
set_option maxRecDepth 20000 in
theorem wd_355 : Cond.instanceMethod yX0_countRefusal ∈ GT := in_gt (in_t2 (List.mem_of_getElem? (i := 194) rfl)) (by decide +kernel)
set_option maxRecDepth 20000 in
theorem wd_356 : Cond.selects "BadgeZones$Badge" yX0_countRefusal yX0_countRefusal ∈ GT := in_gt (in_t2 (List.mem_of_getElem? (i := 195) rfl)) (by decide +kernel)
set_option maxRecDepth 20000 in
theorem wd_357 : Cond.constant "BadgeZones" 152 (99999) ∈ GT := in_gt (in_t2 (List.mem_of_getElem? (i := 69) rfl)) (by decide +kernel)
set_option maxRecDepth 20000 in
theorem wd_358 : Cond.code yX0_zoneAtEndOf cX0_zoneAtEndOf 4 (some (.object "BadgeZones$Zone")) ∈ GT := in_gt (in_t2 (List.mem_of_getElem? (i := 218) rfl)) (by decide +kernel)
set_option maxRecDepth 20000 in
theorem wd_359 : Cond.methodLink "BadgeZones" 179 yX0_zoneAtEndOf ∈ GT := in_gt (in_t2 (List.mem_of_getElem? (i := 215) rfl)) (by decide +kernel)
set_option maxRecDepth 20000 in
theorem wd_360 : Cond.instanceMethod yX0_zoneAtEndOf ∈ GT := in_gt (in_t2 (List.mem_of_getElem? (i := 216) rfl)) (by decide +kernel)
set_option maxRecDepth 20000 in
theorem wd_361 : Cond.selects "BadgeZones$Badge" yX0_zoneAtEndOf yX0_zoneAtEndOf ∈ GT := in_gt (in_t2 (List.mem_of_getElem? (i := 217) rfl)) (by decide +kernel)
set_option maxRecDepth 20000 in
theorem wd_362 : Cond.fieldLink "BadgeZones" 182 "BadgeZones$Zone" "number" "I" ∈ GT := in_gt (in_t1 (List.mem_of_getElem? (i := 38) rfl)) (by decide +kernel)
set_option maxRecDepth 20000 in
theorem wd_363 : Cond.instantiable "BadgeZones" 6 ∈ GT := in_gt (in_t1 (List.mem_of_getElem? (i := 23) rfl)) (by decide +kernel)
set_option maxRecDepth 20000 in
theorem wd_364 : Cond.instantiable "BadgeZones$Zone" 6 ∈ GT := in_gt (in_t1 (List.mem_of_getElem? (i := 31) rfl)) (by decide +kernel)
set_option maxRecDepth 20000 in
theorem wd_365 : Cond.instantiable "BadgeZones$Door" 5 ∈ GT := in_gt (in_t3 (List.mem_of_getElem? (i := 15) rfl)) (by decide +kernel)
set_option maxRecDepth 20000 in
theorem wd_366 : Cond.instantiable "BadgeZones$Badge" 7 ∈ GT := in_gt (in_t3 (List.mem_of_getElem? (i := 46) rfl)) (by decide +kernel)
set_option maxRecDepth 20000 in
theorem wd_367 : Cond.instantiable "BadgeZones$Stay" 2 ∈ GT := in_gt (in_t2 (List.mem_of_getElem? (i := 173) rfl)) (by decide +kernel)
set_option maxRecDepth 20000 in
theorem wd_368 : Cond.instantiable "java/util/ArrayList" 3 ∈ GT := in_gt (in_t1 (List.mem_of_getElem? (i := 63) rfl)) (by decide +kernel)
set_option maxRecDepth 20000 in
theorem wd_369 : Cond.arrayClass .int ∈ GT := in_gt (in_t3 (List.mem_of_getElem? (i := 88) rfl)) (by decide +kernel)
set_option maxRecDepth 20000 in
theorem wd_370 : Cond.methodLink "java/util/Arrays" 86 ⟨"java/lang/Object", "getClass", "()Ljava/lang/Class;"⟩ ∈ GT := in_gt (in_t1 (List.mem_of_getElem? (i := 117) rfl)) (by decide +kernel)
set_option maxRecDepth 20000 in
theorem wd_371 : Cond.methodLink "java/util/Arrays" 150 ⟨"java/lang/System", "arraycopy", "(Ljava/lang/Object;ILjava/lang/Object;II)V"⟩ ∈ GT := in_gt (in_t1 (List.mem_of_getElem? (i := 139) rfl)) (by decide +kernel)
set_option maxRecDepth 20000 in
theorem wd_372 : Cond.native ⟨"java/lang/System", "arraycopy", "(Ljava/lang/Object;ILjava/lang/Object;II)V"⟩ ∈ GT := in_gt (in_t1 (List.mem_of_getElem? (i := 141) rfl)) (by decide +kernel)
set_option maxRecDepth 20000 in
theorem wd_373 : Cond.static ⟨"java/lang/System", "arraycopy", "(Ljava/lang/Object;ILjava/lang/Object;II)V"⟩ ∈ GT := in_gt (in_t1 (List.mem_of_getElem? (i := 140) rfl)) (by decide +kernel)
set_option maxRecDepth 20000 in
theorem wd_374 : Cond.initialized "java/lang/System" ∈ GT := in_gt (in_t1 (List.mem_of_getElem? (i := 9) rfl)) (by decide +kernel)
set_option maxRecDepth 20000 in
theorem wd_375 : Cond.selects "[Ljava/lang/Object;" ⟨"java/lang/Object", "getClass", "()Ljava/lang/Class;"⟩ ⟨"java/lang/Object", "getClass", "()Ljava/lang/Class;"⟩ ∈ GT := in_gt (in_t3 (List.mem_of_getElem? (i := 102) rfl)) (by decide +kernel)
set_option maxRecDepth 20000 in
theorem wd_376 : Cond.instanceMethod ⟨"java/lang/Object", "getClass", "()Ljava/lang/Class;"⟩ ∈ GT := in_gt (in_t1 (List.mem_of_getElem? (i := 118) rfl)) (by decide +kernel)
set_option maxRecDepth 20000 in
theorem wd_377 : Cond.native ⟨"java/lang/Object", "getClass", "()Ljava/lang/Class;"⟩ ∈ GT := in_gt (in_t1 (List.mem_of_getElem? (i := 129) rfl)) (by decide +kernel)
set_option maxRecDepth 20000 in
theorem wd_378 : Cond.sameField "java/util/ArrayList" "java/util/AbstractList" "modCount" "I" ∈ GT := in_gt (in_t1 (List.mem_of_getElem? (i := 80) rfl)) (by decide +kernel)
set_option maxRecDepth 20000 in
theorem wd_379 : Cond.initialized "java/lang/IllegalArgumentException" ∈ GT := in_gt (in_t1 (List.mem_of_getElem? (i := 13) rfl)) (by decide +kernel)
set_option maxRecDepth 20000 in
theorem wd_380 : Cond.initialized "java/lang/IllegalStateException" ∈ GT := in_gt (in_t1 (List.mem_of_getElem? (i := 14) rfl)) (by decide +kernel)
set_option maxRecDepth 20000 in
theorem wd_381 : Cond.initialized "java/lang/IndexOutOfBoundsException" ∈ GT := in_gt (in_t1 (List.mem_of_getElem? (i := 15) rfl)) (by decide +kernel)
theorem ks_J15_105 : LkS RJ15 105 yJ3_checkIndex_8e157 cJ3_checkIndex_8e157 3 (some .int) 3 := ⟨wd_1, wd_2, wd_3, wd_0, by decide +kernel, by decide +kernel⟩
theorem kk_J6_265 : Cond.constant RJ6 265 (1431655765) ∈ GT := wd_4
theorem kk_J6_266 : Cond.constant RJ6 266 (858993459) ∈ GT := wd_5
theorem kk_J6_267 : Cond.constant RJ6 267 (252645135) ∈ GT := wd_6
theorem ks_J7_300 : LkS RJ7 300 yJ7_copyOf_6403c cJ7_copyOf_6403c 4 (some (.array (.object "java/lang/Object"))) 3 := ⟨wd_8, wd_9, wd_10, wd_7, by decide +kernel, by decide +kernel⟩
theorem kc_J7_2 : Cond.classLink RJ7 2 "java/lang/Object" ∈ GT := wd_11
theorem kc_J7_110 : Cond.classLink RJ7 110 "[Ljava/lang/Object;" ∈ GT := wd_12
theorem ks_J7_304 : LkS RJ7 304 yJ9_min_7cf53 cJ9_min_7cf53 2 (some .int) 2 := ⟨wd_14, wd_15, wd_16, wd_13, by decide +kernel, by decide +kernel⟩
theorem kk_J8_200 : Cond.constant RJ8 200 (2147483639) ∈ GT := wd_17
theorem ks_J8_194 : LkS RJ8 194 yJ9_max_7cf53 cJ9_max_7cf53 2 (some .int) 2 := ⟨wd_19, wd_20, wd_16, wd_18, by decide +kernel, by decide +kernel⟩
theorem ks_J8_201 : LkS RJ8 201 yJ8_hugeLength_7cf53 cJ8_hugeLength_7cf53 3 (some .int) 2 := ⟨wd_22, wd_23, wd_24, wd_21, by decide +kernel, by decide +kernel⟩
theorem kv_Jx4a65c_129 : LkV RJx4a65c 129 yJx4a65c_grow_d5877 RJx4a65c cJx4a65c_grow_d5877 1 (some (.array (.object "java/lang/Object"))) 0 := ⟨wd_26, wd_27, wd_28, wd_29, wd_25, by decide +kernel, by decide +kernel⟩
theorem kf_Jx4a65c_48 : Cond.fieldLink RJx4a65c 48 "java/util/ArrayList" "size" "I" ∈ GT := wd_30
theorem kf_Jx4a65c_63 : Cond.fieldLink RJx4a65c 63 "java/util/ArrayList" "modCount" "I" ∈ GT := wd_31
theorem kf_Jx4a65c_9 : Cond.fieldLink RJx4a65c 9 "java/util/ArrayList" "elementData" "[Ljava/lang/Object;" ∈ GT := wd_32
theorem kv_Jx4a65c_131 : LkV RJx4a65c 131 yJx4a65c_add_72be8 RJx4a65c cJx4a65c_add_72be8 4 none 3 := ⟨wd_34, wd_35, wd_36, wd_29, wd_33, by decide +kernel, by decide +kernel⟩
theorem ks_Jx4a65c_118 : LkS RJx4a65c 118 yJ15_checkIndex_7cf53 cJ15_checkIndex_7cf53 2 (some .int) 2 := ⟨wd_38, wd_39, wd_40, wd_37, by decide +kernel, by decide +kernel⟩
theorem kv_Jx4a65c_123 : LkV RJx4a65c 123 yJx4a65c_elementData_915e3 RJx4a65c cJx4a65c_elementData_915e3 2 (some (.object "java/lang/Object")) 1 := ⟨wd_42, wd_43, wd_44, wd_29, wd_41, by decide +kernel, by decide +kernel⟩
theorem kf_Jx4a65c_39 : Cond.fieldLink RJx4a65c 39 "java/util/ArrayList" "DEFAULTCAPACITY_EMPTY_ELEMENTDATA" "[Ljava/lang/Object;" ∈ GT := wd_45
theorem ks_Jx4a65c_73 : LkS RJx4a65c 73 yJ8_newLength_cabcc cJ8_newLength_cabcc 4 (some .int) 3 := ⟨wd_47, wd_48, wd_24, wd_46, by decide +kernel, by decide +kernel⟩
theorem ks_Jx4a65c_66 : LkS RJx4a65c 66 yJ7_copyOf_1904c cJ7_copyOf_1904c 2 (some (.array (.object "java/lang/Object"))) 2 := ⟨wd_50, wd_51, wd_10, wd_49, by decide +kernel, by decide +kernel⟩
theorem ks_Jx4a65c_79 : LkS RJx4a65c 79 yJ9_max_7cf53 cJ9_max_7cf53 2 (some .int) 2 := ⟨wd_52, wd_20, wd_16, wd_18, by decide +kernel, by decide +kernel⟩
theorem kc_Jx4a65c_7 : Cond.classLink RJx4a65c 7 "java/lang/Object" ∈ GT := wd_53
theorem kv_Jx4a65c_69 : LkV RJx4a65c 69 yJx4a65c_grow_92f84 RJx4a65c cJx4a65c_grow_92f84 4 (some (.array (.object "java/lang/Object"))) 1 := ⟨wd_55, wd_56, wd_57, wd_29, wd_54, by decide +kernel, by decide +kernel⟩
theorem ki_Jx4a65c_1 : LkI RJx4a65c 1 yJxc12de_init_da8c8 cJxc12de_init_da8c8 1 0 := ⟨wd_59, wd_60, wd_61, wd_58, by decide +kernel, by decide +kernel, by decide +kernel⟩
theorem ko_Jxa1e45_1 : LkO RJxa1e45 1 := ⟨wd_62, wd_63, wd_64⟩
theorem ki_Jxc12de_1 : LkI RJxc12de 1 yJxa1e45_init_da8c8 cJxa1e45_init_da8c8 1 0 := ⟨wd_66, wd_67, wd_68, wd_65, by decide +kernel, by decide +kernel, by decide +kernel⟩
theorem kf_Jxc12de_7 : Cond.fieldLink RJxc12de 7 "java/util/AbstractList" "modCount" "I" ∈ GT := wd_69
theorem kk_L_7 : Cond.constant RL 7 (2147483647) ∈ GT := wd_70
theorem ks_L_9 : LkS RL 9 yL_cell cL_cell 2 (some .int) 2 := ⟨wd_72, wd_73, wd_74, wd_71, by decide +kernel, by decide +kernel⟩
theorem ks_L_15 : LkS RL 15 yL_below cL_below 2 (some .int) 2 := ⟨wd_76, wd_77, wd_74, wd_75, by decide +kernel, by decide +kernel⟩
theorem kv_L_19 : LkV RL 19 yX4_addZone RX4 cX4_addZone 5 (some .int) 3 := ⟨wd_79, wd_80, wd_81, wd_82, wd_78, by decide +kernel, by decide +kernel⟩
theorem kv_L_25 : LkV RL 25 yX4_addDoor RX4 cX4_addDoor 8 (some .int) 4 := ⟨wd_84, wd_85, wd_86, wd_82, wd_83, by decide +kernel, by decide +kernel⟩
theorem kv_L_29 : LkV RL 29 yX4_addVisitor RX4 cX4_addVisitor 3 (some .int) 1 := ⟨wd_88, wd_89, wd_90, wd_82, wd_87, by decide +kernel, by decide +kernel⟩
theorem kv_L_33 : LkV RL 33 yX4_addBadge RX4 cX4_addBadge 2 (some .int) 1 := ⟨wd_92, wd_93, wd_94, wd_82, wd_91, by decide +kernel, by decide +kernel⟩
theorem kk_L_8 : Cond.constant RL 8 (790386105) ∈ GT := wd_95
theorem kc_L_20 : Cond.classLink RL 20 "BadgeZones" ∈ GT := wd_96
theorem ki_L_49 : LkI RL 49 yX4_init cX4_init 1 0 := ⟨wd_98, wd_99, wd_82, wd_97, by decide +kernel, by decide +kernel, by decide +kernel⟩
theorem ks_L_50 : LkS RL 50 yL_build cL_build 11 (some .boolean) 7 := ⟨wd_101, wd_102, wd_74, wd_100, by decide +kernel, by decide +kernel⟩
theorem kv_L_54 : LkV RL 54 yX4_tick RX4 cX4_tick 2 (some .int) 1 := ⟨wd_104, wd_105, wd_106, wd_82, wd_103, by decide +kernel, by decide +kernel⟩
theorem kv_L_57 : LkV RL 57 yX4_alarm RX4 cX4_alarm 3 (some .boolean) 1 := ⟨wd_108, wd_109, wd_110, wd_82, wd_107, by decide +kernel, by decide +kernel⟩
theorem kv_L_61 : LkV RL 61 yX4_block RX4 cX4_block 5 (some .boolean) 2 := ⟨wd_112, wd_113, wd_114, wd_82, wd_111, by decide +kernel, by decide +kernel⟩
theorem kv_L_65 : LkV RL 65 yX4_request RX4 cX4_request 6 (some .int) 2 := ⟨wd_116, wd_117, wd_118, wd_82, wd_115, by decide +kernel, by decide +kernel⟩
theorem kv_L_68 : LkV RL 68 yX4_inside RX4 cX4_inside 2 (some .int) 1 := ⟨wd_120, wd_121, wd_122, wd_82, wd_119, by decide +kernel, by decide +kernel⟩
theorem ks_L_71 : LkS RL 71 yJ6_bitCount_0f7a4 cJ6_bitCount_0f7a4 1 (some .int) 1 := ⟨wd_124, wd_125, wd_126, wd_123, by decide +kernel, by decide +kernel⟩
theorem kv_L_76 : LkV RL 76 yX4_badge RX4 cX4_badge 4 (some .int) 2 := ⟨wd_128, wd_129, wd_130, wd_82, wd_127, by decide +kernel, by decide +kernel⟩
theorem kv_L_79 : LkV RL 79 yX4_openFor RX4 cX4_openFor 2 (some .int) 1 := ⟨wd_132, wd_133, wd_134, wd_82, wd_131, by decide +kernel, by decide +kernel⟩
theorem kv_L_82 : LkV RL 82 yX4_minutesIn RX4 cX4_minutesIn 4 (some .int) 2 := ⟨wd_136, wd_137, wd_138, wd_82, wd_135, by decide +kernel, by decide +kernel⟩
theorem kv_L_85 : LkV RL 85 yX4_now RX4 cX4_now 1 (some .int) 0 := ⟨wd_140, wd_141, wd_142, wd_82, wd_139, by decide +kernel, by decide +kernel⟩
theorem kv_L_89 : LkV RL 89 yX4_wasIn RX4 cX4_wasIn 4 (some .int) 2 := ⟨wd_144, wd_145, wd_146, wd_82, wd_143, by decide +kernel, by decide +kernel⟩
theorem kf_X0_22 : Cond.fieldLink RX0 22 "BadgeZones$Badge" "refusals" "I" ∈ GT := wd_147
theorem kf_X0_18 : Cond.fieldLink RX0 18 "BadgeZones$Badge" "isBlocked" "Z" ∈ GT := wd_148
theorem kf_X0_41 : Cond.fieldLink RX0 41 "BadgeZones$Badge" "stay" "LBadgeZones$Stay;" ∈ GT := wd_149
theorem kf_X0_60 : Cond.fieldLink RX0 60 "BadgeZones$Stay" "since" "I" ∈ GT := wd_150
theorem kf_X0_12 : Cond.fieldLink RX0 12 "BadgeZones$Badge" "stays" "Ljava/util/ArrayList;" ∈ GT := wd_151
theorem kv_X0_63 : LkV RX0 63 yJx4a65c_size_8abf5 RJx4a65c cJx4a65c_size_8abf5 1 (some .int) 0 := ⟨wd_153, wd_154, wd_155, wd_29, wd_152, by decide +kernel, by decide +kernel⟩
theorem kf_X0_56 : Cond.fieldLink RX0 56 "BadgeZones$Stay" "zone" "LBadgeZones$Zone;" ∈ GT := wd_156
theorem kc_X0_36 : Cond.classLink RX0 36 "BadgeZones$Stay" ∈ GT := wd_157
theorem ki_X0_38 : LkI RX0 38 yX2_init cX2_init 3 2 := ⟨wd_159, wd_160, wd_161, wd_158, by decide +kernel, by decide +kernel, by decide +kernel⟩
theorem kv_X0_45 : LkV RX0 45 yJx4a65c_add_9ea2d RJx4a65c cJx4a65c_add_9ea2d 2 (some .boolean) 1 := ⟨wd_163, wd_164, wd_165, wd_29, wd_162, by decide +kernel, by decide +kernel⟩
theorem kf_X0_49 : Cond.fieldLink RX0 49 "BadgeZones$Zone" "number" "I" ∈ GT := wd_166
theorem kv_X0_52 : LkV RX0 52 yX0_rightsNow RX0 cX0_rightsNow 1 (some .int) 0 := ⟨wd_168, wd_169, wd_170, wd_171, wd_167, by decide +kernel, by decide +kernel⟩
theorem ko_X0_3 : LkO RX0 3 := ⟨wd_172, wd_63, wd_64⟩
theorem kc_X0_9 : Cond.classLink RX0 9 "java/util/ArrayList" ∈ GT := wd_173
theorem ki_X0_11 : LkI RX0 11 yJx4a65c_init_da8c8 cJx4a65c_init_da8c8 1 0 := ⟨wd_175, wd_176, wd_29, wd_174, by decide +kernel, by decide +kernel, by decide +kernel⟩
theorem kf_X0_26 : Cond.fieldLink RX0 26 "BadgeZones$Badge" "number" "I" ∈ GT := wd_177
theorem kf_X0_29 : Cond.fieldLink RX0 29 "BadgeZones$Badge" "host" "LBadgeZones$Badge;" ∈ GT := wd_178
theorem kf_X0_33 : Cond.fieldLink RX0 33 "BadgeZones$Badge" "ownRights" "I" ∈ GT := wd_179
theorem kv_X0_66 : LkV RX0 66 yJx4a65c_get_915e3 RJx4a65c cJx4a65c_get_915e3 2 (some (.object "java/lang/Object")) 1 := ⟨wd_181, wd_182, wd_183, wd_29, wd_180, by decide +kernel, by decide +kernel⟩
theorem kf_X1_25 : Cond.fieldLink RX1 25 "BadgeZones$Door" "lock" "I" ∈ GT := wd_184
theorem ko_X1_3 : LkO RX1 3 := ⟨wd_185, wd_63, wd_64⟩
theorem kf_X1_9 : Cond.fieldLink RX1 9 "BadgeZones$Door" "openUntil" "I" ∈ GT := wd_186
theorem kf_X1_15 : Cond.fieldLink RX1 15 "BadgeZones$Door" "sideA" "LBadgeZones$Zone;" ∈ GT := wd_187
theorem kf_X1_19 : Cond.fieldLink RX1 19 "BadgeZones$Door" "sideB" "LBadgeZones$Zone;" ∈ GT := wd_188
theorem kf_X1_22 : Cond.fieldLink RX1 22 "BadgeZones$Door" "hold" "I" ∈ GT := wd_189
theorem ks_X1_34 : LkS RX1 34 yX1_measureFrom cX1_measureFrom 3 none 3 := ⟨wd_191, wd_192, wd_193, wd_190, by decide +kernel, by decide +kernel⟩
theorem kf_X1_38 : Cond.fieldLink RX1 38 "BadgeZones$Zone" "isOnTheWay" "Z" ∈ GT := wd_194
theorem kf_X1_44 : Cond.fieldLink RX1 44 "BadgeZones$Zone" "doorsLeft" "I" ∈ GT := wd_195
theorem ks_X1_28 : LkS RX1 28 yJ9_max_7cf53 cJ9_max_7cf53 2 (some .int) 2 := ⟨wd_196, wd_20, wd_16, wd_18, by decide +kernel, by decide +kernel⟩
theorem ko_X2_1 : LkO RX2 1 := ⟨wd_197, wd_63, wd_64⟩
theorem kf_X2_7 : Cond.fieldLink RX2 7 "BadgeZones$Stay" "zone" "LBadgeZones$Zone;" ∈ GT := wd_198
theorem kf_X2_13 : Cond.fieldLink RX2 13 "BadgeZones$Stay" "since" "I" ∈ GT := wd_199
theorem kf_X3_28 : Cond.fieldLink RX3 28 "BadgeZones$Zone" "end" "I" ∈ GT := wd_200
theorem kf_X3_25 : Cond.fieldLink RX3 25 "BadgeZones$Zone" "begin" "I" ∈ GT := wd_201
theorem ko_X3_3 : LkO RX3 3 := ⟨wd_202, wd_63, wd_64⟩
theorem kf_X3_9 : Cond.fieldLink RX3 9 "BadgeZones$Zone" "isOnTheWay" "Z" ∈ GT := wd_203
theorem kf_X3_15 : Cond.fieldLink RX3 15 "BadgeZones$Zone" "doorsLeft" "I" ∈ GT := wd_204
theorem kf_X3_19 : Cond.fieldLink RX3 19 "BadgeZones$Zone" "number" "I" ∈ GT := wd_205
theorem kf_X3_22 : Cond.fieldLink RX3 22 "BadgeZones$Zone" "capacity" "I" ∈ GT := wd_206
theorem ks_X4_114 : LkS RX4 114 yX4_checkRights cX4_checkRights 1 none 1 := ⟨wd_208, wd_209, wd_82, wd_207, by decide +kernel, by decide +kernel⟩
theorem kv_X4_118 : LkV RX4 118 yX4_keepBadge RX4 cX4_keepBadge 4 (some .int) 2 := ⟨wd_211, wd_212, wd_213, wd_82, wd_210, by decide +kernel, by decide +kernel⟩
theorem kv_X4_58 : LkV RX4 58 yX4_zoneAt RX4 cX4_zoneAt 2 (some (.object "BadgeZones$Zone")) 1 := ⟨wd_215, wd_216, wd_217, wd_82, wd_214, by decide +kernel, by decide +kernel⟩
theorem ks_X4_80 : LkS RX4 80 yX4_isWithin cX4_isWithin 3 (some .boolean) 3 := ⟨wd_219, wd_220, wd_82, wd_218, by decide +kernel, by decide +kernel⟩
theorem kc_X4_84 : Cond.classLink RX4 84 "java/lang/IllegalArgumentException" ∈ GT := wd_221
theorem kf_X4_25 : Cond.fieldLink RX4 25 "BadgeZones" "doors" "Ljava/util/ArrayList;" ∈ GT := wd_222
theorem kv_X4_47 : LkV RX4 47 yJx4a65c_size_8abf5 RJx4a65c cJx4a65c_size_8abf5 1 (some .int) 0 := ⟨wd_223, wd_154, wd_155, wd_29, wd_152, by decide +kernel, by decide +kernel⟩
theorem kc_X4_51 : Cond.classLink RX4 51 "java/lang/IllegalStateException" ∈ GT := wd_224
theorem kc_X4_91 : Cond.classLink RX4 91 "BadgeZones$Door" ∈ GT := wd_225
theorem ki_X4_93 : LkI RX4 93 yX1_init cX1_init 5 4 := ⟨wd_227, wd_228, wd_193, wd_226, by decide +kernel, by decide +kernel, by decide +kernel⟩
theorem kv_X4_39 : LkV RX4 39 yJx4a65c_add_9ea2d RJx4a65c cJx4a65c_add_9ea2d 2 (some .boolean) 1 := ⟨wd_229, wd_164, wd_165, wd_29, wd_162, by decide +kernel, by decide +kernel⟩
theorem kv_X4_122 : LkV RX4 122 yX4_badgeAt RX4 cX4_badgeAt 2 (some (.object "BadgeZones$Badge")) 1 := ⟨wd_231, wd_232, wd_233, wd_82, wd_230, by decide +kernel, by decide +kernel⟩
theorem kf_X4_126 : Cond.fieldLink RX4 126 "BadgeZones$Badge" "host" "LBadgeZones$Badge;" ∈ GT := wd_234
theorem ks_X4_43 : LkS RX4 43 yX4_checkZone cX4_checkZone 3 none 3 := ⟨wd_236, wd_237, wd_82, wd_235, by decide +kernel, by decide +kernel⟩
theorem kf_X4_21 : Cond.fieldLink RX4 21 "BadgeZones" "zones" "Ljava/util/ArrayList;" ∈ GT := wd_238
theorem kc_X4_9 : Cond.classLink RX4 9 "BadgeZones$Zone" ∈ GT := wd_239
theorem ki_X4_11 : LkI RX4 11 yX3_init cX3_init 5 4 := ⟨wd_241, wd_242, wd_243, wd_240, by decide +kernel, by decide +kernel, by decide +kernel⟩
theorem kf_X4_35 : Cond.fieldLink RX4 35 "BadgeZones" "isAlarm" "Z" ∈ GT := wd_244
theorem kv_X4_96 : LkV RX4 96 yX4_measureDistances RX4 cX4_measureDistances 2 none 0 := ⟨wd_246, wd_247, wd_248, wd_82, wd_245, by decide +kernel, by decide +kernel⟩
theorem kf_X4_99 : Cond.fieldLink RX4 99 "BadgeZones$Zone" "doorsLeft" "I" ∈ GT := wd_249
theorem kf_X4_193 : Cond.fieldLink RX4 193 "BadgeZones$Badge" "stay" "LBadgeZones$Stay;" ∈ GT := wd_250
theorem kf_X4_197 : Cond.fieldLink RX4 197 "BadgeZones$Stay" "zone" "LBadgeZones$Zone;" ∈ GT := wd_251
theorem kf_X4_14 : Cond.fieldLink RX4 14 "BadgeZones" "outside" "LBadgeZones$Zone;" ∈ GT := wd_252
theorem kv_X4_254 : LkV RX4 254 yX0_wouldLackHost RX0 cX0_wouldLackHost 4 (some .boolean) 2 := ⟨wd_254, wd_255, wd_256, wd_171, wd_253, by decide +kernel, by decide +kernel⟩
theorem kv_X4_247 : LkV RX4 247 yX0_hasRightFor RX0 cX0_hasRightFor 2 (some .boolean) 1 := ⟨wd_258, wd_259, wd_260, wd_171, wd_257, by decide +kernel, by decide +kernel⟩
theorem kf_X4_31 : Cond.fieldLink RX4 31 "BadgeZones" "minute" "I" ∈ GT := wd_261
theorem kv_X4_102 : LkV RX4 102 yX3_hasHoursAt RX3 cX3_hasHoursAt 3 (some .boolean) 1 := ⟨wd_263, wd_264, wd_265, wd_243, wd_262, by decide +kernel, by decide +kernel⟩
theorem kv_X4_76 : LkV RX4 76 yX4_countIn RX4 cX4_countIn 2 (some .int) 1 := ⟨wd_267, wd_268, wd_269, wd_82, wd_266, by decide +kernel, by decide +kernel⟩
theorem kf_X4_67 : Cond.fieldLink RX4 67 "BadgeZones$Zone" "capacity" "I" ∈ GT := wd_270
theorem kv_X4_250 : LkV RX4 250 yX4_isExcluded RX4 cX4_isExcluded 4 (some .boolean) 1 := ⟨wd_272, wd_273, wd_274, wd_82, wd_271, by decide +kernel, by decide +kernel⟩
theorem kv_X4_258 : LkV RX4 258 yX4_wouldLeaveVisitor RX4 cX4_wouldLeaveVisitor 5 (some .boolean) 1 := ⟨wd_276, wd_277, wd_278, wd_82, wd_275, by decide +kernel, by decide +kernel⟩
theorem kf_X4_139 : Cond.fieldLink RX4 139 "BadgeZones$Badge" "isBlocked" "Z" ∈ GT := wd_279
theorem kv_X4_235 : LkV RX4 235 yX1_otherSide RX1 cX1_otherSide 2 (some (.object "BadgeZones$Zone")) 1 := ⟨wd_281, wd_282, wd_283, wd_193, wd_280, by decide +kernel, by decide +kernel⟩
theorem kv_X4_239 : LkV RX4 239 yX4_answerInAlarm RX4 cX4_answerInAlarm 3 (some .int) 2 := ⟨wd_285, wd_286, wd_287, wd_82, wd_284, by decide +kernel, by decide +kernel⟩
theorem kv_X4_243 : LkV RX4 243 yX4_answerInPeace RX4 cX4_answerInPeace 4 (some .int) 3 := ⟨wd_289, wd_290, wd_291, wd_82, wd_288, by decide +kernel, by decide +kernel⟩
theorem kc_X4_62 : Cond.classLink RX4 62 "java/lang/IndexOutOfBoundsException" ∈ GT := wd_292
theorem kv_X4_147 : LkV RX4 147 yX0_tell RX0 cX0_tell 2 (some .int) 1 := ⟨wd_294, wd_295, wd_296, wd_171, wd_293, by decide +kernel, by decide +kernel⟩
theorem kf_X4_28 : Cond.fieldLink RX4 28 "BadgeZones" "badges" "Ljava/util/ArrayList;" ∈ GT := wd_297
theorem kv_X4_169 : LkV RX4 169 yJx4a65c_get_915e3 RJx4a65c cJx4a65c_get_915e3 2 (some (.object "java/lang/Object")) 1 := ⟨wd_298, wd_182, wd_183, wd_29, wd_180, by decide +kernel, by decide +kernel⟩
theorem kc_X4_127 : Cond.classLink RX4 127 "BadgeZones$Badge" ∈ GT := wd_299
theorem kf_X4_142 : Cond.fieldLink RX4 142 "BadgeZones$Badge" "refusals" "I" ∈ GT := wd_300
theorem kv_X4_166 : LkV RX4 166 yX4_badgesIn RX4 cX4_badgesIn 4 (some .int) 1 := ⟨wd_302, wd_303, wd_304, wd_82, wd_301, by decide +kernel, by decide +kernel⟩
theorem ks_X4_230 : LkS RX4 230 yJ6_bitCount_0f7a4 cJ6_bitCount_0f7a4 1 (some .int) 1 := ⟨wd_305, wd_125, wd_126, wd_123, by decide +kernel, by decide +kernel⟩
theorem ko_X4_3 : LkO RX4 3 := ⟨wd_306, wd_63, wd_64⟩
theorem kc_X4_18 : Cond.classLink RX4 18 "java/util/ArrayList" ∈ GT := wd_307
theorem ki_X4_20 : LkI RX4 20 yJx4a65c_init_da8c8 cJx4a65c_init_da8c8 1 0 := ⟨wd_308, wd_176, wd_29, wd_174, by decide +kernel, by decide +kernel, by decide +kernel⟩
theorem kv_X4_262 : LkV RX4 262 yX1_excludes RX1 cX1_excludes 2 (some .boolean) 1 := ⟨wd_310, wd_311, wd_312, wd_193, wd_309, by decide +kernel, by decide +kernel⟩
theorem kv_X4_110 : LkV RX4 110 yX1_minutesLeft RX1 cX1_minutesLeft 2 (some .int) 1 := ⟨wd_314, wd_315, wd_316, wd_193, wd_313, by decide +kernel, by decide +kernel⟩
theorem ki_X4_225 : LkI RX4 225 yX0_init cX0_init 5 4 := ⟨wd_318, wd_319, wd_171, wd_317, by decide +kernel, by decide +kernel, by decide +kernel⟩
theorem kf_X4_272 : Cond.fieldLink RX4 272 "BadgeZones$Zone" "isOnTheWay" "Z" ∈ GT := wd_320
theorem kv_X4_275 : LkV RX4 275 yX4_measureTo RX4 cX4_measureTo 4 none 1 := ⟨wd_322, wd_323, wd_324, wd_82, wd_321, by decide +kernel, by decide +kernel⟩
theorem kv_X4_279 : LkV RX4 279 yX1_measureBack RX1 cX1_measureBack 2 none 1 := ⟨wd_326, wd_327, wd_328, wd_193, wd_325, by decide +kernel, by decide +kernel⟩
theorem kv_X4_185 : LkV RX4 185 yX0_minutesSpent RX0 cX0_minutesSpent 7 (some .int) 2 := ⟨wd_330, wd_331, wd_332, wd_171, wd_329, by decide +kernel, by decide +kernel⟩
theorem kv_X4_106 : LkV RX4 106 yX4_doorAt RX4 cX4_doorAt 2 (some (.object "BadgeZones$Door")) 1 := ⟨wd_334, wd_335, wd_336, wd_82, wd_333, by decide +kernel, by decide +kernel⟩
theorem kv_X4_265 : LkV RX4 265 yX0_enter RX0 cX0_enter 3 none 2 := ⟨wd_338, wd_339, wd_340, wd_171, wd_337, by decide +kernel, by decide +kernel⟩
theorem kv_X4_269 : LkV RX4 269 yX1_openAt RX1 cX1_openAt 2 none 1 := ⟨wd_342, wd_343, wd_344, wd_193, wd_341, by decide +kernel, by decide +kernel⟩
theorem kv_X4_155 : LkV RX4 155 yX4_answerTo RX4 cX4_answerTo 4 (some .int) 2 := ⟨wd_346, wd_347, wd_348, wd_82, wd_345, by decide +kernel, by decide +kernel⟩
theorem kv_X4_159 : LkV RX4 159 yX4_pass RX4 cX4_pass 4 none 2 := ⟨wd_350, wd_351, wd_352, wd_82, wd_349, by decide +kernel, by decide +kernel⟩
theorem kv_X4_163 : LkV RX4 163 yX0_countRefusal RX0 cX0_countRefusal 1 none 0 := ⟨wd_354, wd_355, wd_356, wd_171, wd_353, by decide +kernel, by decide +kernel⟩
theorem kk_X4_152 : Cond.constant RX4 152 (99999) ∈ GT := wd_357
theorem kv_X4_179 : LkV RX4 179 yX0_zoneAtEndOf RX0 cX0_zoneAtEndOf 4 (some (.object "BadgeZones$Zone")) 1 := ⟨wd_359, wd_360, wd_361, wd_171, wd_358, by decide +kernel, by decide +kernel⟩
theorem kf_X4_182 : Cond.fieldLink RX4 182 "BadgeZones$Zone" "number" "I" ∈ GT := wd_362
theorem kn_X4 : Cond.instantiable RX4 6 ∈ GT ∧ Cond.initialized RX4 ∈ GT := ⟨wd_363, wd_82⟩
theorem kn_X3 : Cond.instantiable RX3 6 ∈ GT ∧ Cond.initialized RX3 ∈ GT := ⟨wd_364, wd_243⟩
theorem kn_X1 : Cond.instantiable RX1 5 ∈ GT ∧ Cond.initialized RX1 ∈ GT := ⟨wd_365, wd_193⟩
theorem kn_X0 : Cond.instantiable RX0 7 ∈ GT ∧ Cond.initialized RX0 ∈ GT := ⟨wd_366, wd_171⟩
theorem kn_X2 : Cond.instantiable RX2 2 ∈ GT ∧ Cond.initialized RX2 ∈ GT := ⟨wd_367, wd_161⟩
theorem kn_Jx4a65c : Cond.instantiable RJx4a65c 3 ∈ GT ∧ Cond.initialized RJx4a65c ∈ GT := ⟨wd_368, wd_29⟩
theorem ka_int : Cond.arrayClass .int ∈ GT := wd_369
theorem kg_J7_86 : Cond.methodLink RJ7 86 ⟨"java/lang/Object", "getClass", "()Ljava/lang/Class;"⟩ ∈ GT := wd_370
theorem kg_J7_150 : Cond.methodLink RJ7 150 arraycopyName ∈ GT := wd_371
theorem kg_J7_110 : Cond.classLink RJ7 110 "[Ljava/lang/Object;" ∈ GT := wd_12
theorem wk_copy : Cond.native arraycopyName ∈ GT ∧ Cond.static arraycopyName ∈ GT ∧ Cond.initialized "java/lang/System" ∈ GT := ⟨wd_372, wd_373, wd_374⟩
theorem wk_getC : Cond.declares ⟨"java/lang/Object", "getClass", "()Ljava/lang/Class;"⟩ ∈ NG ∧ Cond.selects "[Ljava/lang/Object;" ⟨"java/lang/Object", "getClass", "()Ljava/lang/Class;"⟩ ⟨"java/lang/Object", "getClass", "()Ljava/lang/Class;"⟩ ∈ GT ∧ Cond.instanceMethod ⟨"java/lang/Object", "getClass", "()Ljava/lang/Class;"⟩ ∈ GT ∧ Cond.native ⟨"java/lang/Object", "getClass", "()Ljava/lang/Class;"⟩ ∈ GT := ⟨(in_ng (in_t3 (List.mem_of_getElem? (i := 103) rfl)) rfl), wd_375, wd_376, wd_377⟩
theorem wk_max : Cond.static Lib.Math.max.name ∈ GT ∧ Cond.initialized "java/lang/Math" ∈ GT ∧ Cond.code Lib.Math.max.name Lib.Math.max.code 2 (some .int) ∈ GT := ⟨wd_20, wd_16, wd_18⟩
theorem wk_min : Cond.static Lib.Math.min.name ∈ GT ∧ Cond.initialized "java/lang/Math" ∈ GT ∧ Cond.code Lib.Math.min.name Lib.Math.min.code 2 (some .int) ∈ GT := ⟨wd_15, wd_16, wd_13⟩
theorem kt_X3 : Cond.castable RX3 "java/lang/Object" ∈ NG := (in_ng (in_t3 (List.mem_of_getElem? (i := 91) rfl)) rfl)
theorem kt_X1 : Cond.castable RX1 "java/lang/Object" ∈ NG := (in_ng (in_t3 (List.mem_of_getElem? (i := 96) rfl)) rfl)
theorem kt_X0 : Cond.castable RX0 "java/lang/Object" ∈ NG := (in_ng (in_t3 (List.mem_of_getElem? (i := 97) rfl)) rfl)
theorem kt_X2 : Cond.castable RX2 "java/lang/Object" ∈ NG := (in_ng (in_t3 (List.mem_of_getElem? (i := 98) rfl)) rfl)
theorem kt_IAE : Cond.castable "java/lang/IllegalArgumentException" "java/lang/IllegalArgumentException" ∈ NG := (in_ng (in_t2 (List.mem_of_getElem? (i := 55) rfl)) rfl)
theorem kt_ISE : Cond.castable "java/lang/IllegalStateException" "java/lang/IllegalStateException" ∈ NG := (in_ng (in_t2 (List.mem_of_getElem? (i := 72) rfl)) rfl)
theorem kt_IOB : Cond.castable "java/lang/IndexOutOfBoundsException" "java/lang/IndexOutOfBoundsException" ∈ NG := (in_ng (in_t1 (List.mem_of_getElem? (i := 177) rfl)) rfl)
theorem ksf_modCount : Cond.sameField "java/util/ArrayList" "java/util/AbstractList" "modCount" "I" ∈ GT := wd_378
theorem kini_IAE : Cond.initialized "java/lang/IllegalArgumentException" ∈ GT := wd_379
theorem kini_ISE : Cond.initialized "java/lang/IllegalStateException" ∈ GT := wd_380
theorem kini_IOB : Cond.initialized "java/lang/IndexOutOfBoundsException" ∈ GT := wd_381
set_option maxRecDepth 20000 in
theorem kw_X4 : ∀ w ∈ u_ws RX4 TX4 6, w ∈ GT := in_ps [168, 170, 172, 174, 176, 178] (by decide +kernel) (by decide +kernel)
set_option maxRecDepth 20000 in
theorem kw_X3 : ∀ w ∈ u_ws RX3 TX3 6, w ∈ GT := in_ps [67, 69, 71, 73, 75, 77] (by decide +kernel) (by decide +kernel)
set_option maxRecDepth 20000 in
theorem kw_X1 : ∀ w ∈ u_ws RX1 TX1 5, w ∈ GT := in_ps [523, 525, 527, 529, 531] (by decide +kernel) (by decide +kernel)
set_option maxRecDepth 20000 in
theorem kw_X0 : ∀ w ∈ u_ws RX0 TX0 7, w ∈ GT := in_ps [562, 564, 566, 568, 570, 572, 574] (by decide +kernel) (by decide +kernel)
set_option maxRecDepth 20000 in
theorem kw_X2 : ∀ w ∈ u_ws RX2 TX2 2, w ∈ GT := in_ps [441, 443] (by decide +kernel) (by decide +kernel)
set_option maxRecDepth 20000 in
theorem kw_Jx4a65c : ∀ w ∈ u_ws RJx4a65c TJx4a65c 3, w ∈ GT := in_ps [103, 99, 101] (by decide +kernel) (by decide +kernel)
