/-- the tables' words that a callee may rest on -/
def GT : List Cond := lw_tbl.filter goodWord
theorem in_gt {w : Cond} (h : w ∈ lw_tbl) (g : goodWord w = true) : w ∈ GT := List.mem_filter.mpr ⟨h, g⟩
theorem gt_good : ∀ w ∈ GT, (w.onTables && w.keeps) = true ∨ ∃ ty, w = .arrayClass ty := fun _ h => good_of_word (List.mem_filter.mp h).2
theorem gt_tbl : ∀ w ∈ GT, w ∈ lw_tbl := fun _ h => (List.mem_filter.mp h).1
/-- words that are no good ones but are kept: casts, declarations -/
def isCD : Cond → Bool
  | .castable _ _ => true
  | .declares _ => true
  | _ => false
def NG : List Cond := lw_tbl.filter isCD
theorem in_ng {w : Cond} (h : w ∈ lw_tbl) (g : isCD w = true) : w ∈ NG := List.mem_filter.mpr ⟨h, g⟩
theorem in_ps {ws : List Cond} (ps : List Nat) (hp : ws = ps.filterMap (fun i => lw_tbl[i]?)) (h : ws.all goodWord = true) : ∀ w ∈ ws, w ∈ GT := by
  intro w hw
  refine in_gt ?_ (List.all_eq_true.mp h w hw)
  rw [hp] at hw
  obtain ⟨i, -, hi⟩ := List.mem_filterMap.mp hw
  exact List.mem_of_getElem? hi
theorem in_t0 {w : Cond} (h : w ∈ tables_1) : w ∈ lw_tbl := List.mem_append_right _ h
theorem in_t1 {w : Cond} (h : w ∈ tables_1_1) : w ∈ lw_tbl := in_t0 (List.mem_append_left _ h)
theorem in_t2 {w : Cond} (h : w ∈ tables_1_2) : w ∈ lw_tbl := in_t0 (List.mem_append_right _ (List.mem_append_left _ h))
theorem in_t3 {w : Cond} (h : w ∈ tables_1_3) : w ∈ lw_tbl := in_t0 (List.mem_append_right _ (List.mem_append_right _ (List.mem_append_left _ h)))
theorem in_t4 {w : Cond} (h : w ∈ tables_1_4) : w ∈ lw_tbl := in_t0 (List.mem_append_right _ (List.mem_append_right _ (List.mem_append_right _ (List.mem_append_left _ h))))
theorem in_t5 {w : Cond} (h : w ∈ tables_1_5) : w ∈ lw_tbl := in_t0 (List.mem_append_right _ (List.mem_append_right _ (List.mem_append_right _ (List.mem_append_right _ h))))
theorem lw_pv {q : MethodName × Nat} (i : Nat) (h : lw_privs[i]? = some q) : q ∈ lw_privs := List.mem_of_getElem? h
/-- a virtual call's words -/
def LkV (own : String) (idx : Nat) (y : MethodName) (C : String) (bytes : ByteArray) (maxL : Nat) (ret : Option FieldType) (n : Nat) : Prop :=
  Cond.methodLink own idx y ∈ GT ∧ Cond.instanceMethod y ∈ GT ∧ Cond.selects C y y ∈ GT ∧ Cond.initialized y.cls ∈ GT ∧ Cond.code y bytes maxL ret ∈ GT ∧ (y.cls ≠ "java/lang/invoke/MethodHandle" ∧ y.cls ≠ "java/lang/invoke/VarHandle") ∧ (parseMethodDescriptor y.desc).map (fun d => d.parameters.length) = some n
/-- a static call's -/
def LkS (own : String) (idx : Nat) (y : MethodName) (bytes : ByteArray) (maxL : Nat) (ret : Option FieldType) (n : Nat) : Prop :=
  Cond.methodLink own idx y ∈ GT ∧ Cond.static y ∈ GT ∧ Cond.initialized y.cls ∈ GT ∧ Cond.code y bytes maxL ret ∈ GT ∧ (y.cls ≠ "java/lang/invoke/MethodHandle" ∧ y.cls ≠ "java/lang/invoke/VarHandle") ∧ (parseMethodDescriptor y.desc).map (fun d => d.parameters.length) = some n
def LkSW (own : String) (idx : Nat) (y : MethodName) (bytes : ByteArray) (maxL : Nat) (ret : Option FieldType) (hh : List (Nat × Nat × Nat × Nat)) (n : Nat) : Prop :=
  Cond.methodLink own idx y ∈ GT ∧ Cond.static y ∈ GT ∧ Cond.initialized y.cls ∈ GT ∧ Cond.codeWith y bytes maxL ret hh ∈ GT ∧ (y.cls ≠ "java/lang/invoke/MethodHandle" ∧ y.cls ≠ "java/lang/invoke/VarHandle") ∧ (parseMethodDescriptor y.desc).map (fun d => d.parameters.length) = some n
/-- a constructor's -/
def LkI (own : String) (idx : Nat) (y : MethodName) (bytes : ByteArray) (maxL : Nat) (n : Nat) : Prop :=
  Cond.methodLink own idx y ∈ GT ∧ Cond.instanceMethod y ∈ GT ∧ Cond.initialized y.cls ∈ GT ∧ Cond.code y bytes maxL none ∈ GT ∧ (y.cls ≠ "java/lang/invoke/MethodHandle" ∧ y.cls ≠ "java/lang/invoke/VarHandle") ∧ (parseMethodDescriptor y.desc).map (fun d => d.parameters.length) = some n ∧ y.name = "<init>"
def LkO (own : String) (idx : Nat) : Prop := Cond.methodLink own idx Lib.objectInit ∈ GT ∧ Cond.instanceMethod Lib.objectInit ∈ GT ∧ Cond.code Lib.objectInit ⟨#[0xb1]⟩ 1 none ∈ GT
set_option maxRecDepth 20000 in
theorem wd_0 : Cond.code yJ3_checkIndex_8e157 cJ3_checkIndex_8e157 3 (some .int) ∈ GT := in_gt (in_t1 (List.mem_of_getElem? (i := 192) rfl)) (by decide +kernel)
set_option maxRecDepth 20000 in
theorem wd_1 : Cond.methodLink "java/util/Objects" 105 yJ3_checkIndex_8e157 ∈ GT := in_gt (in_t1 (List.mem_of_getElem? (i := 190) rfl)) (by decide +kernel)
set_option maxRecDepth 20000 in
theorem wd_2 : Cond.static yJ3_checkIndex_8e157 ∈ GT := in_gt (in_t1 (List.mem_of_getElem? (i := 191) rfl)) (by decide +kernel)
set_option maxRecDepth 20000 in
theorem wd_3 : Cond.initialized "jdk/internal/util/Preconditions" ∈ GT := in_gt (in_t1 (List.mem_of_getElem? (i := 18) rfl)) (by decide +kernel)
set_option maxRecDepth 20000 in
theorem wd_4 : Cond.constant "java/lang/Integer" 265 (1431655765) ∈ GT := in_gt (in_t1 (List.mem_of_getElem? (i := 217) rfl)) (by decide +kernel)
set_option maxRecDepth 20000 in
theorem wd_5 : Cond.constant "java/lang/Integer" 266 (858993459) ∈ GT := in_gt (in_t1 (List.mem_of_getElem? (i := 218) rfl)) (by decide +kernel)
set_option maxRecDepth 20000 in
theorem wd_6 : Cond.constant "java/lang/Integer" 267 (252645135) ∈ GT := in_gt (in_t1 (List.mem_of_getElem? (i := 219) rfl)) (by decide +kernel)
set_option maxRecDepth 20000 in
theorem wd_7 : Cond.code yJ7_copyOf_6403c cJ7_copyOf_6403c 4 (some (.array (.object "java/lang/Object"))) ∈ GT := in_gt (in_t1 (List.mem_of_getElem? (i := 136) rfl)) (by decide +kernel)
set_option maxRecDepth 20000 in
theorem wd_8 : Cond.methodLink "java/util/Arrays" 300 yJ7_copyOf_6403c ∈ GT := in_gt (in_t1 (List.mem_of_getElem? (i := 134) rfl)) (by decide +kernel)
set_option maxRecDepth 20000 in
theorem wd_9 : Cond.static yJ7_copyOf_6403c ∈ GT := in_gt (in_t1 (List.mem_of_getElem? (i := 135) rfl)) (by decide +kernel)
set_option maxRecDepth 20000 in
theorem wd_10 : Cond.initialized "java/util/Arrays" ∈ GT := in_gt (in_t1 (List.mem_of_getElem? (i := 8) rfl)) (by decide +kernel)
set_option maxRecDepth 20000 in
theorem wd_11 : Cond.classLink "java/util/Arrays" 2 "java/lang/Object" ∈ GT := in_gt (in_t1 (List.mem_of_getElem? (i := 139) rfl)) (by decide +kernel)
set_option maxRecDepth 20000 in
theorem wd_12 : Cond.classLink "java/util/Arrays" 110 "[Ljava/lang/Object;" ∈ GT := in_gt (in_t1 (List.mem_of_getElem? (i := 137) rfl)) (by decide +kernel)
set_option maxRecDepth 20000 in
theorem wd_13 : Cond.code yJ9_min_7cf53 cJ9_min_7cf53 2 (some .int) ∈ GT := in_gt (in_t1 (List.mem_of_getElem? (i := 142) rfl)) (by decide +kernel)
set_option maxRecDepth 20000 in
theorem wd_14 : Cond.methodLink "java/util/Arrays" 304 yJ9_min_7cf53 ∈ GT := in_gt (in_t1 (List.mem_of_getElem? (i := 140) rfl)) (by decide +kernel)
set_option maxRecDepth 20000 in
theorem wd_15 : Cond.static yJ9_min_7cf53 ∈ GT := in_gt (in_t1 (List.mem_of_getElem? (i := 141) rfl)) (by decide +kernel)
set_option maxRecDepth 20000 in
theorem wd_16 : Cond.initialized "java/lang/Math" ∈ GT := in_gt (in_t1 (List.mem_of_getElem? (i := 7) rfl)) (by decide +kernel)
set_option maxRecDepth 20000 in
theorem wd_17 : Cond.constant "jdk/internal/util/ArraysSupport" 200 (2147483639) ∈ GT := in_gt (in_t1 (List.mem_of_getElem? (i := 113) rfl)) (by decide +kernel)
set_option maxRecDepth 20000 in
theorem wd_18 : Cond.code yJ9_max_7cf53 cJ9_max_7cf53 2 (some .int) ∈ GT := in_gt (in_t1 (List.mem_of_getElem? (i := 112) rfl)) (by decide +kernel)
set_option maxRecDepth 20000 in
theorem wd_19 : Cond.methodLink "jdk/internal/util/ArraysSupport" 194 yJ9_max_7cf53 ∈ GT := in_gt (in_t1 (List.mem_of_getElem? (i := 110) rfl)) (by decide +kernel)
set_option maxRecDepth 20000 in
theorem wd_20 : Cond.static yJ9_max_7cf53 ∈ GT := in_gt (in_t1 (List.mem_of_getElem? (i := 111) rfl)) (by decide +kernel)
set_option maxRecDepth 20000 in
theorem wd_21 : Cond.code yJ8_hugeLength_7cf53 cJ8_hugeLength_7cf53 3 (some .int) ∈ GT := in_gt (in_t1 (List.mem_of_getElem? (i := 116) rfl)) (by decide +kernel)
set_option maxRecDepth 20000 in
theorem wd_22 : Cond.methodLink "jdk/internal/util/ArraysSupport" 201 yJ8_hugeLength_7cf53 ∈ GT := in_gt (in_t1 (List.mem_of_getElem? (i := 114) rfl)) (by decide +kernel)
set_option maxRecDepth 20000 in
theorem wd_23 : Cond.static yJ8_hugeLength_7cf53 ∈ GT := in_gt (in_t1 (List.mem_of_getElem? (i := 115) rfl)) (by decide +kernel)
set_option maxRecDepth 20000 in
theorem wd_24 : Cond.initialized "jdk/internal/util/ArraysSupport" ∈ GT := in_gt (in_t1 (List.mem_of_getElem? (i := 6) rfl)) (by decide +kernel)
set_option maxRecDepth 20000 in
theorem wd_25 : Cond.code yJx4a65c_grow_d5877 cJx4a65c_grow_d5877 1 (some (.array (.object "java/lang/Object"))) ∈ GT := in_gt (in_t1 (List.mem_of_getElem? (i := 102) rfl)) (by decide +kernel)
set_option maxRecDepth 20000 in
theorem wd_26 : Cond.methodLink "java/util/ArrayList" 129 yJx4a65c_grow_d5877 ∈ GT := in_gt (in_t1 (List.mem_of_getElem? (i := 99) rfl)) (by decide +kernel)
set_option maxRecDepth 20000 in
theorem wd_27 : Cond.instanceMethod yJx4a65c_grow_d5877 ∈ GT := in_gt (in_t1 (List.mem_of_getElem? (i := 101) rfl)) (by decide +kernel)
set_option maxRecDepth 20000 in
theorem wd_28 : Cond.selects "java/util/ArrayList" yJx4a65c_grow_d5877 yJx4a65c_grow_d5877 ∈ GT := in_gt (List.mem_append_left _ (List.mem_map.mpr ⟨_, lw_pv 1 rfl, rfl⟩)) (by decide +kernel)
set_option maxRecDepth 20000 in
theorem wd_29 : Cond.initialized "java/util/ArrayList" ∈ GT := in_gt (in_t1 (List.mem_of_getElem? (i := 5) rfl)) (by decide +kernel)
set_option maxRecDepth 20000 in
theorem wd_30 : Cond.fieldLink "java/util/ArrayList" 48 "java/util/ArrayList" "size" "I" ∈ GT := in_gt (in_t1 (List.mem_of_getElem? (i := 80) rfl)) (by decide +kernel)
set_option maxRecDepth 20000 in
theorem wd_31 : Cond.fieldLink "java/util/ArrayList" 63 "java/util/ArrayList" "modCount" "I" ∈ GT := in_gt (in_t1 (List.mem_of_getElem? (i := 82) rfl)) (by decide +kernel)
set_option maxRecDepth 20000 in
theorem wd_32 : Cond.fieldLink "java/util/ArrayList" 9 "java/util/ArrayList" "elementData" "[Ljava/lang/Object;" ∈ GT := in_gt (in_t1 (List.mem_of_getElem? (i := 79) rfl)) (by decide +kernel)
set_option maxRecDepth 20000 in
theorem wd_33 : Cond.code yJx4a65c_add_72be8 cJx4a65c_add_72be8 4 none ∈ GT := in_gt (in_t1 (List.mem_of_getElem? (i := 98) rfl)) (by decide +kernel)
set_option maxRecDepth 20000 in
theorem wd_34 : Cond.methodLink "java/util/ArrayList" 131 yJx4a65c_add_72be8 ∈ GT := in_gt (in_t1 (List.mem_of_getElem? (i := 95) rfl)) (by decide +kernel)
set_option maxRecDepth 20000 in
theorem wd_35 : Cond.instanceMethod yJx4a65c_add_72be8 ∈ GT := in_gt (in_t1 (List.mem_of_getElem? (i := 97) rfl)) (by decide +kernel)
set_option maxRecDepth 20000 in
theorem wd_36 : Cond.selects "java/util/ArrayList" yJx4a65c_add_72be8 yJx4a65c_add_72be8 ∈ GT := in_gt (List.mem_append_left _ (List.mem_map.mpr ⟨_, lw_pv 0 rfl, rfl⟩)) (by decide +kernel)
set_option maxRecDepth 20000 in
theorem wd_37 : Cond.code yJ15_checkIndex_7cf53 cJ15_checkIndex_7cf53 2 (some .int) ∈ GT := in_gt (in_t1 (List.mem_of_getElem? (i := 189) rfl)) (by decide +kernel)
set_option maxRecDepth 20000 in
theorem wd_38 : Cond.methodLink "java/util/ArrayList" 118 yJ15_checkIndex_7cf53 ∈ GT := in_gt (in_t1 (List.mem_of_getElem? (i := 187) rfl)) (by decide +kernel)
set_option maxRecDepth 20000 in
theorem wd_39 : Cond.static yJ15_checkIndex_7cf53 ∈ GT := in_gt (in_t1 (List.mem_of_getElem? (i := 188) rfl)) (by decide +kernel)
set_option maxRecDepth 20000 in
theorem wd_40 : Cond.initialized "java/util/Objects" ∈ GT := in_gt (in_t1 (List.mem_of_getElem? (i := 17) rfl)) (by decide +kernel)
set_option maxRecDepth 20000 in
theorem wd_41 : Cond.code yJx4a65c_elementData_915e3 cJx4a65c_elementData_915e3 2 (some (.object "java/lang/Object")) ∈ GT := in_gt (in_t1 (List.mem_of_getElem? (i := 196) rfl)) (by decide +kernel)
set_option maxRecDepth 20000 in
theorem wd_42 : Cond.methodLink "java/util/ArrayList" 123 yJx4a65c_elementData_915e3 ∈ GT := in_gt (in_t1 (List.mem_of_getElem? (i := 193) rfl)) (by decide +kernel)
set_option maxRecDepth 20000 in
theorem wd_43 : Cond.instanceMethod yJx4a65c_elementData_915e3 ∈ GT := in_gt (in_t1 (List.mem_of_getElem? (i := 194) rfl)) (by decide +kernel)
set_option maxRecDepth 20000 in
theorem wd_44 : Cond.selects "java/util/ArrayList" yJx4a65c_elementData_915e3 yJx4a65c_elementData_915e3 ∈ GT := in_gt (in_t1 (List.mem_of_getElem? (i := 195) rfl)) (by decide +kernel)
set_option maxRecDepth 20000 in
theorem wd_45 : Cond.fieldLink "java/util/ArrayList" 39 "java/util/ArrayList" "DEFAULTCAPACITY_EMPTY_ELEMENTDATA" "[Ljava/lang/Object;" ∈ GT := in_gt (in_t1 (List.mem_of_getElem? (i := 77) rfl)) (by decide +kernel)
set_option maxRecDepth 20000 in
theorem wd_46 : Cond.code yJ8_newLength_cabcc cJ8_newLength_cabcc 4 (some .int) ∈ GT := in_gt (in_t1 (List.mem_of_getElem? (i := 109) rfl)) (by decide +kernel)
set_option maxRecDepth 20000 in
theorem wd_47 : Cond.methodLink "java/util/ArrayList" 73 yJ8_newLength_cabcc ∈ GT := in_gt (in_t1 (List.mem_of_getElem? (i := 107) rfl)) (by decide +kernel)
set_option maxRecDepth 20000 in
theorem wd_48 : Cond.static yJ8_newLength_cabcc ∈ GT := in_gt (in_t1 (List.mem_of_getElem? (i := 108) rfl)) (by decide +kernel)
set_option maxRecDepth 20000 in
theorem wd_49 : Cond.code yJ7_copyOf_1904c cJ7_copyOf_1904c 2 (some (.array (.object "java/lang/Object"))) ∈ GT := in_gt (in_t1 (List.mem_of_getElem? (i := 119) rfl)) (by decide +kernel)
set_option maxRecDepth 20000 in
theorem wd_50 : Cond.methodLink "java/util/ArrayList" 66 yJ7_copyOf_1904c ∈ GT := in_gt (in_t1 (List.mem_of_getElem? (i := 117) rfl)) (by decide +kernel)
set_option maxRecDepth 20000 in
theorem wd_51 : Cond.static yJ7_copyOf_1904c ∈ GT := in_gt (in_t1 (List.mem_of_getElem? (i := 118) rfl)) (by decide +kernel)
set_option maxRecDepth 20000 in
theorem wd_52 : Cond.methodLink "java/util/ArrayList" 79 yJ9_max_7cf53 ∈ GT := in_gt (in_t1 (List.mem_of_getElem? (i := 146) rfl)) (by decide +kernel)
set_option maxRecDepth 20000 in
theorem wd_53 : Cond.classLink "java/util/ArrayList" 7 "java/lang/Object" ∈ GT := in_gt (in_t1 (List.mem_of_getElem? (i := 147) rfl)) (by decide +kernel)
set_option maxRecDepth 20000 in
theorem wd_54 : Cond.code yJx4a65c_grow_92f84 cJx4a65c_grow_92f84 4 (some (.array (.object "java/lang/Object"))) ∈ GT := in_gt (in_t1 (List.mem_of_getElem? (i := 106) rfl)) (by decide +kernel)
set_option maxRecDepth 20000 in
theorem wd_55 : Cond.methodLink "java/util/ArrayList" 69 yJx4a65c_grow_92f84 ∈ GT := in_gt (in_t1 (List.mem_of_getElem? (i := 103) rfl)) (by decide +kernel)
set_option maxRecDepth 20000 in
theorem wd_56 : Cond.instanceMethod yJx4a65c_grow_92f84 ∈ GT := in_gt (in_t1 (List.mem_of_getElem? (i := 105) rfl)) (by decide +kernel)
set_option maxRecDepth 20000 in
theorem wd_57 : Cond.selects "java/util/ArrayList" yJx4a65c_grow_92f84 yJx4a65c_grow_92f84 ∈ GT := in_gt (List.mem_append_left _ (List.mem_map.mpr ⟨_, lw_pv 2 rfl, rfl⟩)) (by decide +kernel)
set_option maxRecDepth 20000 in
theorem wd_58 : Cond.code yJxc12de_init_da8c8 cJxc12de_init_da8c8 1 none ∈ GT := in_gt (in_t1 (List.mem_of_getElem? (i := 72) rfl)) (by decide +kernel)
set_option maxRecDepth 20000 in
theorem wd_59 : Cond.methodLink "java/util/ArrayList" 1 yJxc12de_init_da8c8 ∈ GT := in_gt (in_t1 (List.mem_of_getElem? (i := 70) rfl)) (by decide +kernel)
set_option maxRecDepth 20000 in
theorem wd_60 : Cond.instanceMethod yJxc12de_init_da8c8 ∈ GT := in_gt (in_t1 (List.mem_of_getElem? (i := 71) rfl)) (by decide +kernel)
set_option maxRecDepth 20000 in
theorem wd_61 : Cond.initialized "java/util/AbstractList" ∈ GT := in_gt (in_t1 (List.mem_of_getElem? (i := 4) rfl)) (by decide +kernel)
set_option maxRecDepth 20000 in
theorem wd_62 : Cond.methodLink "java/util/AbstractCollection" 1 ⟨"java/lang/Object", "<init>", "()V"⟩ ∈ GT := in_gt (in_t1 (List.mem_of_getElem? (i := 76) rfl)) (by decide +kernel)
set_option maxRecDepth 20000 in
theorem wd_63 : Cond.instanceMethod ⟨"java/lang/Object", "<init>", "()V"⟩ ∈ GT := in_gt (in_t1 (List.mem_of_getElem? (i := 29) rfl)) (by decide +kernel)
set_option maxRecDepth 20000 in
theorem wd_64 : Cond.code Lib.objectInit ⟨#[0xb1]⟩ 1 none ∈ GT := in_gt (in_t1 (List.mem_of_getElem? (i := 30) rfl)) (by decide +kernel)
set_option maxRecDepth 20000 in
theorem wd_65 : Cond.code yJxa1e45_init_da8c8 cJxa1e45_init_da8c8 1 none ∈ GT := in_gt (in_t1 (List.mem_of_getElem? (i := 75) rfl)) (by decide +kernel)
set_option maxRecDepth 20000 in
theorem wd_66 : Cond.methodLink "java/util/AbstractList" 1 yJxa1e45_init_da8c8 ∈ GT := in_gt (in_t1 (List.mem_of_getElem? (i := 73) rfl)) (by decide +kernel)
set_option maxRecDepth 20000 in
theorem wd_67 : Cond.instanceMethod yJxa1e45_init_da8c8 ∈ GT := in_gt (in_t1 (List.mem_of_getElem? (i := 74) rfl)) (by decide +kernel)
set_option maxRecDepth 20000 in
theorem wd_68 : Cond.initialized "java/util/AbstractCollection" ∈ GT := in_gt (in_t1 (List.mem_of_getElem? (i := 3) rfl)) (by decide +kernel)
set_option maxRecDepth 20000 in
theorem wd_69 : Cond.fieldLink "java/util/AbstractList" 7 "java/util/AbstractList" "modCount" "I" ∈ GT := in_gt (in_t1 (List.mem_of_getElem? (i := 81) rfl)) (by decide +kernel)
set_option maxRecDepth 20000 in
theorem wd_70 : Cond.code yX4_addBadge cX4_addBadge 2 (some .int) ∈ GT := in_gt (in_t2 (List.mem_of_getElem? (i := 213) rfl)) (by decide +kernel)
set_option maxRecDepth 20000 in
theorem wd_71 : Cond.methodLink "BadgeZonesLaw" 37 yX4_addBadge ∈ GT := in_gt (in_t2 (List.mem_of_getElem? (i := 210) rfl)) (by decide +kernel)
set_option maxRecDepth 20000 in
theorem wd_72 : Cond.instanceMethod yX4_addBadge ∈ GT := in_gt (in_t2 (List.mem_of_getElem? (i := 211) rfl)) (by decide +kernel)
set_option maxRecDepth 20000 in
theorem wd_73 : Cond.selects "BadgeZones" yX4_addBadge yX4_addBadge ∈ GT := in_gt (in_t2 (List.mem_of_getElem? (i := 212) rfl)) (by decide +kernel)
set_option maxRecDepth 20000 in
theorem wd_74 : Cond.initialized "BadgeZones" ∈ GT := in_gt (in_t1 (List.mem_of_getElem? (i := 1) rfl)) (by decide +kernel)
set_option maxRecDepth 20000 in
theorem wd_75 : Cond.code yX4_addDoor cX4_addDoor 8 (some .int) ∈ GT := in_gt (in_t2 (List.mem_of_getElem? (i := 142) rfl)) (by decide +kernel)
set_option maxRecDepth 20000 in
theorem wd_76 : Cond.methodLink "BadgeZonesLaw" 23 yX4_addDoor ∈ GT := in_gt (in_t2 (List.mem_of_getElem? (i := 139) rfl)) (by decide +kernel)
set_option maxRecDepth 20000 in
theorem wd_77 : Cond.instanceMethod yX4_addDoor ∈ GT := in_gt (in_t2 (List.mem_of_getElem? (i := 140) rfl)) (by decide +kernel)
set_option maxRecDepth 20000 in
theorem wd_78 : Cond.selects "BadgeZones" yX4_addDoor yX4_addDoor ∈ GT := in_gt (in_t2 (List.mem_of_getElem? (i := 141) rfl)) (by decide +kernel)
set_option maxRecDepth 20000 in
theorem wd_79 : Cond.code yX4_addVisitor cX4_addVisitor 3 (some .int) ∈ GT := in_gt (in_t3 (List.mem_of_getElem? (i := 40) rfl)) (by decide +kernel)
set_option maxRecDepth 20000 in
theorem wd_80 : Cond.methodLink "BadgeZonesLaw" 40 yX4_addVisitor ∈ GT := in_gt (in_t3 (List.mem_of_getElem? (i := 37) rfl)) (by decide +kernel)
set_option maxRecDepth 20000 in
theorem wd_81 : Cond.instanceMethod yX4_addVisitor ∈ GT := in_gt (in_t3 (List.mem_of_getElem? (i := 38) rfl)) (by decide +kernel)
set_option maxRecDepth 20000 in
theorem wd_82 : Cond.selects "BadgeZones" yX4_addVisitor yX4_addVisitor ∈ GT := in_gt (in_t3 (List.mem_of_getElem? (i := 39) rfl)) (by decide +kernel)
set_option maxRecDepth 20000 in
theorem wd_83 : Cond.code yX4_addZone cX4_addZone 5 (some .int) ∈ GT := in_gt (in_t2 (List.mem_of_getElem? (i := 15) rfl)) (by decide +kernel)
set_option maxRecDepth 20000 in
theorem wd_84 : Cond.methodLink "BadgeZonesLaw" 7 yX4_addZone ∈ GT := in_gt (in_t2 (List.mem_of_getElem? (i := 12) rfl)) (by decide +kernel)
set_option maxRecDepth 20000 in
theorem wd_85 : Cond.instanceMethod yX4_addZone ∈ GT := in_gt (in_t2 (List.mem_of_getElem? (i := 13) rfl)) (by decide +kernel)
set_option maxRecDepth 20000 in
theorem wd_86 : Cond.selects "BadgeZones" yX4_addZone yX4_addZone ∈ GT := in_gt (in_t2 (List.mem_of_getElem? (i := 14) rfl)) (by decide +kernel)
set_option maxRecDepth 20000 in
theorem wd_87 : Cond.code yX4_badge cX4_badge 4 (some .int) ∈ GT := in_gt (in_t3 (List.mem_of_getElem? (i := 68) rfl)) (by decide +kernel)
set_option maxRecDepth 20000 in
theorem wd_88 : Cond.methodLink "BadgeZonesLaw" 51 yX4_badge ∈ GT := in_gt (in_t3 (List.mem_of_getElem? (i := 65) rfl)) (by decide +kernel)
set_option maxRecDepth 20000 in
theorem wd_89 : Cond.instanceMethod yX4_badge ∈ GT := in_gt (in_t3 (List.mem_of_getElem? (i := 66) rfl)) (by decide +kernel)
set_option maxRecDepth 20000 in
theorem wd_90 : Cond.selects "BadgeZones" yX4_badge yX4_badge ∈ GT := in_gt (in_t3 (List.mem_of_getElem? (i := 67) rfl)) (by decide +kernel)
set_option maxRecDepth 20000 in
theorem wd_91 : Cond.code yX4_block cX4_block 5 (some .boolean) ∈ GT := in_gt (in_t3 (List.mem_of_getElem? (i := 61) rfl)) (by decide +kernel)
set_option maxRecDepth 20000 in
theorem wd_92 : Cond.methodLink "BadgeZonesLaw" 47 yX4_block ∈ GT := in_gt (in_t3 (List.mem_of_getElem? (i := 58) rfl)) (by decide +kernel)
set_option maxRecDepth 20000 in
theorem wd_93 : Cond.instanceMethod yX4_block ∈ GT := in_gt (in_t3 (List.mem_of_getElem? (i := 59) rfl)) (by decide +kernel)
set_option maxRecDepth 20000 in
theorem wd_94 : Cond.selects "BadgeZones" yX4_block yX4_block ∈ GT := in_gt (in_t3 (List.mem_of_getElem? (i := 60) rfl)) (by decide +kernel)
set_option maxRecDepth 20000 in
theorem wd_95 : Cond.code yX4_canCome cX4_canCome 6 (some .int) ∈ GT := in_gt (in_t3 (List.mem_of_getElem? (i := 206) rfl)) (by decide +kernel)
set_option maxRecDepth 20000 in
theorem wd_96 : Cond.methodLink "BadgeZonesLaw" 78 yX4_canCome ∈ GT := in_gt (in_t3 (List.mem_of_getElem? (i := 203) rfl)) (by decide +kernel)
set_option maxRecDepth 20000 in
theorem wd_97 : Cond.instanceMethod yX4_canCome ∈ GT := in_gt (in_t3 (List.mem_of_getElem? (i := 204) rfl)) (by decide +kernel)
set_option maxRecDepth 20000 in
theorem wd_98 : Cond.selects "BadgeZones" yX4_canCome yX4_canCome ∈ GT := in_gt (in_t3 (List.mem_of_getElem? (i := 205) rfl)) (by decide +kernel)
set_option maxRecDepth 20000 in
theorem wd_99 : Cond.code yX4_distance cX4_distance 3 (some .int) ∈ GT := in_gt (in_t2 (List.mem_of_getElem? (i := 172) rfl)) (by decide +kernel)
set_option maxRecDepth 20000 in
theorem wd_100 : Cond.methodLink "BadgeZonesLaw" 26 yX4_distance ∈ GT := in_gt (in_t2 (List.mem_of_getElem? (i := 169) rfl)) (by decide +kernel)
set_option maxRecDepth 20000 in
theorem wd_101 : Cond.instanceMethod yX4_distance ∈ GT := in_gt (in_t2 (List.mem_of_getElem? (i := 170) rfl)) (by decide +kernel)
set_option maxRecDepth 20000 in
theorem wd_102 : Cond.selects "BadgeZones" yX4_distance yX4_distance ∈ GT := in_gt (in_t2 (List.mem_of_getElem? (i := 171) rfl)) (by decide +kernel)
set_option maxRecDepth 20000 in
theorem wd_103 : Cond.code yX4_inside cX4_inside 2 (some .int) ∈ GT := in_gt (in_t3 (List.mem_of_getElem? (i := 153) rfl)) (by decide +kernel)
set_option maxRecDepth 20000 in
theorem wd_104 : Cond.methodLink "BadgeZonesLaw" 63 yX4_inside ∈ GT := in_gt (in_t3 (List.mem_of_getElem? (i := 150) rfl)) (by decide +kernel)
set_option maxRecDepth 20000 in
theorem wd_105 : Cond.instanceMethod yX4_inside ∈ GT := in_gt (in_t3 (List.mem_of_getElem? (i := 151) rfl)) (by decide +kernel)
set_option maxRecDepth 20000 in
theorem wd_106 : Cond.selects "BadgeZones" yX4_inside yX4_inside ∈ GT := in_gt (in_t3 (List.mem_of_getElem? (i := 152) rfl)) (by decide +kernel)
set_option maxRecDepth 20000 in
theorem wd_107 : Cond.code yX4_isOpen cX4_isOpen 2 (some .boolean) ∈ GT := in_gt (in_t2 (List.mem_of_getElem? (i := 194) rfl)) (by decide +kernel)
set_option maxRecDepth 20000 in
theorem wd_108 : Cond.methodLink "BadgeZonesLaw" 30 yX4_isOpen ∈ GT := in_gt (in_t2 (List.mem_of_getElem? (i := 191) rfl)) (by decide +kernel)
set_option maxRecDepth 20000 in
theorem wd_109 : Cond.instanceMethod yX4_isOpen ∈ GT := in_gt (in_t2 (List.mem_of_getElem? (i := 192) rfl)) (by decide +kernel)
set_option maxRecDepth 20000 in
theorem wd_110 : Cond.selects "BadgeZones" yX4_isOpen yX4_isOpen ∈ GT := in_gt (in_t2 (List.mem_of_getElem? (i := 193) rfl)) (by decide +kernel)
set_option maxRecDepth 20000 in
theorem wd_111 : Cond.classLink "BadgeZonesLaw" 8 "BadgeZones" ∈ GT := in_gt (in_t1 (List.mem_of_getElem? (i := 23) rfl)) (by decide +kernel)
set_option maxRecDepth 20000 in
theorem wd_112 : Cond.code yX4_init cX4_init 1 none ∈ GT := in_gt (in_t1 (List.mem_of_getElem? (i := 27) rfl)) (by decide +kernel)
set_option maxRecDepth 20000 in
theorem wd_113 : Cond.methodLink "BadgeZonesLaw" 81 yX4_init ∈ GT := in_gt (in_t1 (List.mem_of_getElem? (i := 25) rfl)) (by decide +kernel)
set_option maxRecDepth 20000 in
theorem wd_114 : Cond.instanceMethod yX4_init ∈ GT := in_gt (in_t1 (List.mem_of_getElem? (i := 26) rfl)) (by decide +kernel)
set_option maxRecDepth 20000 in
theorem wd_115 : Cond.classLink "BadgeZonesLaw" 82 "BadgeZonesModel" ∈ GT := in_gt (in_t3 (List.mem_of_getElem? (i := 207) rfl)) (by decide +kernel)
set_option maxRecDepth 20000 in
theorem wd_116 : Cond.code yX5_init cX5_init 1 none ∈ GT := in_gt (in_t3 (List.mem_of_getElem? (i := 211) rfl)) (by decide +kernel)
set_option maxRecDepth 20000 in
theorem wd_117 : Cond.methodLink "BadgeZonesLaw" 84 yX5_init ∈ GT := in_gt (in_t3 (List.mem_of_getElem? (i := 209) rfl)) (by decide +kernel)
set_option maxRecDepth 20000 in
theorem wd_118 : Cond.instanceMethod yX5_init ∈ GT := in_gt (in_t3 (List.mem_of_getElem? (i := 210) rfl)) (by decide +kernel)
set_option maxRecDepth 20000 in
theorem wd_119 : Cond.initialized "BadgeZonesModel" ∈ GT := in_gt (in_t1 (List.mem_of_getElem? (i := 10) rfl)) (by decide +kernel)
set_option maxRecDepth 20000 in
theorem wd_120 : Cond.codeWith yL_addZone cL_addZone 6 (some .int) [(0, 12, 15, 13), (0, 12, 19, 15)] ∈ GT := in_gt (in_t2 (List.mem_of_getElem? (i := 9) rfl)) (by decide +kernel)
set_option maxRecDepth 20000 in
theorem wd_121 : Cond.methodLink "BadgeZonesLaw" 85 yL_addZone ∈ GT := in_gt (in_t2 (List.mem_of_getElem? (i := 7) rfl)) (by decide +kernel)
set_option maxRecDepth 20000 in
theorem wd_122 : Cond.static yL_addZone ∈ GT := in_gt (in_t2 (List.mem_of_getElem? (i := 8) rfl)) (by decide +kernel)
set_option maxRecDepth 20000 in
theorem wd_123 : Cond.initialized "BadgeZonesLaw" ∈ GT := in_gt (in_t1 (List.mem_of_getElem? (i := 0) rfl)) (by decide +kernel)
set_option maxRecDepth 20000 in
theorem wd_124 : Cond.code yX5_addZone cX5_addZone 4 (some .int) ∈ GT := in_gt (in_t4 (List.mem_of_getElem? (i := 43) rfl)) (by decide +kernel)
set_option maxRecDepth 20000 in
theorem wd_125 : Cond.methodLink "BadgeZonesLaw" 90 yX5_addZone ∈ GT := in_gt (in_t4 (List.mem_of_getElem? (i := 40) rfl)) (by decide +kernel)
set_option maxRecDepth 20000 in
theorem wd_126 : Cond.instanceMethod yX5_addZone ∈ GT := in_gt (in_t4 (List.mem_of_getElem? (i := 41) rfl)) (by decide +kernel)
set_option maxRecDepth 20000 in
theorem wd_127 : Cond.selects "BadgeZonesModel" yX5_addZone yX5_addZone ∈ GT := in_gt (in_t4 (List.mem_of_getElem? (i := 42) rfl)) (by decide +kernel)
set_option maxRecDepth 20000 in
theorem wd_128 : Cond.code yX5_thrown cX5_thrown 1 (some .int) ∈ GT := in_gt (in_t4 (List.mem_of_getElem? (i := 39) rfl)) (by decide +kernel)
set_option maxRecDepth 20000 in
theorem wd_129 : Cond.methodLink "BadgeZonesLaw" 91 yX5_thrown ∈ GT := in_gt (in_t4 (List.mem_of_getElem? (i := 36) rfl)) (by decide +kernel)
set_option maxRecDepth 20000 in
theorem wd_130 : Cond.instanceMethod yX5_thrown ∈ GT := in_gt (in_t4 (List.mem_of_getElem? (i := 37) rfl)) (by decide +kernel)
set_option maxRecDepth 20000 in
theorem wd_131 : Cond.selects "BadgeZonesModel" yX5_thrown yX5_thrown ∈ GT := in_gt (in_t4 (List.mem_of_getElem? (i := 38) rfl)) (by decide +kernel)
set_option maxRecDepth 20000 in
theorem wd_132 : Cond.codeWith yL_setZone cL_setZone 7 (some .int) [(0, 14, 17, 21), (0, 14, 21, 13)] ∈ GT := in_gt (in_t2 (List.mem_of_getElem? (i := 109) rfl)) (by decide +kernel)
set_option maxRecDepth 20000 in
theorem wd_133 : Cond.methodLink "BadgeZonesLaw" 95 yL_setZone ∈ GT := in_gt (in_t2 (List.mem_of_getElem? (i := 107) rfl)) (by decide +kernel)
set_option maxRecDepth 20000 in
theorem wd_134 : Cond.static yL_setZone ∈ GT := in_gt (in_t2 (List.mem_of_getElem? (i := 108) rfl)) (by decide +kernel)
set_option maxRecDepth 20000 in
theorem wd_135 : Cond.code yX5_setZone cX5_setZone 5 (some .int) ∈ GT := in_gt (in_t4 (List.mem_of_getElem? (i := 54) rfl)) (by decide +kernel)
set_option maxRecDepth 20000 in
theorem wd_136 : Cond.methodLink "BadgeZonesLaw" 98 yX5_setZone ∈ GT := in_gt (in_t4 (List.mem_of_getElem? (i := 51) rfl)) (by decide +kernel)
set_option maxRecDepth 20000 in
theorem wd_137 : Cond.instanceMethod yX5_setZone ∈ GT := in_gt (in_t4 (List.mem_of_getElem? (i := 52) rfl)) (by decide +kernel)
set_option maxRecDepth 20000 in
theorem wd_138 : Cond.selects "BadgeZonesModel" yX5_setZone yX5_setZone ∈ GT := in_gt (in_t4 (List.mem_of_getElem? (i := 53) rfl)) (by decide +kernel)
set_option maxRecDepth 20000 in
theorem wd_139 : Cond.codeWith yL_addDoor cL_addDoor 7 (some .int) [(0, 14, 17, 21), (0, 14, 21, 13), (0, 14, 25, 15)] ∈ GT := in_gt (in_t2 (List.mem_of_getElem? (i := 138) rfl)) (by decide +kernel)
set_option maxRecDepth 20000 in
theorem wd_140 : Cond.methodLink "BadgeZonesLaw" 99 yL_addDoor ∈ GT := in_gt (in_t2 (List.mem_of_getElem? (i := 136) rfl)) (by decide +kernel)
set_option maxRecDepth 20000 in
theorem wd_141 : Cond.static yL_addDoor ∈ GT := in_gt (in_t2 (List.mem_of_getElem? (i := 137) rfl)) (by decide +kernel)
set_option maxRecDepth 20000 in
theorem wd_142 : Cond.code yX5_addDoor cX5_addDoor 5 (some .int) ∈ GT := in_gt (in_t4 (List.mem_of_getElem? (i := 67) rfl)) (by decide +kernel)
set_option maxRecDepth 20000 in
theorem wd_143 : Cond.methodLink "BadgeZonesLaw" 101 yX5_addDoor ∈ GT := in_gt (in_t4 (List.mem_of_getElem? (i := 64) rfl)) (by decide +kernel)
set_option maxRecDepth 20000 in
theorem wd_144 : Cond.instanceMethod yX5_addDoor ∈ GT := in_gt (in_t4 (List.mem_of_getElem? (i := 65) rfl)) (by decide +kernel)
set_option maxRecDepth 20000 in
theorem wd_145 : Cond.selects "BadgeZonesModel" yX5_addDoor yX5_addDoor ∈ GT := in_gt (in_t4 (List.mem_of_getElem? (i := 66) rfl)) (by decide +kernel)
set_option maxRecDepth 20000 in
theorem wd_146 : Cond.codeWith yL_distance cL_distance 4 (some .int) [(0, 9, 12, 21)] ∈ GT := in_gt (in_t2 (List.mem_of_getElem? (i := 168) rfl)) (by decide +kernel)
set_option maxRecDepth 20000 in
theorem wd_147 : Cond.methodLink "BadgeZonesLaw" 102 yL_distance ∈ GT := in_gt (in_t2 (List.mem_of_getElem? (i := 166) rfl)) (by decide +kernel)
set_option maxRecDepth 20000 in
theorem wd_148 : Cond.static yL_distance ∈ GT := in_gt (in_t2 (List.mem_of_getElem? (i := 167) rfl)) (by decide +kernel)
set_option maxRecDepth 20000 in
theorem wd_149 : Cond.code yX5_distance cX5_distance 2 (some .int) ∈ GT := in_gt (in_t4 (List.mem_of_getElem? (i := 71) rfl)) (by decide +kernel)
set_option maxRecDepth 20000 in
theorem wd_150 : Cond.methodLink "BadgeZonesLaw" 105 yX5_distance ∈ GT := in_gt (in_t4 (List.mem_of_getElem? (i := 68) rfl)) (by decide +kernel)
set_option maxRecDepth 20000 in
theorem wd_151 : Cond.instanceMethod yX5_distance ∈ GT := in_gt (in_t4 (List.mem_of_getElem? (i := 69) rfl)) (by decide +kernel)
set_option maxRecDepth 20000 in
theorem wd_152 : Cond.selects "BadgeZonesModel" yX5_distance yX5_distance ∈ GT := in_gt (in_t4 (List.mem_of_getElem? (i := 70) rfl)) (by decide +kernel)
set_option maxRecDepth 20000 in
theorem wd_153 : Cond.codeWith yL_isOpen cL_isOpen 4 (some .int) [(0, 16, 19, 21)] ∈ GT := in_gt (in_t2 (List.mem_of_getElem? (i := 190) rfl)) (by decide +kernel)
set_option maxRecDepth 20000 in
theorem wd_154 : Cond.methodLink "BadgeZonesLaw" 106 yL_isOpen ∈ GT := in_gt (in_t2 (List.mem_of_getElem? (i := 188) rfl)) (by decide +kernel)
set_option maxRecDepth 20000 in
theorem wd_155 : Cond.static yL_isOpen ∈ GT := in_gt (in_t2 (List.mem_of_getElem? (i := 189) rfl)) (by decide +kernel)
set_option maxRecDepth 20000 in
theorem wd_156 : Cond.code yX5_isOpen cX5_isOpen 2 (some .boolean) ∈ GT := in_gt (in_t4 (List.mem_of_getElem? (i := 82) rfl)) (by decide +kernel)
set_option maxRecDepth 20000 in
theorem wd_157 : Cond.methodLink "BadgeZonesLaw" 108 yX5_isOpen ∈ GT := in_gt (in_t4 (List.mem_of_getElem? (i := 79) rfl)) (by decide +kernel)
set_option maxRecDepth 20000 in
theorem wd_158 : Cond.instanceMethod yX5_isOpen ∈ GT := in_gt (in_t4 (List.mem_of_getElem? (i := 80) rfl)) (by decide +kernel)
set_option maxRecDepth 20000 in
theorem wd_159 : Cond.selects "BadgeZonesModel" yX5_isOpen yX5_isOpen ∈ GT := in_gt (in_t4 (List.mem_of_getElem? (i := 81) rfl)) (by decide +kernel)
set_option maxRecDepth 20000 in
theorem wd_160 : Cond.codeWith yL_openFor cL_openFor 4 (some .int) [(0, 9, 12, 21)] ∈ GT := in_gt (in_t2 (List.mem_of_getElem? (i := 197) rfl)) (by decide +kernel)
set_option maxRecDepth 20000 in
theorem wd_161 : Cond.methodLink "BadgeZonesLaw" 109 yL_openFor ∈ GT := in_gt (in_t2 (List.mem_of_getElem? (i := 195) rfl)) (by decide +kernel)
set_option maxRecDepth 20000 in
theorem wd_162 : Cond.static yL_openFor ∈ GT := in_gt (in_t2 (List.mem_of_getElem? (i := 196) rfl)) (by decide +kernel)
set_option maxRecDepth 20000 in
theorem wd_163 : Cond.code yX5_openFor cX5_openFor 2 (some .int) ∈ GT := in_gt (in_t4 (List.mem_of_getElem? (i := 90) rfl)) (by decide +kernel)
set_option maxRecDepth 20000 in
theorem wd_164 : Cond.methodLink "BadgeZonesLaw" 111 yX5_openFor ∈ GT := in_gt (in_t4 (List.mem_of_getElem? (i := 87) rfl)) (by decide +kernel)
set_option maxRecDepth 20000 in
theorem wd_165 : Cond.instanceMethod yX5_openFor ∈ GT := in_gt (in_t4 (List.mem_of_getElem? (i := 88) rfl)) (by decide +kernel)
set_option maxRecDepth 20000 in
theorem wd_166 : Cond.selects "BadgeZonesModel" yX5_openFor yX5_openFor ∈ GT := in_gt (in_t4 (List.mem_of_getElem? (i := 89) rfl)) (by decide +kernel)
set_option maxRecDepth 20000 in
theorem wd_167 : Cond.codeWith yL_addBadge cL_addBadge 4 (some .int) [(0, 9, 12, 13), (0, 9, 15, 15)] ∈ GT := in_gt (in_t2 (List.mem_of_getElem? (i := 209) rfl)) (by decide +kernel)
set_option maxRecDepth 20000 in
theorem wd_168 : Cond.methodLink "BadgeZonesLaw" 112 yL_addBadge ∈ GT := in_gt (in_t2 (List.mem_of_getElem? (i := 207) rfl)) (by decide +kernel)
set_option maxRecDepth 20000 in
theorem wd_169 : Cond.static yL_addBadge ∈ GT := in_gt (in_t2 (List.mem_of_getElem? (i := 208) rfl)) (by decide +kernel)
set_option maxRecDepth 20000 in
theorem wd_170 : Cond.code yX5_addBadge cX5_addBadge 2 (some .int) ∈ GT := in_gt (in_t4 (List.mem_of_getElem? (i := 103) rfl)) (by decide +kernel)
set_option maxRecDepth 20000 in
theorem wd_171 : Cond.methodLink "BadgeZonesLaw" 114 yX5_addBadge ∈ GT := in_gt (in_t4 (List.mem_of_getElem? (i := 100) rfl)) (by decide +kernel)
set_option maxRecDepth 20000 in
theorem wd_172 : Cond.instanceMethod yX5_addBadge ∈ GT := in_gt (in_t4 (List.mem_of_getElem? (i := 101) rfl)) (by decide +kernel)
set_option maxRecDepth 20000 in
theorem wd_173 : Cond.selects "BadgeZonesModel" yX5_addBadge yX5_addBadge ∈ GT := in_gt (in_t4 (List.mem_of_getElem? (i := 102) rfl)) (by decide +kernel)
set_option maxRecDepth 20000 in
theorem wd_174 : Cond.codeWith yL_addVisitor cL_addVisitor 4 (some .int) [(0, 9, 12, 21), (0, 9, 15, 13), (0, 9, 18, 15)] ∈ GT := in_gt (in_t3 (List.mem_of_getElem? (i := 36) rfl)) (by decide +kernel)
set_option maxRecDepth 20000 in
theorem wd_175 : Cond.methodLink "BadgeZonesLaw" 115 yL_addVisitor ∈ GT := in_gt (in_t3 (List.mem_of_getElem? (i := 34) rfl)) (by decide +kernel)
set_option maxRecDepth 20000 in
theorem wd_176 : Cond.static yL_addVisitor ∈ GT := in_gt (in_t3 (List.mem_of_getElem? (i := 35) rfl)) (by decide +kernel)
set_option maxRecDepth 20000 in
theorem wd_177 : Cond.code yX5_addVisitor cX5_addVisitor 2 (some .int) ∈ GT := in_gt (in_t4 (List.mem_of_getElem? (i := 111) rfl)) (by decide +kernel)
set_option maxRecDepth 20000 in
theorem wd_178 : Cond.methodLink "BadgeZonesLaw" 117 yX5_addVisitor ∈ GT := in_gt (in_t4 (List.mem_of_getElem? (i := 108) rfl)) (by decide +kernel)
set_option maxRecDepth 20000 in
theorem wd_179 : Cond.instanceMethod yX5_addVisitor ∈ GT := in_gt (in_t4 (List.mem_of_getElem? (i := 109) rfl)) (by decide +kernel)
set_option maxRecDepth 20000 in
theorem wd_180 : Cond.selects "BadgeZonesModel" yX5_addVisitor yX5_addVisitor ∈ GT := in_gt (in_t4 (List.mem_of_getElem? (i := 110) rfl)) (by decide +kernel)
set_option maxRecDepth 20000 in
theorem wd_181 : Cond.codeWith yL_setRights cL_setRights 5 (some .int) [(0, 10, 13, 21), (0, 10, 17, 13), (0, 10, 21, 15)] ∈ GT := in_gt (in_t3 (List.mem_of_getElem? (i := 49) rfl)) (by decide +kernel)
set_option maxRecDepth 20000 in
theorem wd_182 : Cond.methodLink "BadgeZonesLaw" 118 yL_setRights ∈ GT := in_gt (in_t3 (List.mem_of_getElem? (i := 47) rfl)) (by decide +kernel)
set_option maxRecDepth 20000 in
theorem wd_183 : Cond.static yL_setRights ∈ GT := in_gt (in_t3 (List.mem_of_getElem? (i := 48) rfl)) (by decide +kernel)
set_option maxRecDepth 20000 in
theorem wd_184 : Cond.code yX5_setRights cX5_setRights 4 (some .int) ∈ GT := in_gt (in_t4 (List.mem_of_getElem? (i := 119) rfl)) (by decide +kernel)
set_option maxRecDepth 20000 in
theorem wd_185 : Cond.methodLink "BadgeZonesLaw" 121 yX5_setRights ∈ GT := in_gt (in_t4 (List.mem_of_getElem? (i := 116) rfl)) (by decide +kernel)
set_option maxRecDepth 20000 in
theorem wd_186 : Cond.instanceMethod yX5_setRights ∈ GT := in_gt (in_t4 (List.mem_of_getElem? (i := 117) rfl)) (by decide +kernel)
set_option maxRecDepth 20000 in
theorem wd_187 : Cond.selects "BadgeZonesModel" yX5_setRights yX5_setRights ∈ GT := in_gt (in_t4 (List.mem_of_getElem? (i := 118) rfl)) (by decide +kernel)
set_option maxRecDepth 20000 in
theorem wd_188 : Cond.codeWith yL_block cL_block 5 (some .int) [(0, 17, 20, 21)] ∈ GT := in_gt (in_t3 (List.mem_of_getElem? (i := 57) rfl)) (by decide +kernel)
set_option maxRecDepth 20000 in
theorem wd_189 : Cond.methodLink "BadgeZonesLaw" 122 yL_block ∈ GT := in_gt (in_t3 (List.mem_of_getElem? (i := 55) rfl)) (by decide +kernel)
set_option maxRecDepth 20000 in
theorem wd_190 : Cond.static yL_block ∈ GT := in_gt (in_t3 (List.mem_of_getElem? (i := 56) rfl)) (by decide +kernel)
set_option maxRecDepth 20000 in
theorem wd_191 : Cond.code yX5_block cX5_block 4 (some .boolean) ∈ GT := in_gt (in_t4 (List.mem_of_getElem? (i := 123) rfl)) (by decide +kernel)
set_option maxRecDepth 20000 in
theorem wd_192 : Cond.methodLink "BadgeZonesLaw" 125 yX5_block ∈ GT := in_gt (in_t4 (List.mem_of_getElem? (i := 120) rfl)) (by decide +kernel)
set_option maxRecDepth 20000 in
theorem wd_193 : Cond.instanceMethod yX5_block ∈ GT := in_gt (in_t4 (List.mem_of_getElem? (i := 121) rfl)) (by decide +kernel)
set_option maxRecDepth 20000 in
theorem wd_194 : Cond.selects "BadgeZonesModel" yX5_block yX5_block ∈ GT := in_gt (in_t4 (List.mem_of_getElem? (i := 122) rfl)) (by decide +kernel)
set_option maxRecDepth 20000 in
theorem wd_195 : Cond.codeWith yL_badge cL_badge 5 (some .int) [(0, 10, 13, 21)] ∈ GT := in_gt (in_t3 (List.mem_of_getElem? (i := 64) rfl)) (by decide +kernel)
set_option maxRecDepth 20000 in
theorem wd_196 : Cond.methodLink "BadgeZonesLaw" 126 yL_badge ∈ GT := in_gt (in_t3 (List.mem_of_getElem? (i := 62) rfl)) (by decide +kernel)
set_option maxRecDepth 20000 in
theorem wd_197 : Cond.static yL_badge ∈ GT := in_gt (in_t3 (List.mem_of_getElem? (i := 63) rfl)) (by decide +kernel)
set_option maxRecDepth 20000 in
theorem wd_198 : Cond.code yX5_badge cX5_badge 3 (some .int) ∈ GT := in_gt (in_t4 (List.mem_of_getElem? (i := 127) rfl)) (by decide +kernel)
set_option maxRecDepth 20000 in
theorem wd_199 : Cond.methodLink "BadgeZonesLaw" 128 yX5_badge ∈ GT := in_gt (in_t4 (List.mem_of_getElem? (i := 124) rfl)) (by decide +kernel)
set_option maxRecDepth 20000 in
theorem wd_200 : Cond.instanceMethod yX5_badge ∈ GT := in_gt (in_t4 (List.mem_of_getElem? (i := 125) rfl)) (by decide +kernel)
set_option maxRecDepth 20000 in
theorem wd_201 : Cond.selects "BadgeZonesModel" yX5_badge yX5_badge ∈ GT := in_gt (in_t4 (List.mem_of_getElem? (i := 126) rfl)) (by decide +kernel)
set_option maxRecDepth 20000 in
theorem wd_202 : Cond.codeWith yL_tick cL_tick 4 (some .int) [(0, 9, 12, 13), (0, 9, 15, 15)] ∈ GT := in_gt (in_t3 (List.mem_of_getElem? (i := 72) rfl)) (by decide +kernel)
set_option maxRecDepth 20000 in
theorem wd_203 : Cond.methodLink "BadgeZonesLaw" 129 yL_tick ∈ GT := in_gt (in_t3 (List.mem_of_getElem? (i := 70) rfl)) (by decide +kernel)
set_option maxRecDepth 20000 in
theorem wd_204 : Cond.static yL_tick ∈ GT := in_gt (in_t3 (List.mem_of_getElem? (i := 71) rfl)) (by decide +kernel)
set_option maxRecDepth 20000 in
theorem wd_205 : Cond.code yX5_tick cX5_tick 2 (some .int) ∈ GT := in_gt (in_t4 (List.mem_of_getElem? (i := 139) rfl)) (by decide +kernel)
set_option maxRecDepth 20000 in
theorem wd_206 : Cond.methodLink "BadgeZonesLaw" 131 yX5_tick ∈ GT := in_gt (in_t4 (List.mem_of_getElem? (i := 136) rfl)) (by decide +kernel)
set_option maxRecDepth 20000 in
theorem wd_207 : Cond.instanceMethod yX5_tick ∈ GT := in_gt (in_t4 (List.mem_of_getElem? (i := 137) rfl)) (by decide +kernel)
set_option maxRecDepth 20000 in
theorem wd_208 : Cond.selects "BadgeZonesModel" yX5_tick yX5_tick ∈ GT := in_gt (in_t4 (List.mem_of_getElem? (i := 138) rfl)) (by decide +kernel)
set_option maxRecDepth 20000 in
theorem wd_209 : Cond.code yX4_alarm cX4_alarm 3 (some .boolean) ∈ GT := in_gt (in_t1 (List.mem_of_getElem? (i := 170) rfl)) (by decide +kernel)
set_option maxRecDepth 20000 in
theorem wd_210 : Cond.methodLink "BadgeZonesLaw" 132 yX4_alarm ∈ GT := in_gt (in_t1 (List.mem_of_getElem? (i := 167) rfl)) (by decide +kernel)
set_option maxRecDepth 20000 in
theorem wd_211 : Cond.instanceMethod yX4_alarm ∈ GT := in_gt (in_t1 (List.mem_of_getElem? (i := 168) rfl)) (by decide +kernel)
set_option maxRecDepth 20000 in
theorem wd_212 : Cond.selects "BadgeZones" yX4_alarm yX4_alarm ∈ GT := in_gt (in_t1 (List.mem_of_getElem? (i := 169) rfl)) (by decide +kernel)
set_option maxRecDepth 20000 in
theorem wd_213 : Cond.code yX5_alarm cX5_alarm 3 (some .boolean) ∈ GT := in_gt (in_t4 (List.mem_of_getElem? (i := 144) rfl)) (by decide +kernel)
set_option maxRecDepth 20000 in
theorem wd_214 : Cond.methodLink "BadgeZonesLaw" 136 yX5_alarm ∈ GT := in_gt (in_t4 (List.mem_of_getElem? (i := 141) rfl)) (by decide +kernel)
set_option maxRecDepth 20000 in
theorem wd_215 : Cond.instanceMethod yX5_alarm ∈ GT := in_gt (in_t4 (List.mem_of_getElem? (i := 142) rfl)) (by decide +kernel)
set_option maxRecDepth 20000 in
theorem wd_216 : Cond.selects "BadgeZonesModel" yX5_alarm yX5_alarm ∈ GT := in_gt (in_t4 (List.mem_of_getElem? (i := 143) rfl)) (by decide +kernel)
set_option maxRecDepth 20000 in
theorem wd_217 : Cond.codeWith yL_request cL_request 5 (some .int) [(0, 10, 13, 21)] ∈ GT := in_gt (in_t3 (List.mem_of_getElem? (i := 82) rfl)) (by decide +kernel)
set_option maxRecDepth 20000 in
theorem wd_218 : Cond.methodLink "BadgeZonesLaw" 137 yL_request ∈ GT := in_gt (in_t3 (List.mem_of_getElem? (i := 80) rfl)) (by decide +kernel)
set_option maxRecDepth 20000 in
theorem wd_219 : Cond.static yL_request ∈ GT := in_gt (in_t3 (List.mem_of_getElem? (i := 81) rfl)) (by decide +kernel)
set_option maxRecDepth 20000 in
theorem wd_220 : Cond.code yX5_request cX5_request 4 (some .int) ∈ GT := in_gt (in_t4 (List.mem_of_getElem? (i := 148) rfl)) (by decide +kernel)
set_option maxRecDepth 20000 in
theorem wd_221 : Cond.methodLink "BadgeZonesLaw" 139 yX5_request ∈ GT := in_gt (in_t4 (List.mem_of_getElem? (i := 145) rfl)) (by decide +kernel)
set_option maxRecDepth 20000 in
theorem wd_222 : Cond.instanceMethod yX5_request ∈ GT := in_gt (in_t4 (List.mem_of_getElem? (i := 146) rfl)) (by decide +kernel)
set_option maxRecDepth 20000 in
theorem wd_223 : Cond.selects "BadgeZonesModel" yX5_request yX5_request ∈ GT := in_gt (in_t4 (List.mem_of_getElem? (i := 147) rfl)) (by decide +kernel)
set_option maxRecDepth 20000 in
theorem wd_224 : Cond.codeWith yL_wouldBe cL_wouldBe 5 (some .int) [(0, 10, 13, 21)] ∈ GT := in_gt (in_t3 (List.mem_of_getElem? (i := 142) rfl)) (by decide +kernel)
set_option maxRecDepth 20000 in
theorem wd_225 : Cond.methodLink "BadgeZonesLaw" 140 yL_wouldBe ∈ GT := in_gt (in_t3 (List.mem_of_getElem? (i := 140) rfl)) (by decide +kernel)
set_option maxRecDepth 20000 in
theorem wd_226 : Cond.static yL_wouldBe ∈ GT := in_gt (in_t3 (List.mem_of_getElem? (i := 141) rfl)) (by decide +kernel)
set_option maxRecDepth 20000 in
theorem wd_227 : Cond.code yX5_wouldBe cX5_wouldBe 3 (some .int) ∈ GT := in_gt (in_t4 (List.mem_of_getElem? (i := 181) rfl)) (by decide +kernel)
set_option maxRecDepth 20000 in
theorem wd_228 : Cond.methodLink "BadgeZonesLaw" 142 yX5_wouldBe ∈ GT := in_gt (in_t4 (List.mem_of_getElem? (i := 178) rfl)) (by decide +kernel)
set_option maxRecDepth 20000 in
theorem wd_229 : Cond.instanceMethod yX5_wouldBe ∈ GT := in_gt (in_t4 (List.mem_of_getElem? (i := 179) rfl)) (by decide +kernel)
set_option maxRecDepth 20000 in
theorem wd_230 : Cond.selects "BadgeZonesModel" yX5_wouldBe yX5_wouldBe ∈ GT := in_gt (in_t4 (List.mem_of_getElem? (i := 180) rfl)) (by decide +kernel)
set_option maxRecDepth 20000 in
theorem wd_231 : Cond.code yX4_now cX4_now 1 (some .int) ∈ GT := in_gt (in_t1 (List.mem_of_getElem? (i := 174) rfl)) (by decide +kernel)
set_option maxRecDepth 20000 in
theorem wd_232 : Cond.methodLink "BadgeZonesLaw" 143 yX4_now ∈ GT := in_gt (in_t1 (List.mem_of_getElem? (i := 171) rfl)) (by decide +kernel)
set_option maxRecDepth 20000 in
theorem wd_233 : Cond.instanceMethod yX4_now ∈ GT := in_gt (in_t1 (List.mem_of_getElem? (i := 172) rfl)) (by decide +kernel)
set_option maxRecDepth 20000 in
theorem wd_234 : Cond.selects "BadgeZones" yX4_now yX4_now ∈ GT := in_gt (in_t1 (List.mem_of_getElem? (i := 173) rfl)) (by decide +kernel)
set_option maxRecDepth 20000 in
theorem wd_235 : Cond.code yX5_now cX5_now 1 (some .int) ∈ GT := in_gt (in_t4 (List.mem_of_getElem? (i := 185) rfl)) (by decide +kernel)
set_option maxRecDepth 20000 in
theorem wd_236 : Cond.methodLink "BadgeZonesLaw" 146 yX5_now ∈ GT := in_gt (in_t4 (List.mem_of_getElem? (i := 182) rfl)) (by decide +kernel)
set_option maxRecDepth 20000 in
theorem wd_237 : Cond.instanceMethod yX5_now ∈ GT := in_gt (in_t4 (List.mem_of_getElem? (i := 183) rfl)) (by decide +kernel)
set_option maxRecDepth 20000 in
theorem wd_238 : Cond.selects "BadgeZonesModel" yX5_now yX5_now ∈ GT := in_gt (in_t4 (List.mem_of_getElem? (i := 184) rfl)) (by decide +kernel)
set_option maxRecDepth 20000 in
theorem wd_239 : Cond.codeWith yL_inside cL_inside 4 (some .int) [(0, 9, 12, 21)] ∈ GT := in_gt (in_t3 (List.mem_of_getElem? (i := 149) rfl)) (by decide +kernel)
set_option maxRecDepth 20000 in
theorem wd_240 : Cond.methodLink "BadgeZonesLaw" 147 yL_inside ∈ GT := in_gt (in_t3 (List.mem_of_getElem? (i := 147) rfl)) (by decide +kernel)
set_option maxRecDepth 20000 in
theorem wd_241 : Cond.static yL_inside ∈ GT := in_gt (in_t3 (List.mem_of_getElem? (i := 148) rfl)) (by decide +kernel)
set_option maxRecDepth 20000 in
theorem wd_242 : Cond.code yX5_inside cX5_inside 2 (some .int) ∈ GT := in_gt (in_t4 (List.mem_of_getElem? (i := 189) rfl)) (by decide +kernel)
set_option maxRecDepth 20000 in
theorem wd_243 : Cond.methodLink "BadgeZonesLaw" 149 yX5_inside ∈ GT := in_gt (in_t4 (List.mem_of_getElem? (i := 186) rfl)) (by decide +kernel)
set_option maxRecDepth 20000 in
theorem wd_244 : Cond.instanceMethod yX5_inside ∈ GT := in_gt (in_t4 (List.mem_of_getElem? (i := 187) rfl)) (by decide +kernel)
set_option maxRecDepth 20000 in
theorem wd_245 : Cond.selects "BadgeZonesModel" yX5_inside yX5_inside ∈ GT := in_gt (in_t4 (List.mem_of_getElem? (i := 188) rfl)) (by decide +kernel)
set_option maxRecDepth 20000 in
theorem wd_246 : Cond.code yX4_alone cX4_alone 3 (some .int) ∈ GT := in_gt (in_t1 (List.mem_of_getElem? (i := 178) rfl)) (by decide +kernel)
set_option maxRecDepth 20000 in
theorem wd_247 : Cond.methodLink "BadgeZonesLaw" 150 yX4_alone ∈ GT := in_gt (in_t1 (List.mem_of_getElem? (i := 175) rfl)) (by decide +kernel)
set_option maxRecDepth 20000 in
theorem wd_248 : Cond.instanceMethod yX4_alone ∈ GT := in_gt (in_t1 (List.mem_of_getElem? (i := 176) rfl)) (by decide +kernel)
set_option maxRecDepth 20000 in
theorem wd_249 : Cond.selects "BadgeZones" yX4_alone yX4_alone ∈ GT := in_gt (in_t1 (List.mem_of_getElem? (i := 177) rfl)) (by decide +kernel)
set_option maxRecDepth 20000 in
theorem wd_250 : Cond.code yX5_alone cX5_alone 3 (some .int) ∈ GT := in_gt (in_t4 (List.mem_of_getElem? (i := 193) rfl)) (by decide +kernel)
set_option maxRecDepth 20000 in
theorem wd_251 : Cond.methodLink "BadgeZonesLaw" 153 yX5_alone ∈ GT := in_gt (in_t4 (List.mem_of_getElem? (i := 190) rfl)) (by decide +kernel)
set_option maxRecDepth 20000 in
theorem wd_252 : Cond.instanceMethod yX5_alone ∈ GT := in_gt (in_t4 (List.mem_of_getElem? (i := 191) rfl)) (by decide +kernel)
set_option maxRecDepth 20000 in
theorem wd_253 : Cond.selects "BadgeZonesModel" yX5_alone yX5_alone ∈ GT := in_gt (in_t4 (List.mem_of_getElem? (i := 192) rfl)) (by decide +kernel)
set_option maxRecDepth 20000 in
theorem wd_254 : Cond.codeWith yL_wasIn cL_wasIn 5 (some .int) [(0, 10, 13, 21), (0, 10, 17, 13)] ∈ GT := in_gt (in_t3 (List.mem_of_getElem? (i := 156) rfl)) (by decide +kernel)
set_option maxRecDepth 20000 in
theorem wd_255 : Cond.methodLink "BadgeZonesLaw" 154 yL_wasIn ∈ GT := in_gt (in_t3 (List.mem_of_getElem? (i := 154) rfl)) (by decide +kernel)
set_option maxRecDepth 20000 in
theorem wd_256 : Cond.static yL_wasIn ∈ GT := in_gt (in_t3 (List.mem_of_getElem? (i := 155) rfl)) (by decide +kernel)
set_option maxRecDepth 20000 in
theorem wd_257 : Cond.code yX5_wasIn cX5_wasIn 5 (some .int) ∈ GT := in_gt (in_t4 (List.mem_of_getElem? (i := 197) rfl)) (by decide +kernel)
set_option maxRecDepth 20000 in
theorem wd_258 : Cond.methodLink "BadgeZonesLaw" 156 yX5_wasIn ∈ GT := in_gt (in_t4 (List.mem_of_getElem? (i := 194) rfl)) (by decide +kernel)
set_option maxRecDepth 20000 in
theorem wd_259 : Cond.instanceMethod yX5_wasIn ∈ GT := in_gt (in_t4 (List.mem_of_getElem? (i := 195) rfl)) (by decide +kernel)
set_option maxRecDepth 20000 in
theorem wd_260 : Cond.selects "BadgeZonesModel" yX5_wasIn yX5_wasIn ∈ GT := in_gt (in_t4 (List.mem_of_getElem? (i := 196) rfl)) (by decide +kernel)
set_option maxRecDepth 20000 in
theorem wd_261 : Cond.codeWith yL_minutesIn cL_minutesIn 5 (some .int) [(0, 10, 13, 21)] ∈ GT := in_gt (in_t3 (List.mem_of_getElem? (i := 169) rfl)) (by decide +kernel)
set_option maxRecDepth 20000 in
theorem wd_262 : Cond.methodLink "BadgeZonesLaw" 157 yL_minutesIn ∈ GT := in_gt (in_t3 (List.mem_of_getElem? (i := 167) rfl)) (by decide +kernel)
set_option maxRecDepth 20000 in
theorem wd_263 : Cond.static yL_minutesIn ∈ GT := in_gt (in_t3 (List.mem_of_getElem? (i := 168) rfl)) (by decide +kernel)
set_option maxRecDepth 20000 in
theorem wd_264 : Cond.code yX5_minutesIn cX5_minutesIn 7 (some .int) ∈ GT := in_gt (in_t4 (List.mem_of_getElem? (i := 201) rfl)) (by decide +kernel)
set_option maxRecDepth 20000 in
theorem wd_265 : Cond.methodLink "BadgeZonesLaw" 159 yX5_minutesIn ∈ GT := in_gt (in_t4 (List.mem_of_getElem? (i := 198) rfl)) (by decide +kernel)
set_option maxRecDepth 20000 in
theorem wd_266 : Cond.instanceMethod yX5_minutesIn ∈ GT := in_gt (in_t4 (List.mem_of_getElem? (i := 199) rfl)) (by decide +kernel)
set_option maxRecDepth 20000 in
theorem wd_267 : Cond.selects "BadgeZonesModel" yX5_minutesIn yX5_minutesIn ∈ GT := in_gt (in_t4 (List.mem_of_getElem? (i := 200) rfl)) (by decide +kernel)
set_option maxRecDepth 20000 in
theorem wd_268 : Cond.code yX4_presence cX4_presence 2 (some .double) ∈ GT := in_gt (in_t1 (List.mem_of_getElem? (i := 205) rfl)) (by decide +kernel)
set_option maxRecDepth 20000 in
theorem wd_269 : Cond.methodLink "BadgeZonesLaw" 160 yX4_presence ∈ GT := in_gt (in_t1 (List.mem_of_getElem? (i := 202) rfl)) (by decide +kernel)
set_option maxRecDepth 20000 in
theorem wd_270 : Cond.instanceMethod yX4_presence ∈ GT := in_gt (in_t1 (List.mem_of_getElem? (i := 203) rfl)) (by decide +kernel)
set_option maxRecDepth 20000 in
theorem wd_271 : Cond.selects "BadgeZones" yX4_presence yX4_presence ∈ GT := in_gt (in_t1 (List.mem_of_getElem? (i := 204) rfl)) (by decide +kernel)
set_option maxRecDepth 20000 in
theorem wd_272 : Cond.code yX5_presence cX5_presence 1 (some .double) ∈ GT := in_gt (in_t4 (List.mem_of_getElem? (i := 205) rfl)) (by decide +kernel)
set_option maxRecDepth 20000 in
theorem wd_273 : Cond.methodLink "BadgeZonesLaw" 164 yX5_presence ∈ GT := in_gt (in_t4 (List.mem_of_getElem? (i := 202) rfl)) (by decide +kernel)
set_option maxRecDepth 20000 in
theorem wd_274 : Cond.instanceMethod yX5_presence ∈ GT := in_gt (in_t4 (List.mem_of_getElem? (i := 203) rfl)) (by decide +kernel)
set_option maxRecDepth 20000 in
theorem wd_275 : Cond.selects "BadgeZonesModel" yX5_presence yX5_presence ∈ GT := in_gt (in_t4 (List.mem_of_getElem? (i := 204) rfl)) (by decide +kernel)
set_option maxRecDepth 20000 in
theorem wd_276 : Cond.codeWith yL_way cL_way 5 (some .int) [(0, 10, 13, 21)] ∈ GT := in_gt (in_t3 (List.mem_of_getElem? (i := 180) rfl)) (by decide +kernel)
set_option maxRecDepth 20000 in
theorem wd_277 : Cond.methodLink "BadgeZonesLaw" 165 yL_way ∈ GT := in_gt (in_t3 (List.mem_of_getElem? (i := 178) rfl)) (by decide +kernel)
set_option maxRecDepth 20000 in
theorem wd_278 : Cond.static yL_way ∈ GT := in_gt (in_t3 (List.mem_of_getElem? (i := 179) rfl)) (by decide +kernel)
set_option maxRecDepth 20000 in
theorem wd_279 : Cond.code yX5_way cX5_way 3 (some .int) ∈ GT := in_gt (in_t4 (List.mem_of_getElem? (i := 209) rfl)) (by decide +kernel)
set_option maxRecDepth 20000 in
theorem wd_280 : Cond.methodLink "BadgeZonesLaw" 167 yX5_way ∈ GT := in_gt (in_t4 (List.mem_of_getElem? (i := 206) rfl)) (by decide +kernel)
set_option maxRecDepth 20000 in
theorem wd_281 : Cond.instanceMethod yX5_way ∈ GT := in_gt (in_t4 (List.mem_of_getElem? (i := 207) rfl)) (by decide +kernel)
set_option maxRecDepth 20000 in
theorem wd_282 : Cond.selects "BadgeZonesModel" yX5_way yX5_way ∈ GT := in_gt (in_t4 (List.mem_of_getElem? (i := 208) rfl)) (by decide +kernel)
set_option maxRecDepth 20000 in
theorem wd_283 : Cond.codeWith yL_next cL_next 5 (some .int) [(0, 10, 13, 21)] ∈ GT := in_gt (in_t3 (List.mem_of_getElem? (i := 191) rfl)) (by decide +kernel)
set_option maxRecDepth 20000 in
theorem wd_284 : Cond.methodLink "BadgeZonesLaw" 168 yL_next ∈ GT := in_gt (in_t3 (List.mem_of_getElem? (i := 189) rfl)) (by decide +kernel)
set_option maxRecDepth 20000 in
theorem wd_285 : Cond.static yL_next ∈ GT := in_gt (in_t3 (List.mem_of_getElem? (i := 190) rfl)) (by decide +kernel)
set_option maxRecDepth 20000 in
theorem wd_286 : Cond.code yX5_next cX5_next 7 (some .int) ∈ GT := in_gt (in_t4 (List.mem_of_getElem? (i := 221) rfl)) (by decide +kernel)
set_option maxRecDepth 20000 in
theorem wd_287 : Cond.methodLink "BadgeZonesLaw" 170 yX5_next ∈ GT := in_gt (in_t4 (List.mem_of_getElem? (i := 218) rfl)) (by decide +kernel)
set_option maxRecDepth 20000 in
theorem wd_288 : Cond.instanceMethod yX5_next ∈ GT := in_gt (in_t4 (List.mem_of_getElem? (i := 219) rfl)) (by decide +kernel)
set_option maxRecDepth 20000 in
theorem wd_289 : Cond.selects "BadgeZonesModel" yX5_next yX5_next ∈ GT := in_gt (in_t4 (List.mem_of_getElem? (i := 220) rfl)) (by decide +kernel)
set_option maxRecDepth 20000 in
theorem wd_290 : Cond.codeWith yL_canCome cL_canCome 4 (some .int) [(0, 9, 12, 21)] ∈ GT := in_gt (in_t3 (List.mem_of_getElem? (i := 202) rfl)) (by decide +kernel)
set_option maxRecDepth 20000 in
theorem wd_291 : Cond.methodLink "BadgeZonesLaw" 171 yL_canCome ∈ GT := in_gt (in_t3 (List.mem_of_getElem? (i := 200) rfl)) (by decide +kernel)
set_option maxRecDepth 20000 in
theorem wd_292 : Cond.static yL_canCome ∈ GT := in_gt (in_t3 (List.mem_of_getElem? (i := 201) rfl)) (by decide +kernel)
set_option maxRecDepth 20000 in
theorem wd_293 : Cond.code yX5_canCome cX5_canCome 4 (some .int) ∈ GT := in_gt (in_t4 (List.mem_of_getElem? (i := 225) rfl)) (by decide +kernel)
set_option maxRecDepth 20000 in
theorem wd_294 : Cond.methodLink "BadgeZonesLaw" 173 yX5_canCome ∈ GT := in_gt (in_t4 (List.mem_of_getElem? (i := 222) rfl)) (by decide +kernel)
set_option maxRecDepth 20000 in
theorem wd_295 : Cond.instanceMethod yX5_canCome ∈ GT := in_gt (in_t4 (List.mem_of_getElem? (i := 223) rfl)) (by decide +kernel)
set_option maxRecDepth 20000 in
theorem wd_296 : Cond.selects "BadgeZonesModel" yX5_canCome yX5_canCome ∈ GT := in_gt (in_t4 (List.mem_of_getElem? (i := 224) rfl)) (by decide +kernel)
set_option maxRecDepth 20000 in
theorem wd_297 : Cond.code yX4_digest cX4_digest 6 (some .long) ∈ GT := in_gt (in_t1 (List.mem_of_getElem? (i := 223) rfl)) (by decide +kernel)
set_option maxRecDepth 20000 in
theorem wd_298 : Cond.methodLink "BadgeZonesLaw" 174 yX4_digest ∈ GT := in_gt (in_t1 (List.mem_of_getElem? (i := 220) rfl)) (by decide +kernel)
set_option maxRecDepth 20000 in
theorem wd_299 : Cond.instanceMethod yX4_digest ∈ GT := in_gt (in_t1 (List.mem_of_getElem? (i := 221) rfl)) (by decide +kernel)
set_option maxRecDepth 20000 in
theorem wd_300 : Cond.selects "BadgeZones" yX4_digest yX4_digest ∈ GT := in_gt (in_t1 (List.mem_of_getElem? (i := 222) rfl)) (by decide +kernel)
set_option maxRecDepth 20000 in
theorem wd_301 : Cond.code yX5_digest cX5_digest 5 (some .long) ∈ GT := in_gt (in_t4 (List.mem_of_getElem? (i := 229) rfl)) (by decide +kernel)
set_option maxRecDepth 20000 in
theorem wd_302 : Cond.methodLink "BadgeZonesLaw" 178 yX5_digest ∈ GT := in_gt (in_t4 (List.mem_of_getElem? (i := 226) rfl)) (by decide +kernel)
set_option maxRecDepth 20000 in
theorem wd_303 : Cond.instanceMethod yX5_digest ∈ GT := in_gt (in_t4 (List.mem_of_getElem? (i := 227) rfl)) (by decide +kernel)
set_option maxRecDepth 20000 in
theorem wd_304 : Cond.selects "BadgeZonesModel" yX5_digest yX5_digest ∈ GT := in_gt (in_t4 (List.mem_of_getElem? (i := 228) rfl)) (by decide +kernel)
set_option maxRecDepth 20000 in
theorem wd_305 : Cond.code yX4_minutesIn cX4_minutesIn 4 (some .int) ∈ GT := in_gt (in_t3 (List.mem_of_getElem? (i := 173) rfl)) (by decide +kernel)
set_option maxRecDepth 20000 in
theorem wd_306 : Cond.methodLink "BadgeZonesLaw" 69 yX4_minutesIn ∈ GT := in_gt (in_t3 (List.mem_of_getElem? (i := 170) rfl)) (by decide +kernel)
set_option maxRecDepth 20000 in
theorem wd_307 : Cond.instanceMethod yX4_minutesIn ∈ GT := in_gt (in_t3 (List.mem_of_getElem? (i := 171) rfl)) (by decide +kernel)
set_option maxRecDepth 20000 in
theorem wd_308 : Cond.selects "BadgeZones" yX4_minutesIn yX4_minutesIn ∈ GT := in_gt (in_t3 (List.mem_of_getElem? (i := 172) rfl)) (by decide +kernel)
set_option maxRecDepth 20000 in
theorem wd_309 : Cond.code yX4_next cX4_next 4 (some .int) ∈ GT := in_gt (in_t3 (List.mem_of_getElem? (i := 195) rfl)) (by decide +kernel)
set_option maxRecDepth 20000 in
theorem wd_310 : Cond.methodLink "BadgeZonesLaw" 75 yX4_next ∈ GT := in_gt (in_t3 (List.mem_of_getElem? (i := 192) rfl)) (by decide +kernel)
set_option maxRecDepth 20000 in
theorem wd_311 : Cond.instanceMethod yX4_next ∈ GT := in_gt (in_t3 (List.mem_of_getElem? (i := 193) rfl)) (by decide +kernel)
set_option maxRecDepth 20000 in
theorem wd_312 : Cond.selects "BadgeZones" yX4_next yX4_next ∈ GT := in_gt (in_t3 (List.mem_of_getElem? (i := 194) rfl)) (by decide +kernel)
set_option maxRecDepth 20000 in
theorem wd_313 : Cond.code yX4_openFor cX4_openFor 2 (some .int) ∈ GT := in_gt (in_t2 (List.mem_of_getElem? (i := 201) rfl)) (by decide +kernel)
set_option maxRecDepth 20000 in
theorem wd_314 : Cond.methodLink "BadgeZonesLaw" 34 yX4_openFor ∈ GT := in_gt (in_t2 (List.mem_of_getElem? (i := 198) rfl)) (by decide +kernel)
set_option maxRecDepth 20000 in
theorem wd_315 : Cond.instanceMethod yX4_openFor ∈ GT := in_gt (in_t2 (List.mem_of_getElem? (i := 199) rfl)) (by decide +kernel)
set_option maxRecDepth 20000 in
theorem wd_316 : Cond.selects "BadgeZones" yX4_openFor yX4_openFor ∈ GT := in_gt (in_t2 (List.mem_of_getElem? (i := 200) rfl)) (by decide +kernel)
set_option maxRecDepth 20000 in
theorem wd_317 : Cond.code yX4_request cX4_request 6 (some .int) ∈ GT := in_gt (in_t3 (List.mem_of_getElem? (i := 86) rfl)) (by decide +kernel)
set_option maxRecDepth 20000 in
theorem wd_318 : Cond.methodLink "BadgeZonesLaw" 57 yX4_request ∈ GT := in_gt (in_t3 (List.mem_of_getElem? (i := 83) rfl)) (by decide +kernel)
set_option maxRecDepth 20000 in
theorem wd_319 : Cond.instanceMethod yX4_request ∈ GT := in_gt (in_t3 (List.mem_of_getElem? (i := 84) rfl)) (by decide +kernel)
set_option maxRecDepth 20000 in
theorem wd_320 : Cond.selects "BadgeZones" yX4_request yX4_request ∈ GT := in_gt (in_t3 (List.mem_of_getElem? (i := 85) rfl)) (by decide +kernel)
set_option maxRecDepth 20000 in
theorem wd_321 : Cond.code yX4_setRights cX4_setRights 5 (some .int) ∈ GT := in_gt (in_t3 (List.mem_of_getElem? (i := 53) rfl)) (by decide +kernel)
set_option maxRecDepth 20000 in
theorem wd_322 : Cond.methodLink "BadgeZonesLaw" 43 yX4_setRights ∈ GT := in_gt (in_t3 (List.mem_of_getElem? (i := 50) rfl)) (by decide +kernel)
set_option maxRecDepth 20000 in
theorem wd_323 : Cond.instanceMethod yX4_setRights ∈ GT := in_gt (in_t3 (List.mem_of_getElem? (i := 51) rfl)) (by decide +kernel)
set_option maxRecDepth 20000 in
theorem wd_324 : Cond.selects "BadgeZones" yX4_setRights yX4_setRights ∈ GT := in_gt (in_t3 (List.mem_of_getElem? (i := 52) rfl)) (by decide +kernel)
set_option maxRecDepth 20000 in
theorem wd_325 : Cond.code yX4_setZone cX4_setZone 6 (some .int) ∈ GT := in_gt (in_t2 (List.mem_of_getElem? (i := 114) rfl)) (by decide +kernel)
set_option maxRecDepth 20000 in
theorem wd_326 : Cond.methodLink "BadgeZonesLaw" 17 yX4_setZone ∈ GT := in_gt (in_t2 (List.mem_of_getElem? (i := 111) rfl)) (by decide +kernel)
set_option maxRecDepth 20000 in
theorem wd_327 : Cond.instanceMethod yX4_setZone ∈ GT := in_gt (in_t2 (List.mem_of_getElem? (i := 112) rfl)) (by decide +kernel)
set_option maxRecDepth 20000 in
theorem wd_328 : Cond.selects "BadgeZones" yX4_setZone yX4_setZone ∈ GT := in_gt (in_t2 (List.mem_of_getElem? (i := 113) rfl)) (by decide +kernel)
set_option maxRecDepth 20000 in
theorem wd_329 : Cond.code yX4_tick cX4_tick 2 (some .int) ∈ GT := in_gt (in_t3 (List.mem_of_getElem? (i := 76) rfl)) (by decide +kernel)
set_option maxRecDepth 20000 in
theorem wd_330 : Cond.methodLink "BadgeZonesLaw" 54 yX4_tick ∈ GT := in_gt (in_t3 (List.mem_of_getElem? (i := 73) rfl)) (by decide +kernel)
set_option maxRecDepth 20000 in
theorem wd_331 : Cond.instanceMethod yX4_tick ∈ GT := in_gt (in_t3 (List.mem_of_getElem? (i := 74) rfl)) (by decide +kernel)
set_option maxRecDepth 20000 in
theorem wd_332 : Cond.selects "BadgeZones" yX4_tick yX4_tick ∈ GT := in_gt (in_t3 (List.mem_of_getElem? (i := 75) rfl)) (by decide +kernel)
set_option maxRecDepth 20000 in
theorem wd_333 : Cond.code yX4_wasIn cX4_wasIn 4 (some .int) ∈ GT := in_gt (in_t3 (List.mem_of_getElem? (i := 160) rfl)) (by decide +kernel)
set_option maxRecDepth 20000 in
theorem wd_334 : Cond.methodLink "BadgeZonesLaw" 66 yX4_wasIn ∈ GT := in_gt (in_t3 (List.mem_of_getElem? (i := 157) rfl)) (by decide +kernel)
set_option maxRecDepth 20000 in
theorem wd_335 : Cond.instanceMethod yX4_wasIn ∈ GT := in_gt (in_t3 (List.mem_of_getElem? (i := 158) rfl)) (by decide +kernel)
set_option maxRecDepth 20000 in
theorem wd_336 : Cond.selects "BadgeZones" yX4_wasIn yX4_wasIn ∈ GT := in_gt (in_t3 (List.mem_of_getElem? (i := 159) rfl)) (by decide +kernel)
set_option maxRecDepth 20000 in
theorem wd_337 : Cond.code yX4_way cX4_way 4 (some .int) ∈ GT := in_gt (in_t3 (List.mem_of_getElem? (i := 184) rfl)) (by decide +kernel)
set_option maxRecDepth 20000 in
theorem wd_338 : Cond.methodLink "BadgeZonesLaw" 72 yX4_way ∈ GT := in_gt (in_t3 (List.mem_of_getElem? (i := 181) rfl)) (by decide +kernel)
set_option maxRecDepth 20000 in
theorem wd_339 : Cond.instanceMethod yX4_way ∈ GT := in_gt (in_t3 (List.mem_of_getElem? (i := 182) rfl)) (by decide +kernel)
set_option maxRecDepth 20000 in
theorem wd_340 : Cond.selects "BadgeZones" yX4_way yX4_way ∈ GT := in_gt (in_t3 (List.mem_of_getElem? (i := 183) rfl)) (by decide +kernel)
set_option maxRecDepth 20000 in
theorem wd_341 : Cond.code yX4_wouldBe cX4_wouldBe 4 (some .int) ∈ GT := in_gt (in_t3 (List.mem_of_getElem? (i := 146) rfl)) (by decide +kernel)
set_option maxRecDepth 20000 in
theorem wd_342 : Cond.methodLink "BadgeZonesLaw" 60 yX4_wouldBe ∈ GT := in_gt (in_t3 (List.mem_of_getElem? (i := 143) rfl)) (by decide +kernel)
set_option maxRecDepth 20000 in
theorem wd_343 : Cond.instanceMethod yX4_wouldBe ∈ GT := in_gt (in_t3 (List.mem_of_getElem? (i := 144) rfl)) (by decide +kernel)
set_option maxRecDepth 20000 in
theorem wd_344 : Cond.selects "BadgeZones" yX4_wouldBe yX4_wouldBe ∈ GT := in_gt (in_t3 (List.mem_of_getElem? (i := 145) rfl)) (by decide +kernel)
set_option maxRecDepth 20000 in
theorem wd_345 : Cond.fieldLink "BadgeZones$Badge" 22 "BadgeZones$Badge" "refusals" "I" ∈ GT := in_gt (in_t3 (List.mem_of_getElem? (i := 17) rfl)) (by decide +kernel)
set_option maxRecDepth 20000 in
theorem wd_346 : Cond.fieldLink "BadgeZones$Badge" 18 "BadgeZones$Badge" "isBlocked" "Z" ∈ GT := in_gt (in_t3 (List.mem_of_getElem? (i := 15) rfl)) (by decide +kernel)
set_option maxRecDepth 20000 in
theorem wd_347 : Cond.fieldLink "BadgeZones$Badge" 41 "BadgeZones$Badge" "stay" "LBadgeZones$Stay;" ∈ GT := in_gt (in_t3 (List.mem_of_getElem? (i := 11) rfl)) (by decide +kernel)
set_option maxRecDepth 20000 in
theorem wd_348 : Cond.fieldLink "BadgeZones$Badge" 60 "BadgeZones$Stay" "since" "I" ∈ GT := in_gt (in_t3 (List.mem_of_getElem? (i := 0) rfl)) (by decide +kernel)
set_option maxRecDepth 20000 in
theorem wd_349 : Cond.fieldLink "BadgeZones$Badge" 12 "BadgeZones$Badge" "stays" "Ljava/util/ArrayList;" ∈ GT := in_gt (in_t3 (List.mem_of_getElem? (i := 10) rfl)) (by decide +kernel)
set_option maxRecDepth 20000 in
theorem wd_350 : Cond.code yJx4a65c_size_8abf5 cJx4a65c_size_8abf5 1 (some .int) ∈ GT := in_gt (in_t1 (List.mem_of_getElem? (i := 182) rfl)) (by decide +kernel)
set_option maxRecDepth 20000 in
theorem wd_351 : Cond.methodLink "BadgeZones$Badge" 63 yJx4a65c_size_8abf5 ∈ GT := in_gt (in_t3 (List.mem_of_getElem? (i := 131) rfl)) (by decide +kernel)
set_option maxRecDepth 20000 in
theorem wd_352 : Cond.instanceMethod yJx4a65c_size_8abf5 ∈ GT := in_gt (in_t1 (List.mem_of_getElem? (i := 180) rfl)) (by decide +kernel)
set_option maxRecDepth 20000 in
theorem wd_353 : Cond.selects "java/util/ArrayList" yJx4a65c_size_8abf5 yJx4a65c_size_8abf5 ∈ GT := in_gt (in_t1 (List.mem_of_getElem? (i := 181) rfl)) (by decide +kernel)
set_option maxRecDepth 20000 in
theorem wd_354 : Cond.fieldLink "BadgeZones$Badge" 56 "BadgeZones$Stay" "zone" "LBadgeZones$Zone;" ∈ GT := in_gt (in_t2 (List.mem_of_getElem? (i := 237) rfl)) (by decide +kernel)
set_option maxRecDepth 20000 in
theorem wd_355 : Cond.classLink "BadgeZones$Badge" 36 "BadgeZones$Stay" ∈ GT := in_gt (in_t2 (List.mem_of_getElem? (i := 230) rfl)) (by decide +kernel)
set_option maxRecDepth 20000 in
theorem wd_356 : Cond.code yX2_init cX2_init 3 none ∈ GT := in_gt (in_t2 (List.mem_of_getElem? (i := 234) rfl)) (by decide +kernel)
set_option maxRecDepth 20000 in
theorem wd_357 : Cond.methodLink "BadgeZones$Badge" 38 yX2_init ∈ GT := in_gt (in_t2 (List.mem_of_getElem? (i := 232) rfl)) (by decide +kernel)
set_option maxRecDepth 20000 in
theorem wd_358 : Cond.instanceMethod yX2_init ∈ GT := in_gt (in_t2 (List.mem_of_getElem? (i := 233) rfl)) (by decide +kernel)
set_option maxRecDepth 20000 in
theorem wd_359 : Cond.initialized "BadgeZones$Stay" ∈ GT := in_gt (in_t1 (List.mem_of_getElem? (i := 22) rfl)) (by decide +kernel)
set_option maxRecDepth 20000 in
theorem wd_360 : Cond.code yJx4a65c_add_9ea2d cJx4a65c_add_9ea2d 2 (some .boolean) ∈ GT := in_gt (in_t1 (List.mem_of_getElem? (i := 94) rfl)) (by decide +kernel)
set_option maxRecDepth 20000 in
theorem wd_361 : Cond.methodLink "BadgeZones$Badge" 45 yJx4a65c_add_9ea2d ∈ GT := in_gt (in_t3 (List.mem_of_getElem? (i := 6) rfl)) (by decide +kernel)
set_option maxRecDepth 20000 in
theorem wd_362 : Cond.instanceMethod yJx4a65c_add_9ea2d ∈ GT := in_gt (in_t1 (List.mem_of_getElem? (i := 92) rfl)) (by decide +kernel)
set_option maxRecDepth 20000 in
theorem wd_363 : Cond.selects "java/util/ArrayList" yJx4a65c_add_9ea2d yJx4a65c_add_9ea2d ∈ GT := in_gt (in_t1 (List.mem_of_getElem? (i := 93) rfl)) (by decide +kernel)
set_option maxRecDepth 20000 in
theorem wd_364 : Cond.fieldLink "BadgeZones$Badge" 49 "BadgeZones$Zone" "number" "I" ∈ GT := in_gt (in_t1 (List.mem_of_getElem? (i := 38) rfl)) (by decide +kernel)
set_option maxRecDepth 20000 in
theorem wd_365 : Cond.code yX0_rightsNow cX0_rightsNow 1 (some .int) ∈ GT := in_gt (in_t2 (List.mem_of_getElem? (i := 6) rfl)) (by decide +kernel)
set_option maxRecDepth 20000 in
theorem wd_366 : Cond.methodLink "BadgeZones$Badge" 52 yX0_rightsNow ∈ GT := in_gt (in_t2 (List.mem_of_getElem? (i := 3) rfl)) (by decide +kernel)
set_option maxRecDepth 20000 in
theorem wd_367 : Cond.instanceMethod yX0_rightsNow ∈ GT := in_gt (in_t2 (List.mem_of_getElem? (i := 4) rfl)) (by decide +kernel)
set_option maxRecDepth 20000 in
theorem wd_368 : Cond.selects "BadgeZones$Badge" yX0_rightsNow yX0_rightsNow ∈ GT := in_gt (in_t2 (List.mem_of_getElem? (i := 5) rfl)) (by decide +kernel)
set_option maxRecDepth 20000 in
theorem wd_369 : Cond.initialized "BadgeZones$Badge" ∈ GT := in_gt (in_t1 (List.mem_of_getElem? (i := 21) rfl)) (by decide +kernel)
set_option maxRecDepth 20000 in
theorem wd_370 : Cond.methodLink "BadgeZones$Badge" 3 ⟨"java/lang/Object", "<init>", "()V"⟩ ∈ GT := in_gt (in_t2 (List.mem_of_getElem? (i := 227) rfl)) (by decide +kernel)
set_option maxRecDepth 20000 in
theorem wd_371 : Cond.classLink "BadgeZones$Badge" 9 "java/util/ArrayList" ∈ GT := in_gt (in_t2 (List.mem_of_getElem? (i := 228) rfl)) (by decide +kernel)
set_option maxRecDepth 20000 in
theorem wd_372 : Cond.code yJx4a65c_init_da8c8 cJx4a65c_init_da8c8 1 none ∈ GT := in_gt (in_t1 (List.mem_of_getElem? (i := 69) rfl)) (by decide +kernel)
set_option maxRecDepth 20000 in
theorem wd_373 : Cond.methodLink "BadgeZones$Badge" 11 yJx4a65c_init_da8c8 ∈ GT := in_gt (in_t2 (List.mem_of_getElem? (i := 229) rfl)) (by decide +kernel)
set_option maxRecDepth 20000 in
theorem wd_374 : Cond.instanceMethod yJx4a65c_init_da8c8 ∈ GT := in_gt (in_t1 (List.mem_of_getElem? (i := 68) rfl)) (by decide +kernel)
set_option maxRecDepth 20000 in
theorem wd_375 : Cond.fieldLink "BadgeZones$Badge" 26 "BadgeZones$Badge" "number" "I" ∈ GT := in_gt (in_t3 (List.mem_of_getElem? (i := 7) rfl)) (by decide +kernel)
set_option maxRecDepth 20000 in
theorem wd_376 : Cond.fieldLink "BadgeZones$Badge" 29 "BadgeZones$Badge" "host" "LBadgeZones$Badge;" ∈ GT := in_gt (in_t3 (List.mem_of_getElem? (i := 8) rfl)) (by decide +kernel)
set_option maxRecDepth 20000 in
theorem wd_377 : Cond.fieldLink "BadgeZones$Badge" 33 "BadgeZones$Badge" "ownRights" "I" ∈ GT := in_gt (in_t3 (List.mem_of_getElem? (i := 13) rfl)) (by decide +kernel)
set_option maxRecDepth 20000 in
theorem wd_378 : Cond.code yJx4a65c_get_915e3 cJx4a65c_get_915e3 2 (some (.object "java/lang/Object")) ∈ GT := in_gt (in_t1 (List.mem_of_getElem? (i := 186) rfl)) (by decide +kernel)
set_option maxRecDepth 20000 in
theorem wd_379 : Cond.methodLink "BadgeZones$Badge" 66 yJx4a65c_get_915e3 ∈ GT := in_gt (in_t3 (List.mem_of_getElem? (i := 166) rfl)) (by decide +kernel)
set_option maxRecDepth 20000 in
theorem wd_380 : Cond.instanceMethod yJx4a65c_get_915e3 ∈ GT := in_gt (in_t1 (List.mem_of_getElem? (i := 184) rfl)) (by decide +kernel)
set_option maxRecDepth 20000 in
theorem wd_381 : Cond.selects "java/util/ArrayList" yJx4a65c_get_915e3 yJx4a65c_get_915e3 ∈ GT := in_gt (in_t1 (List.mem_of_getElem? (i := 185) rfl)) (by decide +kernel)
set_option maxRecDepth 20000 in
theorem wd_382 : Cond.fieldLink "BadgeZones$Door" 25 "BadgeZones$Door" "lock" "I" ∈ GT := in_gt (in_t2 (List.mem_of_getElem? (i := 153) rfl)) (by decide +kernel)
set_option maxRecDepth 20000 in
theorem wd_383 : Cond.methodLink "BadgeZones$Door" 3 ⟨"java/lang/Object", "<init>", "()V"⟩ ∈ GT := in_gt (in_t2 (List.mem_of_getElem? (i := 149) rfl)) (by decide +kernel)
set_option maxRecDepth 20000 in
theorem wd_384 : Cond.fieldLink "BadgeZones$Door" 9 "BadgeZones$Door" "openUntil" "I" ∈ GT := in_gt (in_t2 (List.mem_of_getElem? (i := 154) rfl)) (by decide +kernel)
set_option maxRecDepth 20000 in
theorem wd_385 : Cond.fieldLink "BadgeZones$Door" 15 "BadgeZones$Door" "sideA" "LBadgeZones$Zone;" ∈ GT := in_gt (in_t2 (List.mem_of_getElem? (i := 150) rfl)) (by decide +kernel)
set_option maxRecDepth 20000 in
theorem wd_386 : Cond.fieldLink "BadgeZones$Door" 19 "BadgeZones$Door" "sideB" "LBadgeZones$Zone;" ∈ GT := in_gt (in_t2 (List.mem_of_getElem? (i := 151) rfl)) (by decide +kernel)
set_option maxRecDepth 20000 in
theorem wd_387 : Cond.fieldLink "BadgeZones$Door" 22 "BadgeZones$Door" "hold" "I" ∈ GT := in_gt (in_t2 (List.mem_of_getElem? (i := 152) rfl)) (by decide +kernel)
set_option maxRecDepth 20000 in
theorem wd_388 : Cond.code yX1_measureFrom cX1_measureFrom 3 none ∈ GT := in_gt (in_t2 (List.mem_of_getElem? (i := 187) rfl)) (by decide +kernel)
set_option maxRecDepth 20000 in
theorem wd_389 : Cond.methodLink "BadgeZones$Door" 34 yX1_measureFrom ∈ GT := in_gt (in_t2 (List.mem_of_getElem? (i := 185) rfl)) (by decide +kernel)
set_option maxRecDepth 20000 in
theorem wd_390 : Cond.static yX1_measureFrom ∈ GT := in_gt (in_t2 (List.mem_of_getElem? (i := 186) rfl)) (by decide +kernel)
set_option maxRecDepth 20000 in
theorem wd_391 : Cond.initialized "BadgeZones$Door" ∈ GT := in_gt (in_t1 (List.mem_of_getElem? (i := 20) rfl)) (by decide +kernel)
set_option maxRecDepth 20000 in
theorem wd_392 : Cond.fieldLink "BadgeZones$Door" 38 "BadgeZones$Zone" "isOnTheWay" "Z" ∈ GT := in_gt (in_t1 (List.mem_of_getElem? (i := 47) rfl)) (by decide +kernel)
set_option maxRecDepth 20000 in
theorem wd_393 : Cond.fieldLink "BadgeZones$Door" 44 "BadgeZones$Zone" "doorsLeft" "I" ∈ GT := in_gt (in_t1 (List.mem_of_getElem? (i := 51) rfl)) (by decide +kernel)
set_option maxRecDepth 20000 in
theorem wd_394 : Cond.methodLink "BadgeZones$Door" 28 yJ9_max_7cf53 ∈ GT := in_gt (in_t1 (List.mem_of_getElem? (i := 238) rfl)) (by decide +kernel)
set_option maxRecDepth 20000 in
theorem wd_395 : Cond.methodLink "BadgeZones$Stay" 1 ⟨"java/lang/Object", "<init>", "()V"⟩ ∈ GT := in_gt (in_t2 (List.mem_of_getElem? (i := 235) rfl)) (by decide +kernel)
set_option maxRecDepth 20000 in
theorem wd_396 : Cond.fieldLink "BadgeZones$Stay" 7 "BadgeZones$Stay" "zone" "LBadgeZones$Zone;" ∈ GT := in_gt (in_t2 (List.mem_of_getElem? (i := 236) rfl)) (by decide +kernel)
set_option maxRecDepth 20000 in
theorem wd_397 : Cond.fieldLink "BadgeZones$Stay" 13 "BadgeZones$Stay" "since" "I" ∈ GT := in_gt (in_t2 (List.mem_of_getElem? (i := 239) rfl)) (by decide +kernel)
set_option maxRecDepth 20000 in
theorem wd_398 : Cond.fieldLink "BadgeZones$Zone" 28 "BadgeZones$Zone" "end" "I" ∈ GT := in_gt (in_t1 (List.mem_of_getElem? (i := 44) rfl)) (by decide +kernel)
set_option maxRecDepth 20000 in
theorem wd_399 : Cond.fieldLink "BadgeZones$Zone" 25 "BadgeZones$Zone" "begin" "I" ∈ GT := in_gt (in_t1 (List.mem_of_getElem? (i := 42) rfl)) (by decide +kernel)
set_option maxRecDepth 20000 in
theorem wd_400 : Cond.methodLink "BadgeZones$Zone" 3 ⟨"java/lang/Object", "<init>", "()V"⟩ ∈ GT := in_gt (in_t1 (List.mem_of_getElem? (i := 36) rfl)) (by decide +kernel)
set_option maxRecDepth 20000 in
theorem wd_401 : Cond.fieldLink "BadgeZones$Zone" 9 "BadgeZones$Zone" "isOnTheWay" "Z" ∈ GT := in_gt (in_t1 (List.mem_of_getElem? (i := 46) rfl)) (by decide +kernel)
set_option maxRecDepth 20000 in
theorem wd_402 : Cond.fieldLink "BadgeZones$Zone" 15 "BadgeZones$Zone" "doorsLeft" "I" ∈ GT := in_gt (in_t1 (List.mem_of_getElem? (i := 49) rfl)) (by decide +kernel)
set_option maxRecDepth 20000 in
theorem wd_403 : Cond.fieldLink "BadgeZones$Zone" 19 "BadgeZones$Zone" "number" "I" ∈ GT := in_gt (in_t1 (List.mem_of_getElem? (i := 37) rfl)) (by decide +kernel)
set_option maxRecDepth 20000 in
theorem wd_404 : Cond.fieldLink "BadgeZones$Zone" 22 "BadgeZones$Zone" "capacity" "I" ∈ GT := in_gt (in_t1 (List.mem_of_getElem? (i := 40) rfl)) (by decide +kernel)
set_option maxRecDepth 20000 in
theorem wd_405 : Cond.code yX4_checkRights cX4_checkRights 1 none ∈ GT := in_gt (in_t2 (List.mem_of_getElem? (i := 216) rfl)) (by decide +kernel)
set_option maxRecDepth 20000 in
theorem wd_406 : Cond.methodLink "BadgeZones" 114 yX4_checkRights ∈ GT := in_gt (in_t2 (List.mem_of_getElem? (i := 214) rfl)) (by decide +kernel)
set_option maxRecDepth 20000 in
theorem wd_407 : Cond.static yX4_checkRights ∈ GT := in_gt (in_t2 (List.mem_of_getElem? (i := 215) rfl)) (by decide +kernel)
set_option maxRecDepth 20000 in
theorem wd_408 : Cond.code yX4_keepBadge cX4_keepBadge 4 (some .int) ∈ GT := in_gt (in_t2 (List.mem_of_getElem? (i := 221) rfl)) (by decide +kernel)
set_option maxRecDepth 20000 in
theorem wd_409 : Cond.methodLink "BadgeZones" 118 yX4_keepBadge ∈ GT := in_gt (in_t2 (List.mem_of_getElem? (i := 218) rfl)) (by decide +kernel)
set_option maxRecDepth 20000 in
theorem wd_410 : Cond.instanceMethod yX4_keepBadge ∈ GT := in_gt (in_t2 (List.mem_of_getElem? (i := 220) rfl)) (by decide +kernel)
set_option maxRecDepth 20000 in
theorem wd_411 : Cond.selects "BadgeZones" yX4_keepBadge yX4_keepBadge ∈ GT := in_gt (List.mem_append_left _ (List.mem_map.mpr ⟨_, lw_pv 10 rfl, rfl⟩)) (by decide +kernel)
set_option maxRecDepth 20000 in
theorem wd_412 : Cond.code yX4_zoneAt cX4_zoneAt 2 (some (.object "BadgeZones$Zone")) ∈ GT := in_gt (in_t2 (List.mem_of_getElem? (i := 118) rfl)) (by decide +kernel)
set_option maxRecDepth 20000 in
theorem wd_413 : Cond.methodLink "BadgeZones" 58 yX4_zoneAt ∈ GT := in_gt (in_t2 (List.mem_of_getElem? (i := 115) rfl)) (by decide +kernel)
set_option maxRecDepth 20000 in
theorem wd_414 : Cond.instanceMethod yX4_zoneAt ∈ GT := in_gt (in_t2 (List.mem_of_getElem? (i := 117) rfl)) (by decide +kernel)
set_option maxRecDepth 20000 in
theorem wd_415 : Cond.selects "BadgeZones" yX4_zoneAt yX4_zoneAt ∈ GT := in_gt (List.mem_append_left _ (List.mem_map.mpr ⟨_, lw_pv 6 rfl, rfl⟩)) (by decide +kernel)
set_option maxRecDepth 20000 in
theorem wd_416 : Cond.code yX4_isWithin cX4_isWithin 3 (some .boolean) ∈ GT := in_gt (in_t2 (List.mem_of_getElem? (i := 21) rfl)) (by decide +kernel)
set_option maxRecDepth 20000 in
theorem wd_417 : Cond.methodLink "BadgeZones" 80 yX4_isWithin ∈ GT := in_gt (in_t2 (List.mem_of_getElem? (i := 19) rfl)) (by decide +kernel)
set_option maxRecDepth 20000 in
theorem wd_418 : Cond.static yX4_isWithin ∈ GT := in_gt (in_t2 (List.mem_of_getElem? (i := 20) rfl)) (by decide +kernel)
set_option maxRecDepth 20000 in
theorem wd_419 : Cond.classLink "BadgeZones" 84 "java/lang/IllegalArgumentException" ∈ GT := in_gt (in_t2 (List.mem_of_getElem? (i := 22) rfl)) (by decide +kernel)
set_option maxRecDepth 20000 in
theorem wd_420 : Cond.fieldLink "BadgeZones" 25 "BadgeZones" "doors" "Ljava/util/ArrayList;" ∈ GT := in_gt (in_t1 (List.mem_of_getElem? (i := 150) rfl)) (by decide +kernel)
set_option maxRecDepth 20000 in
theorem wd_421 : Cond.methodLink "BadgeZones" 47 yJx4a65c_size_8abf5 ∈ GT := in_gt (in_t1 (List.mem_of_getElem? (i := 179) rfl)) (by decide +kernel)
set_option maxRecDepth 20000 in
theorem wd_422 : Cond.classLink "BadgeZones" 51 "java/lang/IllegalStateException" ∈ GT := in_gt (in_t2 (List.mem_of_getElem? (i := 91) rfl)) (by decide +kernel)
set_option maxRecDepth 20000 in
theorem wd_423 : Cond.classLink "BadgeZones" 91 "BadgeZones$Door" ∈ GT := in_gt (in_t1 (List.mem_of_getElem? (i := 233) rfl)) (by decide +kernel)
set_option maxRecDepth 20000 in
theorem wd_424 : Cond.code yX1_init cX1_init 5 none ∈ GT := in_gt (in_t2 (List.mem_of_getElem? (i := 148) rfl)) (by decide +kernel)
set_option maxRecDepth 20000 in
theorem wd_425 : Cond.methodLink "BadgeZones" 93 yX1_init ∈ GT := in_gt (in_t2 (List.mem_of_getElem? (i := 146) rfl)) (by decide +kernel)
set_option maxRecDepth 20000 in
theorem wd_426 : Cond.instanceMethod yX1_init ∈ GT := in_gt (in_t2 (List.mem_of_getElem? (i := 147) rfl)) (by decide +kernel)
set_option maxRecDepth 20000 in
theorem wd_427 : Cond.methodLink "BadgeZones" 39 yJx4a65c_add_9ea2d ∈ GT := in_gt (in_t1 (List.mem_of_getElem? (i := 91) rfl)) (by decide +kernel)
set_option maxRecDepth 20000 in
theorem wd_428 : Cond.constantLong "BadgeZones" 228 (31) ∈ GT := in_gt (in_t1 (List.mem_of_getElem? (i := 228) rfl)) (by decide +kernel)
set_option maxRecDepth 20000 in
theorem wd_429 : Cond.code yX4_badgeAt cX4_badgeAt 2 (some (.object "BadgeZones$Badge")) ∈ GT := in_gt (in_t3 (List.mem_of_getElem? (i := 44) rfl)) (by decide +kernel)
set_option maxRecDepth 20000 in
theorem wd_430 : Cond.methodLink "BadgeZones" 122 yX4_badgeAt ∈ GT := in_gt (in_t3 (List.mem_of_getElem? (i := 41) rfl)) (by decide +kernel)
set_option maxRecDepth 20000 in
theorem wd_431 : Cond.instanceMethod yX4_badgeAt ∈ GT := in_gt (in_t3 (List.mem_of_getElem? (i := 43) rfl)) (by decide +kernel)
set_option maxRecDepth 20000 in
theorem wd_432 : Cond.selects "BadgeZones" yX4_badgeAt yX4_badgeAt ∈ GT := in_gt (List.mem_append_left _ (List.mem_map.mpr ⟨_, lw_pv 11 rfl, rfl⟩)) (by decide +kernel)
set_option maxRecDepth 20000 in
theorem wd_433 : Cond.fieldLink "BadgeZones" 126 "BadgeZones$Badge" "host" "LBadgeZones$Badge;" ∈ GT := in_gt (in_t3 (List.mem_of_getElem? (i := 9) rfl)) (by decide +kernel)
set_option maxRecDepth 20000 in
theorem wd_434 : Cond.code yX4_checkZone cX4_checkZone 3 none ∈ GT := in_gt (in_t2 (List.mem_of_getElem? (i := 18) rfl)) (by decide +kernel)
set_option maxRecDepth 20000 in
theorem wd_435 : Cond.methodLink "BadgeZones" 43 yX4_checkZone ∈ GT := in_gt (in_t2 (List.mem_of_getElem? (i := 16) rfl)) (by decide +kernel)
set_option maxRecDepth 20000 in
theorem wd_436 : Cond.static yX4_checkZone ∈ GT := in_gt (in_t2 (List.mem_of_getElem? (i := 17) rfl)) (by decide +kernel)
set_option maxRecDepth 20000 in
theorem wd_437 : Cond.fieldLink "BadgeZones" 21 "BadgeZones" "zones" "Ljava/util/ArrayList;" ∈ GT := in_gt (in_t1 (List.mem_of_getElem? (i := 149) rfl)) (by decide +kernel)
set_option maxRecDepth 20000 in
theorem wd_438 : Cond.classLink "BadgeZones" 9 "BadgeZones$Zone" ∈ GT := in_gt (in_t1 (List.mem_of_getElem? (i := 31) rfl)) (by decide +kernel)
set_option maxRecDepth 20000 in
theorem wd_439 : Cond.code yX3_init cX3_init 5 none ∈ GT := in_gt (in_t1 (List.mem_of_getElem? (i := 35) rfl)) (by decide +kernel)
set_option maxRecDepth 20000 in
theorem wd_440 : Cond.methodLink "BadgeZones" 11 yX3_init ∈ GT := in_gt (in_t1 (List.mem_of_getElem? (i := 33) rfl)) (by decide +kernel)
set_option maxRecDepth 20000 in
theorem wd_441 : Cond.instanceMethod yX3_init ∈ GT := in_gt (in_t1 (List.mem_of_getElem? (i := 34) rfl)) (by decide +kernel)
set_option maxRecDepth 20000 in
theorem wd_442 : Cond.initialized "BadgeZones$Zone" ∈ GT := in_gt (in_t1 (List.mem_of_getElem? (i := 2) rfl)) (by decide +kernel)
set_option maxRecDepth 20000 in
theorem wd_443 : Cond.fieldLink "BadgeZones" 35 "BadgeZones" "isAlarm" "Z" ∈ GT := in_gt (in_t1 (List.mem_of_getElem? (i := 153) rfl)) (by decide +kernel)
set_option maxRecDepth 20000 in
theorem wd_444 : Cond.fieldLink "BadgeZones" 28 "BadgeZones" "badges" "Ljava/util/ArrayList;" ∈ GT := in_gt (in_t1 (List.mem_of_getElem? (i := 151) rfl)) (by decide +kernel)
set_option maxRecDepth 20000 in
theorem wd_445 : Cond.methodLink "BadgeZones" 169 yJx4a65c_get_915e3 ∈ GT := in_gt (in_t1 (List.mem_of_getElem? (i := 183) rfl)) (by decide +kernel)
set_option maxRecDepth 20000 in
theorem wd_446 : Cond.classLink "BadgeZones" 127 "BadgeZones$Badge" ∈ GT := in_gt (in_t1 (List.mem_of_getElem? (i := 197) rfl)) (by decide +kernel)
set_option maxRecDepth 20000 in
theorem wd_447 : Cond.fieldLink "BadgeZones" 14 "BadgeZones" "outside" "LBadgeZones$Zone;" ∈ GT := in_gt (in_t1 (List.mem_of_getElem? (i := 148) rfl)) (by decide +kernel)
set_option maxRecDepth 20000 in
theorem wd_448 : Cond.code yX0_isAlone cX0_isAlone 2 (some .boolean) ∈ GT := in_gt (in_t1 (List.mem_of_getElem? (i := 201) rfl)) (by decide +kernel)
set_option maxRecDepth 20000 in
theorem wd_449 : Cond.methodLink "BadgeZones" 173 yX0_isAlone ∈ GT := in_gt (in_t1 (List.mem_of_getElem? (i := 198) rfl)) (by decide +kernel)
set_option maxRecDepth 20000 in
theorem wd_450 : Cond.instanceMethod yX0_isAlone ∈ GT := in_gt (in_t1 (List.mem_of_getElem? (i := 199) rfl)) (by decide +kernel)
set_option maxRecDepth 20000 in
theorem wd_451 : Cond.selects "BadgeZones$Badge" yX0_isAlone yX0_isAlone ∈ GT := in_gt (in_t1 (List.mem_of_getElem? (i := 200) rfl)) (by decide +kernel)
set_option maxRecDepth 20000 in
theorem wd_452 : Cond.code yX4_measureDistances cX4_measureDistances 2 none ∈ GT := in_gt (in_t2 (List.mem_of_getElem? (i := 176) rfl)) (by decide +kernel)
set_option maxRecDepth 20000 in
theorem wd_453 : Cond.methodLink "BadgeZones" 96 yX4_measureDistances ∈ GT := in_gt (in_t2 (List.mem_of_getElem? (i := 173) rfl)) (by decide +kernel)
set_option maxRecDepth 20000 in
theorem wd_454 : Cond.instanceMethod yX4_measureDistances ∈ GT := in_gt (in_t2 (List.mem_of_getElem? (i := 175) rfl)) (by decide +kernel)
set_option maxRecDepth 20000 in
theorem wd_455 : Cond.selects "BadgeZones" yX4_measureDistances yX4_measureDistances ∈ GT := in_gt (List.mem_append_left _ (List.mem_map.mpr ⟨_, lw_pv 7 rfl, rfl⟩)) (by decide +kernel)
set_option maxRecDepth 20000 in
theorem wd_456 : Cond.fieldLink "BadgeZones" 99 "BadgeZones$Zone" "doorsLeft" "I" ∈ GT := in_gt (in_t1 (List.mem_of_getElem? (i := 50) rfl)) (by decide +kernel)
set_option maxRecDepth 20000 in
theorem wd_457 : Cond.fieldLink "BadgeZones" 193 "BadgeZones$Badge" "stay" "LBadgeZones$Stay;" ∈ GT := in_gt (in_t3 (List.mem_of_getElem? (i := 12) rfl)) (by decide +kernel)
set_option maxRecDepth 20000 in
theorem wd_458 : Cond.fieldLink "BadgeZones" 197 "BadgeZones$Stay" "zone" "LBadgeZones$Zone;" ∈ GT := in_gt (in_t2 (List.mem_of_getElem? (i := 238) rfl)) (by decide +kernel)
set_option maxRecDepth 20000 in
theorem wd_459 : Cond.code yX0_wouldLackHost cX0_wouldLackHost 4 (some .boolean) ∈ GT := in_gt (in_t3 (List.mem_of_getElem? (i := 102) rfl)) (by decide +kernel)
set_option maxRecDepth 20000 in
theorem wd_460 : Cond.methodLink "BadgeZones" 254 yX0_wouldLackHost ∈ GT := in_gt (in_t3 (List.mem_of_getElem? (i := 99) rfl)) (by decide +kernel)
set_option maxRecDepth 20000 in
theorem wd_461 : Cond.instanceMethod yX0_wouldLackHost ∈ GT := in_gt (in_t3 (List.mem_of_getElem? (i := 100) rfl)) (by decide +kernel)
set_option maxRecDepth 20000 in
theorem wd_462 : Cond.selects "BadgeZones$Badge" yX0_wouldLackHost yX0_wouldLackHost ∈ GT := in_gt (in_t3 (List.mem_of_getElem? (i := 101) rfl)) (by decide +kernel)
set_option maxRecDepth 20000 in
theorem wd_463 : Cond.code yX0_hasRightFor cX0_hasRightFor 2 (some .boolean) ∈ GT := in_gt (in_t3 (List.mem_of_getElem? (i := 110) rfl)) (by decide +kernel)
set_option maxRecDepth 20000 in
theorem wd_464 : Cond.methodLink "BadgeZones" 247 yX0_hasRightFor ∈ GT := in_gt (in_t3 (List.mem_of_getElem? (i := 107) rfl)) (by decide +kernel)
set_option maxRecDepth 20000 in
theorem wd_465 : Cond.instanceMethod yX0_hasRightFor ∈ GT := in_gt (in_t3 (List.mem_of_getElem? (i := 108) rfl)) (by decide +kernel)
set_option maxRecDepth 20000 in
theorem wd_466 : Cond.selects "BadgeZones$Badge" yX0_hasRightFor yX0_hasRightFor ∈ GT := in_gt (in_t3 (List.mem_of_getElem? (i := 109) rfl)) (by decide +kernel)
set_option maxRecDepth 20000 in
theorem wd_467 : Cond.fieldLink "BadgeZones" 31 "BadgeZones" "minute" "I" ∈ GT := in_gt (in_t1 (List.mem_of_getElem? (i := 152) rfl)) (by decide +kernel)
set_option maxRecDepth 20000 in
theorem wd_468 : Cond.code yX3_hasHoursAt cX3_hasHoursAt 3 (some .boolean) ∈ GT := in_gt (in_t1 (List.mem_of_getElem? (i := 232) rfl)) (by decide +kernel)
set_option maxRecDepth 20000 in
theorem wd_469 : Cond.methodLink "BadgeZones" 102 yX3_hasHoursAt ∈ GT := in_gt (in_t1 (List.mem_of_getElem? (i := 229) rfl)) (by decide +kernel)
set_option maxRecDepth 20000 in
theorem wd_470 : Cond.instanceMethod yX3_hasHoursAt ∈ GT := in_gt (in_t1 (List.mem_of_getElem? (i := 230) rfl)) (by decide +kernel)
set_option maxRecDepth 20000 in
theorem wd_471 : Cond.selects "BadgeZones$Zone" yX3_hasHoursAt yX3_hasHoursAt ∈ GT := in_gt (in_t1 (List.mem_of_getElem? (i := 231) rfl)) (by decide +kernel)
set_option maxRecDepth 20000 in
theorem wd_472 : Cond.code yX4_countIn cX4_countIn 2 (some .int) ∈ GT := in_gt (in_t1 (List.mem_of_getElem? (i := 209) rfl)) (by decide +kernel)
set_option maxRecDepth 20000 in
theorem wd_473 : Cond.methodLink "BadgeZones" 76 yX4_countIn ∈ GT := in_gt (in_t1 (List.mem_of_getElem? (i := 206) rfl)) (by decide +kernel)
set_option maxRecDepth 20000 in
theorem wd_474 : Cond.instanceMethod yX4_countIn ∈ GT := in_gt (in_t1 (List.mem_of_getElem? (i := 208) rfl)) (by decide +kernel)
set_option maxRecDepth 20000 in
theorem wd_475 : Cond.selects "BadgeZones" yX4_countIn yX4_countIn ∈ GT := in_gt (List.mem_append_left _ (List.mem_map.mpr ⟨_, lw_pv 3 rfl, rfl⟩)) (by decide +kernel)
set_option maxRecDepth 20000 in
theorem wd_476 : Cond.fieldLink "BadgeZones" 67 "BadgeZones$Zone" "capacity" "I" ∈ GT := in_gt (in_t1 (List.mem_of_getElem? (i := 41) rfl)) (by decide +kernel)
set_option maxRecDepth 20000 in
theorem wd_477 : Cond.code yX4_isExcluded cX4_isExcluded 4 (some .boolean) ∈ GT := in_gt (in_t3 (List.mem_of_getElem? (i := 114) rfl)) (by decide +kernel)
set_option maxRecDepth 20000 in
theorem wd_478 : Cond.methodLink "BadgeZones" 250 yX4_isExcluded ∈ GT := in_gt (in_t3 (List.mem_of_getElem? (i := 111) rfl)) (by decide +kernel)
set_option maxRecDepth 20000 in
theorem wd_479 : Cond.instanceMethod yX4_isExcluded ∈ GT := in_gt (in_t3 (List.mem_of_getElem? (i := 113) rfl)) (by decide +kernel)
set_option maxRecDepth 20000 in
theorem wd_480 : Cond.selects "BadgeZones" yX4_isExcluded yX4_isExcluded ∈ GT := in_gt (List.mem_append_left _ (List.mem_map.mpr ⟨_, lw_pv 15 rfl, rfl⟩)) (by decide +kernel)
set_option maxRecDepth 20000 in
theorem wd_481 : Cond.code yX4_wouldLeaveVisitor cX4_wouldLeaveVisitor 5 (some .boolean) ∈ GT := in_gt (in_t3 (List.mem_of_getElem? (i := 122) rfl)) (by decide +kernel)
set_option maxRecDepth 20000 in
theorem wd_482 : Cond.methodLink "BadgeZones" 258 yX4_wouldLeaveVisitor ∈ GT := in_gt (in_t3 (List.mem_of_getElem? (i := 119) rfl)) (by decide +kernel)
set_option maxRecDepth 20000 in
theorem wd_483 : Cond.instanceMethod yX4_wouldLeaveVisitor ∈ GT := in_gt (in_t3 (List.mem_of_getElem? (i := 121) rfl)) (by decide +kernel)
set_option maxRecDepth 20000 in
theorem wd_484 : Cond.selects "BadgeZones" yX4_wouldLeaveVisitor yX4_wouldLeaveVisitor ∈ GT := in_gt (List.mem_append_left _ (List.mem_map.mpr ⟨_, lw_pv 16 rfl, rfl⟩)) (by decide +kernel)
set_option maxRecDepth 20000 in
theorem wd_485 : Cond.fieldLink "BadgeZones" 139 "BadgeZones$Badge" "isBlocked" "Z" ∈ GT := in_gt (in_t3 (List.mem_of_getElem? (i := 16) rfl)) (by decide +kernel)
set_option maxRecDepth 20000 in
theorem wd_486 : Cond.code yX1_otherSide cX1_otherSide 2 (some (.object "BadgeZones$Zone")) ∈ GT := in_gt (in_t3 (List.mem_of_getElem? (i := 94) rfl)) (by decide +kernel)
set_option maxRecDepth 20000 in
theorem wd_487 : Cond.methodLink "BadgeZones" 235 yX1_otherSide ∈ GT := in_gt (in_t3 (List.mem_of_getElem? (i := 91) rfl)) (by decide +kernel)
set_option maxRecDepth 20000 in
theorem wd_488 : Cond.instanceMethod yX1_otherSide ∈ GT := in_gt (in_t3 (List.mem_of_getElem? (i := 92) rfl)) (by decide +kernel)
set_option maxRecDepth 20000 in
theorem wd_489 : Cond.selects "BadgeZones$Door" yX1_otherSide yX1_otherSide ∈ GT := in_gt (in_t3 (List.mem_of_getElem? (i := 93) rfl)) (by decide +kernel)
set_option maxRecDepth 20000 in
theorem wd_490 : Cond.code yX4_answerInAlarm cX4_answerInAlarm 3 (some .int) ∈ GT := in_gt (in_t3 (List.mem_of_getElem? (i := 98) rfl)) (by decide +kernel)
set_option maxRecDepth 20000 in
theorem wd_491 : Cond.methodLink "BadgeZones" 239 yX4_answerInAlarm ∈ GT := in_gt (in_t3 (List.mem_of_getElem? (i := 95) rfl)) (by decide +kernel)
set_option maxRecDepth 20000 in
theorem wd_492 : Cond.instanceMethod yX4_answerInAlarm ∈ GT := in_gt (in_t3 (List.mem_of_getElem? (i := 97) rfl)) (by decide +kernel)
set_option maxRecDepth 20000 in
theorem wd_493 : Cond.selects "BadgeZones" yX4_answerInAlarm yX4_answerInAlarm ∈ GT := in_gt (List.mem_append_left _ (List.mem_map.mpr ⟨_, lw_pv 13 rfl, rfl⟩)) (by decide +kernel)
set_option maxRecDepth 20000 in
theorem wd_494 : Cond.code yX4_answerInPeace cX4_answerInPeace 4 (some .int) ∈ GT := in_gt (in_t3 (List.mem_of_getElem? (i := 106) rfl)) (by decide +kernel)
set_option maxRecDepth 20000 in
theorem wd_495 : Cond.methodLink "BadgeZones" 243 yX4_answerInPeace ∈ GT := in_gt (in_t3 (List.mem_of_getElem? (i := 103) rfl)) (by decide +kernel)
set_option maxRecDepth 20000 in
theorem wd_496 : Cond.instanceMethod yX4_answerInPeace ∈ GT := in_gt (in_t3 (List.mem_of_getElem? (i := 105) rfl)) (by decide +kernel)
set_option maxRecDepth 20000 in
theorem wd_497 : Cond.selects "BadgeZones" yX4_answerInPeace yX4_answerInPeace ∈ GT := in_gt (List.mem_append_left _ (List.mem_map.mpr ⟨_, lw_pv 14 rfl, rfl⟩)) (by decide +kernel)
set_option maxRecDepth 20000 in
theorem wd_498 : Cond.classLink "BadgeZones" 62 "java/lang/IndexOutOfBoundsException" ∈ GT := in_gt (in_t2 (List.mem_of_getElem? (i := 119) rfl)) (by decide +kernel)
set_option maxRecDepth 20000 in
theorem wd_499 : Cond.code yX0_tell cX0_tell 2 (some .int) ∈ GT := in_gt (in_t2 (List.mem_of_getElem? (i := 2) rfl)) (by decide +kernel)
set_option maxRecDepth 20000 in
theorem wd_500 : Cond.methodLink "BadgeZones" 147 yX0_tell ∈ GT := in_gt (in_t1 (List.mem_of_getElem? (i := 239) rfl)) (by decide +kernel)
set_option maxRecDepth 20000 in
theorem wd_501 : Cond.instanceMethod yX0_tell ∈ GT := in_gt (in_t2 (List.mem_of_getElem? (i := 0) rfl)) (by decide +kernel)
set_option maxRecDepth 20000 in
theorem wd_502 : Cond.selects "BadgeZones$Badge" yX0_tell yX0_tell ∈ GT := in_gt (in_t2 (List.mem_of_getElem? (i := 1) rfl)) (by decide +kernel)
set_option maxRecDepth 20000 in
theorem wd_503 : Cond.fieldLink "BadgeZones" 142 "BadgeZones$Badge" "refusals" "I" ∈ GT := in_gt (in_t3 (List.mem_of_getElem? (i := 18) rfl)) (by decide +kernel)
set_option maxRecDepth 20000 in
theorem wd_504 : Cond.code yX4_measureWays cX4_measureWays 5 none ∈ GT := in_gt (in_t3 (List.mem_of_getElem? (i := 188) rfl)) (by decide +kernel)
set_option maxRecDepth 20000 in
theorem wd_505 : Cond.methodLink "BadgeZones" 189 yX4_measureWays ∈ GT := in_gt (in_t3 (List.mem_of_getElem? (i := 185) rfl)) (by decide +kernel)
set_option maxRecDepth 20000 in
theorem wd_506 : Cond.instanceMethod yX4_measureWays ∈ GT := in_gt (in_t3 (List.mem_of_getElem? (i := 187) rfl)) (by decide +kernel)
set_option maxRecDepth 20000 in
theorem wd_507 : Cond.selects "BadgeZones" yX4_measureWays yX4_measureWays ∈ GT := in_gt (List.mem_append_left _ (List.mem_map.mpr ⟨_, lw_pv 18 rfl, rfl⟩)) (by decide +kernel)
set_option maxRecDepth 20000 in
theorem wd_508 : Cond.code yX4_badgesIn cX4_badgesIn 4 (some .int) ∈ GT := in_gt (in_t1 (List.mem_of_getElem? (i := 213) rfl)) (by decide +kernel)
set_option maxRecDepth 20000 in
theorem wd_509 : Cond.methodLink "BadgeZones" 166 yX4_badgesIn ∈ GT := in_gt (in_t1 (List.mem_of_getElem? (i := 210) rfl)) (by decide +kernel)
set_option maxRecDepth 20000 in
theorem wd_510 : Cond.instanceMethod yX4_badgesIn ∈ GT := in_gt (in_t1 (List.mem_of_getElem? (i := 212) rfl)) (by decide +kernel)
set_option maxRecDepth 20000 in
theorem wd_511 : Cond.selects "BadgeZones" yX4_badgesIn yX4_badgesIn ∈ GT := in_gt (List.mem_append_left _ (List.mem_map.mpr ⟨_, lw_pv 4 rfl, rfl⟩)) (by decide +kernel)
set_option maxRecDepth 20000 in
theorem wd_512 : Cond.code yJ6_bitCount_0f7a4 cJ6_bitCount_0f7a4 1 (some .int) ∈ GT := in_gt (in_t1 (List.mem_of_getElem? (i := 216) rfl)) (by decide +kernel)
set_option maxRecDepth 20000 in
theorem wd_513 : Cond.methodLink "BadgeZones" 230 yJ6_bitCount_0f7a4 ∈ GT := in_gt (in_t1 (List.mem_of_getElem? (i := 214) rfl)) (by decide +kernel)
set_option maxRecDepth 20000 in
theorem wd_514 : Cond.static yJ6_bitCount_0f7a4 ∈ GT := in_gt (in_t1 (List.mem_of_getElem? (i := 215) rfl)) (by decide +kernel)
set_option maxRecDepth 20000 in
theorem wd_515 : Cond.initialized "java/lang/Integer" ∈ GT := in_gt (in_t1 (List.mem_of_getElem? (i := 19) rfl)) (by decide +kernel)
set_option maxRecDepth 20000 in
theorem wd_516 : Cond.constantLong "BadgeZones" 205 (179) ∈ GT := in_gt (in_t1 (List.mem_of_getElem? (i := 224) rfl)) (by decide +kernel)
set_option maxRecDepth 20000 in
theorem wd_517 : Cond.code yX4_addTo cX4_addTo 3 (some .long) ∈ GT := in_gt (in_t1 (List.mem_of_getElem? (i := 227) rfl)) (by decide +kernel)
set_option maxRecDepth 20000 in
theorem wd_518 : Cond.methodLink "BadgeZones" 207 yX4_addTo ∈ GT := in_gt (in_t1 (List.mem_of_getElem? (i := 225) rfl)) (by decide +kernel)
set_option maxRecDepth 20000 in
theorem wd_519 : Cond.static yX4_addTo ∈ GT := in_gt (in_t1 (List.mem_of_getElem? (i := 226) rfl)) (by decide +kernel)
set_option maxRecDepth 20000 in
theorem wd_520 : Cond.code yX1_minutesLeft cX1_minutesLeft 2 (some .int) ∈ GT := in_gt (in_t1 (List.mem_of_getElem? (i := 237) rfl)) (by decide +kernel)
set_option maxRecDepth 20000 in
theorem wd_521 : Cond.methodLink "BadgeZones" 110 yX1_minutesLeft ∈ GT := in_gt (in_t1 (List.mem_of_getElem? (i := 234) rfl)) (by decide +kernel)
set_option maxRecDepth 20000 in
theorem wd_522 : Cond.instanceMethod yX1_minutesLeft ∈ GT := in_gt (in_t1 (List.mem_of_getElem? (i := 235) rfl)) (by decide +kernel)
set_option maxRecDepth 20000 in
theorem wd_523 : Cond.selects "BadgeZones$Door" yX1_minutesLeft yX1_minutesLeft ∈ GT := in_gt (in_t1 (List.mem_of_getElem? (i := 236) rfl)) (by decide +kernel)
set_option maxRecDepth 20000 in
theorem wd_524 : Cond.fieldLink "BadgeZones" 272 "BadgeZones$Zone" "isOnTheWay" "Z" ∈ GT := in_gt (in_t1 (List.mem_of_getElem? (i := 48) rfl)) (by decide +kernel)
set_option maxRecDepth 20000 in
theorem wd_525 : Cond.methodLink "BadgeZones" 3 ⟨"java/lang/Object", "<init>", "()V"⟩ ∈ GT := in_gt (in_t1 (List.mem_of_getElem? (i := 28) rfl)) (by decide +kernel)
set_option maxRecDepth 20000 in
theorem wd_526 : Cond.classLink "BadgeZones" 18 "java/util/ArrayList" ∈ GT := in_gt (in_t1 (List.mem_of_getElem? (i := 65) rfl)) (by decide +kernel)
set_option maxRecDepth 20000 in
theorem wd_527 : Cond.methodLink "BadgeZones" 20 yJx4a65c_init_da8c8 ∈ GT := in_gt (in_t1 (List.mem_of_getElem? (i := 67) rfl)) (by decide +kernel)
set_option maxRecDepth 20000 in
theorem wd_528 : Cond.code yX1_excludes cX1_excludes 2 (some .boolean) ∈ GT := in_gt (in_t3 (List.mem_of_getElem? (i := 118) rfl)) (by decide +kernel)
set_option maxRecDepth 20000 in
theorem wd_529 : Cond.methodLink "BadgeZones" 262 yX1_excludes ∈ GT := in_gt (in_t3 (List.mem_of_getElem? (i := 115) rfl)) (by decide +kernel)
set_option maxRecDepth 20000 in
theorem wd_530 : Cond.instanceMethod yX1_excludes ∈ GT := in_gt (in_t3 (List.mem_of_getElem? (i := 116) rfl)) (by decide +kernel)
set_option maxRecDepth 20000 in
theorem wd_531 : Cond.selects "BadgeZones$Door" yX1_excludes yX1_excludes ∈ GT := in_gt (in_t3 (List.mem_of_getElem? (i := 117) rfl)) (by decide +kernel)
set_option maxRecDepth 20000 in
theorem wd_532 : Cond.code yX0_init cX0_init 5 none ∈ GT := in_gt (in_t2 (List.mem_of_getElem? (i := 226) rfl)) (by decide +kernel)
set_option maxRecDepth 20000 in
theorem wd_533 : Cond.methodLink "BadgeZones" 225 yX0_init ∈ GT := in_gt (in_t2 (List.mem_of_getElem? (i := 224) rfl)) (by decide +kernel)
set_option maxRecDepth 20000 in
theorem wd_534 : Cond.instanceMethod yX0_init ∈ GT := in_gt (in_t2 (List.mem_of_getElem? (i := 225) rfl)) (by decide +kernel)
set_option maxRecDepth 20000 in
theorem wd_535 : Cond.code yX4_measureTo cX4_measureTo 4 none ∈ GT := in_gt (in_t2 (List.mem_of_getElem? (i := 180) rfl)) (by decide +kernel)
set_option maxRecDepth 20000 in
theorem wd_536 : Cond.methodLink "BadgeZones" 275 yX4_measureTo ∈ GT := in_gt (in_t2 (List.mem_of_getElem? (i := 177) rfl)) (by decide +kernel)
set_option maxRecDepth 20000 in
theorem wd_537 : Cond.instanceMethod yX4_measureTo ∈ GT := in_gt (in_t2 (List.mem_of_getElem? (i := 179) rfl)) (by decide +kernel)
set_option maxRecDepth 20000 in
theorem wd_538 : Cond.selects "BadgeZones" yX4_measureTo yX4_measureTo ∈ GT := in_gt (List.mem_append_left _ (List.mem_map.mpr ⟨_, lw_pv 8 rfl, rfl⟩)) (by decide +kernel)
set_option maxRecDepth 20000 in
theorem wd_539 : Cond.code yX1_measureBack cX1_measureBack 2 none ∈ GT := in_gt (in_t2 (List.mem_of_getElem? (i := 184) rfl)) (by decide +kernel)
set_option maxRecDepth 20000 in
theorem wd_540 : Cond.methodLink "BadgeZones" 279 yX1_measureBack ∈ GT := in_gt (in_t2 (List.mem_of_getElem? (i := 181) rfl)) (by decide +kernel)
set_option maxRecDepth 20000 in
theorem wd_541 : Cond.instanceMethod yX1_measureBack ∈ GT := in_gt (in_t2 (List.mem_of_getElem? (i := 182) rfl)) (by decide +kernel)
set_option maxRecDepth 20000 in
theorem wd_542 : Cond.selects "BadgeZones$Door" yX1_measureBack yX1_measureBack ∈ GT := in_gt (in_t2 (List.mem_of_getElem? (i := 183) rfl)) (by decide +kernel)
set_option maxRecDepth 20000 in
theorem wd_543 : Cond.code yX0_minutesSpent cX0_minutesSpent 7 (some .int) ∈ GT := in_gt (in_t3 (List.mem_of_getElem? (i := 177) rfl)) (by decide +kernel)
set_option maxRecDepth 20000 in
theorem wd_544 : Cond.methodLink "BadgeZones" 185 yX0_minutesSpent ∈ GT := in_gt (in_t3 (List.mem_of_getElem? (i := 174) rfl)) (by decide +kernel)
set_option maxRecDepth 20000 in
theorem wd_545 : Cond.instanceMethod yX0_minutesSpent ∈ GT := in_gt (in_t3 (List.mem_of_getElem? (i := 175) rfl)) (by decide +kernel)
set_option maxRecDepth 20000 in
theorem wd_546 : Cond.selects "BadgeZones$Badge" yX0_minutesSpent yX0_minutesSpent ∈ GT := in_gt (in_t3 (List.mem_of_getElem? (i := 176) rfl)) (by decide +kernel)
set_option maxRecDepth 20000 in
theorem wd_547 : Cond.code yX4_firstDoorFrom cX4_firstDoorFrom 4 (some .int) ∈ GT := in_gt (in_t3 (List.mem_of_getElem? (i := 199) rfl)) (by decide +kernel)
set_option maxRecDepth 20000 in
theorem wd_548 : Cond.methodLink "BadgeZones" 202 yX4_firstDoorFrom ∈ GT := in_gt (in_t3 (List.mem_of_getElem? (i := 196) rfl)) (by decide +kernel)
set_option maxRecDepth 20000 in
theorem wd_549 : Cond.instanceMethod yX4_firstDoorFrom ∈ GT := in_gt (in_t3 (List.mem_of_getElem? (i := 198) rfl)) (by decide +kernel)
set_option maxRecDepth 20000 in
theorem wd_550 : Cond.selects "BadgeZones" yX4_firstDoorFrom yX4_firstDoorFrom ∈ GT := in_gt (List.mem_append_left _ (List.mem_map.mpr ⟨_, lw_pv 19 rfl, rfl⟩)) (by decide +kernel)
set_option maxRecDepth 20000 in
theorem wd_551 : Cond.code yX4_doorAt cX4_doorAt 2 (some (.object "BadgeZones$Door")) ∈ GT := in_gt (in_t2 (List.mem_of_getElem? (i := 205) rfl)) (by decide +kernel)
set_option maxRecDepth 20000 in
theorem wd_552 : Cond.methodLink "BadgeZones" 106 yX4_doorAt ∈ GT := in_gt (in_t2 (List.mem_of_getElem? (i := 202) rfl)) (by decide +kernel)
set_option maxRecDepth 20000 in
theorem wd_553 : Cond.instanceMethod yX4_doorAt ∈ GT := in_gt (in_t2 (List.mem_of_getElem? (i := 204) rfl)) (by decide +kernel)
set_option maxRecDepth 20000 in
theorem wd_554 : Cond.selects "BadgeZones" yX4_doorAt yX4_doorAt ∈ GT := in_gt (List.mem_append_left _ (List.mem_map.mpr ⟨_, lw_pv 9 rfl, rfl⟩)) (by decide +kernel)
set_option maxRecDepth 20000 in
theorem wd_555 : Cond.code yX0_enter cX0_enter 3 none ∈ GT := in_gt (in_t3 (List.mem_of_getElem? (i := 130) rfl)) (by decide +kernel)
set_option maxRecDepth 20000 in
theorem wd_556 : Cond.methodLink "BadgeZones" 265 yX0_enter ∈ GT := in_gt (in_t3 (List.mem_of_getElem? (i := 127) rfl)) (by decide +kernel)
set_option maxRecDepth 20000 in
theorem wd_557 : Cond.instanceMethod yX0_enter ∈ GT := in_gt (in_t3 (List.mem_of_getElem? (i := 128) rfl)) (by decide +kernel)
set_option maxRecDepth 20000 in
theorem wd_558 : Cond.selects "BadgeZones$Badge" yX0_enter yX0_enter ∈ GT := in_gt (in_t3 (List.mem_of_getElem? (i := 129) rfl)) (by decide +kernel)
set_option maxRecDepth 20000 in
theorem wd_559 : Cond.code yX1_openAt cX1_openAt 2 none ∈ GT := in_gt (in_t3 (List.mem_of_getElem? (i := 135) rfl)) (by decide +kernel)
set_option maxRecDepth 20000 in
theorem wd_560 : Cond.methodLink "BadgeZones" 269 yX1_openAt ∈ GT := in_gt (in_t3 (List.mem_of_getElem? (i := 132) rfl)) (by decide +kernel)
set_option maxRecDepth 20000 in
theorem wd_561 : Cond.instanceMethod yX1_openAt ∈ GT := in_gt (in_t3 (List.mem_of_getElem? (i := 133) rfl)) (by decide +kernel)
set_option maxRecDepth 20000 in
theorem wd_562 : Cond.selects "BadgeZones$Door" yX1_openAt yX1_openAt ∈ GT := in_gt (in_t3 (List.mem_of_getElem? (i := 134) rfl)) (by decide +kernel)
set_option maxRecDepth 20000 in
theorem wd_563 : Cond.code yX4_answerTo cX4_answerTo 4 (some .int) ∈ GT := in_gt (in_t3 (List.mem_of_getElem? (i := 90) rfl)) (by decide +kernel)
set_option maxRecDepth 20000 in
theorem wd_564 : Cond.methodLink "BadgeZones" 155 yX4_answerTo ∈ GT := in_gt (in_t3 (List.mem_of_getElem? (i := 87) rfl)) (by decide +kernel)
set_option maxRecDepth 20000 in
theorem wd_565 : Cond.instanceMethod yX4_answerTo ∈ GT := in_gt (in_t3 (List.mem_of_getElem? (i := 89) rfl)) (by decide +kernel)
set_option maxRecDepth 20000 in
theorem wd_566 : Cond.selects "BadgeZones" yX4_answerTo yX4_answerTo ∈ GT := in_gt (List.mem_append_left _ (List.mem_map.mpr ⟨_, lw_pv 12 rfl, rfl⟩)) (by decide +kernel)
set_option maxRecDepth 20000 in
theorem wd_567 : Cond.code yX4_pass cX4_pass 4 none ∈ GT := in_gt (in_t3 (List.mem_of_getElem? (i := 126) rfl)) (by decide +kernel)
set_option maxRecDepth 20000 in
theorem wd_568 : Cond.methodLink "BadgeZones" 159 yX4_pass ∈ GT := in_gt (in_t3 (List.mem_of_getElem? (i := 123) rfl)) (by decide +kernel)
set_option maxRecDepth 20000 in
theorem wd_569 : Cond.instanceMethod yX4_pass ∈ GT := in_gt (in_t3 (List.mem_of_getElem? (i := 125) rfl)) (by decide +kernel)
set_option maxRecDepth 20000 in
theorem wd_570 : Cond.selects "BadgeZones" yX4_pass yX4_pass ∈ GT := in_gt (List.mem_append_left _ (List.mem_map.mpr ⟨_, lw_pv 17 rfl, rfl⟩)) (by decide +kernel)
set_option maxRecDepth 20000 in
theorem wd_571 : Cond.code yX0_countRefusal cX0_countRefusal 1 none ∈ GT := in_gt (in_t3 (List.mem_of_getElem? (i := 139) rfl)) (by decide +kernel)
set_option maxRecDepth 20000 in
theorem wd_572 : Cond.methodLink "BadgeZones" 163 yX0_countRefusal ∈ GT := in_gt (in_t3 (List.mem_of_getElem? (i := 136) rfl)) (by decide +kernel)
set_option maxRecDepth 20000 in
theorem wd_573 : Cond.instanceMethod yX0_countRefusal ∈ GT := in_gt (in_t3 (List.mem_of_getElem? (i := 137) rfl)) (by decide +kernel)
set_option maxRecDepth 20000 in
theorem wd_574 : Cond.selects "BadgeZones$Badge" yX0_countRefusal yX0_countRefusal ∈ GT := in_gt (in_t3 (List.mem_of_getElem? (i := 138) rfl)) (by decide +kernel)
set_option maxRecDepth 20000 in
theorem wd_575 : Cond.fieldLink "BadgeZones" 136 "BadgeZones$Badge" "ownRights" "I" ∈ GT := in_gt (in_t3 (List.mem_of_getElem? (i := 14) rfl)) (by decide +kernel)
set_option maxRecDepth 20000 in
theorem wd_576 : Cond.fieldLink "BadgeZones" 70 "BadgeZones$Zone" "begin" "I" ∈ GT := in_gt (in_t1 (List.mem_of_getElem? (i := 43) rfl)) (by decide +kernel)
set_option maxRecDepth 20000 in
theorem wd_577 : Cond.fieldLink "BadgeZones" 73 "BadgeZones$Zone" "end" "I" ∈ GT := in_gt (in_t1 (List.mem_of_getElem? (i := 45) rfl)) (by decide +kernel)
set_option maxRecDepth 20000 in
theorem wd_578 : Cond.constant "BadgeZones" 152 (99999) ∈ GT := in_gt (in_t3 (List.mem_of_getElem? (i := 78) rfl)) (by decide +kernel)
set_option maxRecDepth 20000 in
theorem wd_579 : Cond.code yX0_zoneAtEndOf cX0_zoneAtEndOf 4 (some (.object "BadgeZones$Zone")) ∈ GT := in_gt (in_t3 (List.mem_of_getElem? (i := 165) rfl)) (by decide +kernel)
set_option maxRecDepth 20000 in
theorem wd_580 : Cond.methodLink "BadgeZones" 179 yX0_zoneAtEndOf ∈ GT := in_gt (in_t3 (List.mem_of_getElem? (i := 162) rfl)) (by decide +kernel)
set_option maxRecDepth 20000 in
theorem wd_581 : Cond.instanceMethod yX0_zoneAtEndOf ∈ GT := in_gt (in_t3 (List.mem_of_getElem? (i := 163) rfl)) (by decide +kernel)
set_option maxRecDepth 20000 in
theorem wd_582 : Cond.selects "BadgeZones$Badge" yX0_zoneAtEndOf yX0_zoneAtEndOf ∈ GT := in_gt (in_t3 (List.mem_of_getElem? (i := 164) rfl)) (by decide +kernel)
set_option maxRecDepth 20000 in
theorem wd_583 : Cond.fieldLink "BadgeZones" 182 "BadgeZones$Zone" "number" "I" ∈ GT := in_gt (in_t1 (List.mem_of_getElem? (i := 39) rfl)) (by decide +kernel)
set_option maxRecDepth 20000 in
theorem wd_584 : Cond.fieldLink "BadgeZonesModel" 23 "BadgeZonesModel" "sides" "[I" ∈ GT := in_gt (in_t3 (List.mem_of_getElem? (i := 221) rfl)) (by decide +kernel)
set_option maxRecDepth 20000 in
theorem wd_585 : Cond.fieldLink "BadgeZonesModel" 35 "BadgeZonesModel" "places" "[I" ∈ GT := in_gt (in_t3 (List.mem_of_getElem? (i := 226) rfl)) (by decide +kernel)
set_option maxRecDepth 20000 in
theorem wd_586 : Cond.fieldLink "BadgeZonesModel" 60 "BadgeZonesModel" "badges" "I" ∈ GT := in_gt (in_t3 (List.mem_of_getElem? (i := 225) rfl)) (by decide +kernel)
set_option maxRecDepth 20000 in
theorem wd_587 : Cond.fieldLink "BadgeZonesModel" 38 "BadgeZonesModel" "rights" "[I" ∈ GT := in_gt (in_t3 (List.mem_of_getElem? (i := 227) rfl)) (by decide +kernel)
set_option maxRecDepth 20000 in
theorem wd_588 : Cond.fieldLink "BadgeZonesModel" 41 "BadgeZonesModel" "hosts" "[I" ∈ GT := in_gt (in_t3 (List.mem_of_getElem? (i := 228) rfl)) (by decide +kernel)
set_option maxRecDepth 20000 in
theorem wd_589 : Cond.fieldLink "BadgeZonesModel" 44 "BadgeZonesModel" "areBlocked" "[Z" ∈ GT := in_gt (in_t3 (List.mem_of_getElem? (i := 229) rfl)) (by decide +kernel)
set_option maxRecDepth 20000 in
theorem wd_590 : Cond.fieldLink "BadgeZonesModel" 48 "BadgeZonesModel" "refusals" "[I" ∈ GT := in_gt (in_t3 (List.mem_of_getElem? (i := 230) rfl)) (by decide +kernel)
set_option maxRecDepth 20000 in
theorem wd_591 : Cond.fieldLink "BadgeZonesModel" 54 "BadgeZonesModel" "thrown" "I" ∈ GT := in_gt (in_t3 (List.mem_of_getElem? (i := 213) rfl)) (by decide +kernel)
set_option maxRecDepth 20000 in
theorem wd_592 : Cond.code yX5_fail cX5_fail 2 (some .int) ∈ GT := in_gt (in_t4 (List.mem_of_getElem? (i := 50) rfl)) (by decide +kernel)
set_option maxRecDepth 20000 in
theorem wd_593 : Cond.methodLink "BadgeZonesModel" 67 yX5_fail ∈ GT := in_gt (in_t4 (List.mem_of_getElem? (i := 47) rfl)) (by decide +kernel)
set_option maxRecDepth 20000 in
theorem wd_594 : Cond.instanceMethod yX5_fail ∈ GT := in_gt (in_t4 (List.mem_of_getElem? (i := 49) rfl)) (by decide +kernel)
set_option maxRecDepth 20000 in
theorem wd_595 : Cond.selects "BadgeZonesModel" yX5_fail yX5_fail ∈ GT := in_gt (List.mem_append_left _ (List.mem_map.mpr ⟨_, lw_pv 20 rfl, rfl⟩)) (by decide +kernel)
set_option maxRecDepth 20000 in
theorem wd_596 : Cond.code yX5_add cX5_add 3 (some .int) ∈ GT := in_gt (in_t4 (List.mem_of_getElem? (i := 107) rfl)) (by decide +kernel)
set_option maxRecDepth 20000 in
theorem wd_597 : Cond.methodLink "BadgeZonesModel" 109 yX5_add ∈ GT := in_gt (in_t4 (List.mem_of_getElem? (i := 104) rfl)) (by decide +kernel)
set_option maxRecDepth 20000 in
theorem wd_598 : Cond.instanceMethod yX5_add ∈ GT := in_gt (in_t4 (List.mem_of_getElem? (i := 106) rfl)) (by decide +kernel)
set_option maxRecDepth 20000 in
theorem wd_599 : Cond.selects "BadgeZonesModel" yX5_add yX5_add ∈ GT := in_gt (List.mem_append_left _ (List.mem_map.mpr ⟨_, lw_pv 27 rfl, rfl⟩)) (by decide +kernel)
set_option maxRecDepth 20000 in
theorem wd_600 : Cond.code yX5_isZone cX5_isZone 2 (some .boolean) ∈ GT := in_gt (in_t4 (List.mem_of_getElem? (i := 58) rfl)) (by decide +kernel)
set_option maxRecDepth 20000 in
theorem wd_601 : Cond.methodLink "BadgeZonesModel" 71 yX5_isZone ∈ GT := in_gt (in_t4 (List.mem_of_getElem? (i := 55) rfl)) (by decide +kernel)
set_option maxRecDepth 20000 in
theorem wd_602 : Cond.instanceMethod yX5_isZone ∈ GT := in_gt (in_t4 (List.mem_of_getElem? (i := 57) rfl)) (by decide +kernel)
set_option maxRecDepth 20000 in
theorem wd_603 : Cond.selects "BadgeZonesModel" yX5_isZone yX5_isZone ∈ GT := in_gt (List.mem_append_left _ (List.mem_map.mpr ⟨_, lw_pv 21 rfl, rfl⟩)) (by decide +kernel)
set_option maxRecDepth 20000 in
theorem wd_604 : Cond.fieldLink "BadgeZonesModel" 57 "BadgeZonesModel" "doors" "I" ∈ GT := in_gt (in_t3 (List.mem_of_getElem? (i := 220) rfl)) (by decide +kernel)
set_option maxRecDepth 20000 in
theorem wd_605 : Cond.fieldLink "BadgeZonesModel" 26 "BadgeZonesModel" "holds" "[I" ∈ GT := in_gt (in_t3 (List.mem_of_getElem? (i := 222) rfl)) (by decide +kernel)
set_option maxRecDepth 20000 in
theorem wd_606 : Cond.fieldLink "BadgeZonesModel" 29 "BadgeZonesModel" "locks" "[I" ∈ GT := in_gt (in_t3 (List.mem_of_getElem? (i := 223) rfl)) (by decide +kernel)
set_option maxRecDepth 20000 in
theorem wd_607 : Cond.fieldLink "BadgeZonesModel" 32 "BadgeZonesModel" "shuts" "[I" ∈ GT := in_gt (in_t3 (List.mem_of_getElem? (i := 224) rfl)) (by decide +kernel)
set_option maxRecDepth 20000 in
theorem wd_608 : Cond.code yX5_isBadge cX5_isBadge 2 (some .boolean) ∈ GT := in_gt (in_t4 (List.mem_of_getElem? (i := 115) rfl)) (by decide +kernel)
set_option maxRecDepth 20000 in
theorem wd_609 : Cond.methodLink "BadgeZonesModel" 112 yX5_isBadge ∈ GT := in_gt (in_t4 (List.mem_of_getElem? (i := 112) rfl)) (by decide +kernel)
set_option maxRecDepth 20000 in
theorem wd_610 : Cond.instanceMethod yX5_isBadge ∈ GT := in_gt (in_t4 (List.mem_of_getElem? (i := 114) rfl)) (by decide +kernel)
set_option maxRecDepth 20000 in
theorem wd_611 : Cond.selects "BadgeZonesModel" yX5_isBadge yX5_isBadge ∈ GT := in_gt (List.mem_append_left _ (List.mem_map.mpr ⟨_, lw_pv 28 rfl, rfl⟩)) (by decide +kernel)
set_option maxRecDepth 20000 in
theorem wd_612 : Cond.code yX5_areHours cX5_areHours 3 (some .boolean) ∈ GT := in_gt (in_t4 (List.mem_of_getElem? (i := 46) rfl)) (by decide +kernel)
set_option maxRecDepth 20000 in
theorem wd_613 : Cond.methodLink "BadgeZonesModel" 63 yX5_areHours ∈ GT := in_gt (in_t4 (List.mem_of_getElem? (i := 44) rfl)) (by decide +kernel)
set_option maxRecDepth 20000 in
theorem wd_614 : Cond.static yX5_areHours ∈ GT := in_gt (in_t4 (List.mem_of_getElem? (i := 45) rfl)) (by decide +kernel)
set_option maxRecDepth 20000 in
theorem wd_615 : Cond.fieldLink "BadgeZonesModel" 7 "BadgeZonesModel" "zones" "I" ∈ GT := in_gt (in_t3 (List.mem_of_getElem? (i := 216) rfl)) (by decide +kernel)
set_option maxRecDepth 20000 in
theorem wd_616 : Cond.fieldLink "BadgeZonesModel" 13 "BadgeZonesModel" "capacities" "[I" ∈ GT := in_gt (in_t3 (List.mem_of_getElem? (i := 217) rfl)) (by decide +kernel)
set_option maxRecDepth 20000 in
theorem wd_617 : Cond.fieldLink "BadgeZonesModel" 17 "BadgeZonesModel" "begins" "[I" ∈ GT := in_gt (in_t3 (List.mem_of_getElem? (i := 218) rfl)) (by decide +kernel)
set_option maxRecDepth 20000 in
theorem wd_618 : Cond.fieldLink "BadgeZonesModel" 20 "BadgeZonesModel" "ends" "[I" ∈ GT := in_gt (in_t3 (List.mem_of_getElem? (i := 219) rfl)) (by decide +kernel)
set_option maxRecDepth 20000 in
theorem wd_619 : Cond.fieldLink "BadgeZonesModel" 122 "BadgeZonesModel" "isAlarm" "Z" ∈ GT := in_gt (in_t3 (List.mem_of_getElem? (i := 215) rfl)) (by decide +kernel)
set_option maxRecDepth 20000 in
theorem wd_620 : Cond.code yX5_isOpenNow cX5_isOpenNow 3 (some .boolean) ∈ GT := in_gt (in_t4 (List.mem_of_getElem? (i := 86) rfl)) (by decide +kernel)
set_option maxRecDepth 20000 in
theorem wd_621 : Cond.methodLink "BadgeZonesModel" 94 yX5_isOpenNow ∈ GT := in_gt (in_t4 (List.mem_of_getElem? (i := 83) rfl)) (by decide +kernel)
set_option maxRecDepth 20000 in
theorem wd_622 : Cond.instanceMethod yX5_isOpenNow ∈ GT := in_gt (in_t4 (List.mem_of_getElem? (i := 85) rfl)) (by decide +kernel)
set_option maxRecDepth 20000 in
theorem wd_623 : Cond.selects "BadgeZonesModel" yX5_isOpenNow yX5_isOpenNow ∈ GT := in_gt (List.mem_append_left _ (List.mem_map.mpr ⟨_, lw_pv 24 rfl, rfl⟩)) (by decide +kernel)
set_option maxRecDepth 20000 in
theorem wd_624 : Cond.code yX5_rightsOf cX5_rightsOf 2 (some .int) ∈ GT := in_gt (in_t4 (List.mem_of_getElem? (i := 135) rfl)) (by decide +kernel)
set_option maxRecDepth 20000 in
theorem wd_625 : Cond.methodLink "BadgeZonesModel" 115 yX5_rightsOf ∈ GT := in_gt (in_t4 (List.mem_of_getElem? (i := 132) rfl)) (by decide +kernel)
set_option maxRecDepth 20000 in
theorem wd_626 : Cond.instanceMethod yX5_rightsOf ∈ GT := in_gt (in_t4 (List.mem_of_getElem? (i := 134) rfl)) (by decide +kernel)
set_option maxRecDepth 20000 in
theorem wd_627 : Cond.selects "BadgeZonesModel" yX5_rightsOf yX5_rightsOf ∈ GT := in_gt (List.mem_append_left _ (List.mem_map.mpr ⟨_, lw_pv 30 rfl, rfl⟩)) (by decide +kernel)
set_option maxRecDepth 20000 in
theorem wd_628 : Cond.code yX5_has cX5_has 2 (some .boolean) ∈ GT := in_gt (in_t4 (List.mem_of_getElem? (i := 78) rfl)) (by decide +kernel)
set_option maxRecDepth 20000 in
theorem wd_629 : Cond.methodLink "BadgeZonesModel" 83 yX5_has ∈ GT := in_gt (in_t4 (List.mem_of_getElem? (i := 76) rfl)) (by decide +kernel)
set_option maxRecDepth 20000 in
theorem wd_630 : Cond.static yX5_has ∈ GT := in_gt (in_t4 (List.mem_of_getElem? (i := 77) rfl)) (by decide +kernel)
set_option maxRecDepth 20000 in
theorem wd_631 : Cond.code yX5_across cX5_across 3 (some .int) ∈ GT := in_gt (in_t4 (List.mem_of_getElem? (i := 156) rfl)) (by decide +kernel)
set_option maxRecDepth 20000 in
theorem wd_632 : Cond.methodLink "BadgeZonesModel" 126 yX5_across ∈ GT := in_gt (in_t4 (List.mem_of_getElem? (i := 153) rfl)) (by decide +kernel)
set_option maxRecDepth 20000 in
theorem wd_633 : Cond.instanceMethod yX5_across ∈ GT := in_gt (in_t4 (List.mem_of_getElem? (i := 155) rfl)) (by decide +kernel)
set_option maxRecDepth 20000 in
theorem wd_634 : Cond.selects "BadgeZonesModel" yX5_across yX5_across ∈ GT := in_gt (List.mem_append_left _ (List.mem_map.mpr ⟨_, lw_pv 32 rfl, rfl⟩)) (by decide +kernel)
set_option maxRecDepth 20000 in
theorem wd_635 : Cond.code yX5_isNearer cX5_isNearer 5 (some .boolean) ∈ GT := in_gt (in_t4 (List.mem_of_getElem? (i := 160) rfl)) (by decide +kernel)
set_option maxRecDepth 20000 in
theorem wd_636 : Cond.methodLink "BadgeZonesModel" 129 yX5_isNearer ∈ GT := in_gt (in_t4 (List.mem_of_getElem? (i := 157) rfl)) (by decide +kernel)
set_option maxRecDepth 20000 in
theorem wd_637 : Cond.instanceMethod yX5_isNearer ∈ GT := in_gt (in_t4 (List.mem_of_getElem? (i := 159) rfl)) (by decide +kernel)
set_option maxRecDepth 20000 in
theorem wd_638 : Cond.selects "BadgeZonesModel" yX5_isNearer yX5_isNearer ∈ GT := in_gt (List.mem_append_left _ (List.mem_map.mpr ⟨_, lw_pv 33 rfl, rfl⟩)) (by decide +kernel)
set_option maxRecDepth 20000 in
theorem wd_639 : Cond.code yX5_isWithoutHost cX5_isWithoutHost 3 (some .boolean) ∈ GT := in_gt (in_t4 (List.mem_of_getElem? (i := 164) rfl)) (by decide +kernel)
set_option maxRecDepth 20000 in
theorem wd_640 : Cond.methodLink "BadgeZonesModel" 132 yX5_isWithoutHost ∈ GT := in_gt (in_t4 (List.mem_of_getElem? (i := 161) rfl)) (by decide +kernel)
set_option maxRecDepth 20000 in
theorem wd_641 : Cond.instanceMethod yX5_isWithoutHost ∈ GT := in_gt (in_t4 (List.mem_of_getElem? (i := 163) rfl)) (by decide +kernel)
set_option maxRecDepth 20000 in
theorem wd_642 : Cond.selects "BadgeZonesModel" yX5_isWithoutHost yX5_isWithoutHost ∈ GT := in_gt (List.mem_append_left _ (List.mem_map.mpr ⟨_, lw_pv 34 rfl, rfl⟩)) (by decide +kernel)
set_option maxRecDepth 20000 in
theorem wd_643 : Cond.code yX5_insideOf cX5_insideOf 4 (some .int) ∈ GT := in_gt (in_t4 (List.mem_of_getElem? (i := 62) rfl)) (by decide +kernel)
set_option maxRecDepth 20000 in
theorem wd_644 : Cond.methodLink "BadgeZonesModel" 75 yX5_insideOf ∈ GT := in_gt (in_t4 (List.mem_of_getElem? (i := 59) rfl)) (by decide +kernel)
set_option maxRecDepth 20000 in
theorem wd_645 : Cond.instanceMethod yX5_insideOf ∈ GT := in_gt (in_t4 (List.mem_of_getElem? (i := 61) rfl)) (by decide +kernel)
set_option maxRecDepth 20000 in
theorem wd_646 : Cond.selects "BadgeZonesModel" yX5_insideOf yX5_insideOf ∈ GT := in_gt (List.mem_append_left _ (List.mem_map.mpr ⟨_, lw_pv 22 rfl, rfl⟩)) (by decide +kernel)
set_option maxRecDepth 20000 in
theorem wd_647 : Cond.methodLink "BadgeZonesModel" 78 yJ6_bitCount_0f7a4 ∈ GT := in_gt (in_t4 (List.mem_of_getElem? (i := 63) rfl)) (by decide +kernel)
set_option maxRecDepth 20000 in
theorem wd_648 : Cond.code yX5_isExcluded cX5_isExcluded 4 (some .boolean) ∈ GT := in_gt (in_t4 (List.mem_of_getElem? (i := 168) rfl)) (by decide +kernel)
set_option maxRecDepth 20000 in
theorem wd_649 : Cond.methodLink "BadgeZonesModel" 135 yX5_isExcluded ∈ GT := in_gt (in_t4 (List.mem_of_getElem? (i := 165) rfl)) (by decide +kernel)
set_option maxRecDepth 20000 in
theorem wd_650 : Cond.instanceMethod yX5_isExcluded ∈ GT := in_gt (in_t4 (List.mem_of_getElem? (i := 167) rfl)) (by decide +kernel)
set_option maxRecDepth 20000 in
theorem wd_651 : Cond.selects "BadgeZonesModel" yX5_isExcluded yX5_isExcluded ∈ GT := in_gt (List.mem_append_left _ (List.mem_map.mpr ⟨_, lw_pv 35 rfl, rfl⟩)) (by decide +kernel)
set_option maxRecDepth 20000 in
theorem wd_652 : Cond.code yX5_leavesGuests cX5_leavesGuests 4 (some .boolean) ∈ GT := in_gt (in_t4 (List.mem_of_getElem? (i := 172) rfl)) (by decide +kernel)
set_option maxRecDepth 20000 in
theorem wd_653 : Cond.methodLink "BadgeZonesModel" 138 yX5_leavesGuests ∈ GT := in_gt (in_t4 (List.mem_of_getElem? (i := 169) rfl)) (by decide +kernel)
set_option maxRecDepth 20000 in
theorem wd_654 : Cond.instanceMethod yX5_leavesGuests ∈ GT := in_gt (in_t4 (List.mem_of_getElem? (i := 171) rfl)) (by decide +kernel)
set_option maxRecDepth 20000 in
theorem wd_655 : Cond.selects "BadgeZonesModel" yX5_leavesGuests yX5_leavesGuests ∈ GT := in_gt (List.mem_append_left _ (List.mem_map.mpr ⟨_, lw_pv 36 rfl, rfl⟩)) (by decide +kernel)
set_option maxRecDepth 20000 in
theorem wd_656 : Cond.code yX5_told cX5_told 3 (some .int) ∈ GT := in_gt (in_t4 (List.mem_of_getElem? (i := 131) rfl)) (by decide +kernel)
set_option maxRecDepth 20000 in
theorem wd_657 : Cond.methodLink "BadgeZonesModel" 118 yX5_told ∈ GT := in_gt (in_t4 (List.mem_of_getElem? (i := 128) rfl)) (by decide +kernel)
set_option maxRecDepth 20000 in
theorem wd_658 : Cond.instanceMethod yX5_told ∈ GT := in_gt (in_t4 (List.mem_of_getElem? (i := 130) rfl)) (by decide +kernel)
set_option maxRecDepth 20000 in
theorem wd_659 : Cond.selects "BadgeZonesModel" yX5_told yX5_told ∈ GT := in_gt (List.mem_append_left _ (List.mem_map.mpr ⟨_, lw_pv 29 rfl, rfl⟩)) (by decide +kernel)
set_option maxRecDepth 20000 in
theorem wd_660 : Cond.code yX5_wayOf cX5_wayOf 3 (some .int) ∈ GT := in_gt (in_t4 (List.mem_of_getElem? (i := 213) rfl)) (by decide +kernel)
set_option maxRecDepth 20000 in
theorem wd_661 : Cond.methodLink "BadgeZonesModel" 160 yX5_wayOf ∈ GT := in_gt (in_t4 (List.mem_of_getElem? (i := 210) rfl)) (by decide +kernel)
set_option maxRecDepth 20000 in
theorem wd_662 : Cond.instanceMethod yX5_wayOf ∈ GT := in_gt (in_t4 (List.mem_of_getElem? (i := 212) rfl)) (by decide +kernel)
set_option maxRecDepth 20000 in
theorem wd_663 : Cond.selects "BadgeZonesModel" yX5_wayOf yX5_wayOf ∈ GT := in_gt (List.mem_append_left _ (List.mem_map.mpr ⟨_, lw_pv 38 rfl, rfl⟩)) (by decide +kernel)
set_option maxRecDepth 20000 in
theorem wd_664 : Cond.constantLong "BadgeZonesModel" 163 (5549) ∈ GT := in_gt (in_t4 (List.mem_of_getElem? (i := 230) rfl)) (by decide +kernel)
set_option maxRecDepth 20000 in
theorem wd_665 : Cond.fieldLink "BadgeZonesModel" 91 "BadgeZonesModel" "minute" "I" ∈ GT := in_gt (in_t3 (List.mem_of_getElem? (i := 214) rfl)) (by decide +kernel)
set_option maxRecDepth 20000 in
theorem wd_666 : Cond.constantLong "BadgeZonesModel" 165 (31) ∈ GT := in_gt (in_t4 (List.mem_of_getElem? (i := 231) rfl)) (by decide +kernel)
set_option maxRecDepth 20000 in
theorem wd_667 : Cond.code yX5_left cX5_left 2 (some .int) ∈ GT := in_gt (in_t4 (List.mem_of_getElem? (i := 98) rfl)) (by decide +kernel)
set_option maxRecDepth 20000 in
theorem wd_668 : Cond.methodLink "BadgeZonesModel" 106 yX5_left ∈ GT := in_gt (in_t4 (List.mem_of_getElem? (i := 95) rfl)) (by decide +kernel)
set_option maxRecDepth 20000 in
theorem wd_669 : Cond.instanceMethod yX5_left ∈ GT := in_gt (in_t4 (List.mem_of_getElem? (i := 97) rfl)) (by decide +kernel)
set_option maxRecDepth 20000 in
theorem wd_670 : Cond.selects "BadgeZonesModel" yX5_left yX5_left ∈ GT := in_gt (List.mem_append_left _ (List.mem_map.mpr ⟨_, lw_pv 26 rfl, rfl⟩)) (by decide +kernel)
set_option maxRecDepth 20000 in
theorem wd_671 : Cond.code yX5_steps cX5_steps 10 (some .int) ∈ GT := in_gt (in_t4 (List.mem_of_getElem? (i := 75) rfl)) (by decide +kernel)
set_option maxRecDepth 20000 in
theorem wd_672 : Cond.methodLink "BadgeZonesModel" 87 yX5_steps ∈ GT := in_gt (in_t4 (List.mem_of_getElem? (i := 72) rfl)) (by decide +kernel)
set_option maxRecDepth 20000 in
theorem wd_673 : Cond.instanceMethod yX5_steps ∈ GT := in_gt (in_t4 (List.mem_of_getElem? (i := 74) rfl)) (by decide +kernel)
set_option maxRecDepth 20000 in
theorem wd_674 : Cond.selects "BadgeZonesModel" yX5_steps yX5_steps ∈ GT := in_gt (List.mem_append_left _ (List.mem_map.mpr ⟨_, lw_pv 23 rfl, rfl⟩)) (by decide +kernel)
set_option maxRecDepth 20000 in
theorem wd_675 : Cond.methodLink "BadgeZonesModel" 1 ⟨"java/lang/Object", "<init>", "()V"⟩ ∈ GT := in_gt (in_t3 (List.mem_of_getElem? (i := 212) rfl)) (by decide +kernel)
set_option maxRecDepth 20000 in
theorem wd_676 : Cond.fieldLink "BadgeZonesModel" 51 "BadgeZonesModel" "log" "[I" ∈ GT := in_gt (in_t3 (List.mem_of_getElem? (i := 232) rfl)) (by decide +kernel)
set_option maxRecDepth 20000 in
theorem wd_677 : Cond.methodLink "BadgeZonesModel" 97 yJ9_max_7cf53 ∈ GT := in_gt (in_t4 (List.mem_of_getElem? (i := 99) rfl)) (by decide +kernel)
set_option maxRecDepth 20000 in
theorem wd_678 : Cond.fieldLink "BadgeZonesModel" 141 "BadgeZonesModel" "moves" "I" ∈ GT := in_gt (in_t3 (List.mem_of_getElem? (i := 231) rfl)) (by decide +kernel)
set_option maxRecDepth 20000 in
theorem wd_679 : Cond.code yX5_allowed cX5_allowed 4 (some .int) ∈ GT := in_gt (in_t4 (List.mem_of_getElem? (i := 217) rfl)) (by decide +kernel)
set_option maxRecDepth 20000 in
theorem wd_680 : Cond.methodLink "BadgeZonesModel" 157 yX5_allowed ∈ GT := in_gt (in_t4 (List.mem_of_getElem? (i := 214) rfl)) (by decide +kernel)
set_option maxRecDepth 20000 in
theorem wd_681 : Cond.instanceMethod yX5_allowed ∈ GT := in_gt (in_t4 (List.mem_of_getElem? (i := 216) rfl)) (by decide +kernel)
set_option maxRecDepth 20000 in
theorem wd_682 : Cond.selects "BadgeZonesModel" yX5_allowed yX5_allowed ∈ GT := in_gt (List.mem_append_left _ (List.mem_map.mpr ⟨_, lw_pv 39 rfl, rfl⟩)) (by decide +kernel)
set_option maxRecDepth 20000 in
theorem wd_683 : Cond.code yX5_isDoor cX5_isDoor 2 (some .boolean) ∈ GT := in_gt (in_t4 (List.mem_of_getElem? (i := 94) rfl)) (by decide +kernel)
set_option maxRecDepth 20000 in
theorem wd_684 : Cond.methodLink "BadgeZonesModel" 103 yX5_isDoor ∈ GT := in_gt (in_t4 (List.mem_of_getElem? (i := 91) rfl)) (by decide +kernel)
set_option maxRecDepth 20000 in
theorem wd_685 : Cond.instanceMethod yX5_isDoor ∈ GT := in_gt (in_t4 (List.mem_of_getElem? (i := 93) rfl)) (by decide +kernel)
set_option maxRecDepth 20000 in
theorem wd_686 : Cond.selects "BadgeZonesModel" yX5_isDoor yX5_isDoor ∈ GT := in_gt (List.mem_append_left _ (List.mem_map.mpr ⟨_, lw_pv 25 rfl, rfl⟩)) (by decide +kernel)
set_option maxRecDepth 20000 in
theorem wd_687 : Cond.code yX5_answer cX5_answer 4 (some .int) ∈ GT := in_gt (in_t4 (List.mem_of_getElem? (i := 152) rfl)) (by decide +kernel)
set_option maxRecDepth 20000 in
theorem wd_688 : Cond.methodLink "BadgeZonesModel" 150 yX5_answer ∈ GT := in_gt (in_t4 (List.mem_of_getElem? (i := 149) rfl)) (by decide +kernel)
set_option maxRecDepth 20000 in
theorem wd_689 : Cond.instanceMethod yX5_answer ∈ GT := in_gt (in_t4 (List.mem_of_getElem? (i := 151) rfl)) (by decide +kernel)
set_option maxRecDepth 20000 in
theorem wd_690 : Cond.selects "BadgeZonesModel" yX5_answer yX5_answer ∈ GT := in_gt (List.mem_append_left _ (List.mem_map.mpr ⟨_, lw_pv 31 rfl, rfl⟩)) (by decide +kernel)
set_option maxRecDepth 20000 in
theorem wd_691 : Cond.code yX5_note cX5_note 4 none ∈ GT := in_gt (in_t4 (List.mem_of_getElem? (i := 176) rfl)) (by decide +kernel)
set_option maxRecDepth 20000 in
theorem wd_692 : Cond.methodLink "BadgeZonesModel" 153 yX5_note ∈ GT := in_gt (in_t4 (List.mem_of_getElem? (i := 173) rfl)) (by decide +kernel)
set_option maxRecDepth 20000 in
theorem wd_693 : Cond.instanceMethod yX5_note ∈ GT := in_gt (in_t4 (List.mem_of_getElem? (i := 175) rfl)) (by decide +kernel)
set_option maxRecDepth 20000 in
theorem wd_694 : Cond.selects "BadgeZonesModel" yX5_note yX5_note ∈ GT := in_gt (List.mem_append_left _ (List.mem_map.mpr ⟨_, lw_pv 37 rfl, rfl⟩)) (by decide +kernel)
set_option maxRecDepth 20000 in
theorem wd_695 : Cond.constant "BadgeZonesModel" 121 (99999) ∈ GT := in_gt (in_t4 (List.mem_of_getElem? (i := 140) rfl)) (by decide +kernel)
set_option maxRecDepth 20000 in
theorem wd_696 : Cond.instantiable "BadgeZones" 6 ∈ GT := in_gt (in_t1 (List.mem_of_getElem? (i := 24) rfl)) (by decide +kernel)
set_option maxRecDepth 20000 in
theorem wd_697 : Cond.instantiable "BadgeZonesModel" 20 ∈ GT := in_gt (in_t3 (List.mem_of_getElem? (i := 208) rfl)) (by decide +kernel)
set_option maxRecDepth 20000 in
theorem wd_698 : Cond.instantiable "BadgeZones$Zone" 6 ∈ GT := in_gt (in_t1 (List.mem_of_getElem? (i := 32) rfl)) (by decide +kernel)
set_option maxRecDepth 20000 in
theorem wd_699 : Cond.instantiable "BadgeZones$Door" 5 ∈ GT := in_gt (in_t2 (List.mem_of_getElem? (i := 145) rfl)) (by decide +kernel)
set_option maxRecDepth 20000 in
theorem wd_700 : Cond.instantiable "BadgeZones$Badge" 7 ∈ GT := in_gt (in_t2 (List.mem_of_getElem? (i := 223) rfl)) (by decide +kernel)
set_option maxRecDepth 20000 in
theorem wd_701 : Cond.instantiable "BadgeZones$Stay" 2 ∈ GT := in_gt (in_t2 (List.mem_of_getElem? (i := 231) rfl)) (by decide +kernel)
set_option maxRecDepth 20000 in
theorem wd_702 : Cond.instantiable "java/util/ArrayList" 3 ∈ GT := in_gt (in_t1 (List.mem_of_getElem? (i := 66) rfl)) (by decide +kernel)
set_option maxRecDepth 20000 in
theorem wd_703 : Cond.arrayClass .int ∈ GT := in_gt (in_t4 (List.mem_of_getElem? (i := 34) rfl)) (by decide +kernel)
set_option maxRecDepth 20000 in
theorem wd_704 : Cond.arrayClass .boolean ∈ GT := in_gt (in_t4 (List.mem_of_getElem? (i := 35) rfl)) (by decide +kernel)
set_option maxRecDepth 20000 in
theorem wd_705 : Cond.arrayClass .long ∈ GT := in_gt (in_t4 (List.mem_of_getElem? (i := 232) rfl)) (by decide +kernel)
set_option maxRecDepth 20000 in
theorem wd_706 : Cond.methodLink "java/util/Arrays" 86 ⟨"java/lang/Object", "getClass", "()Ljava/lang/Class;"⟩ ∈ GT := in_gt (in_t1 (List.mem_of_getElem? (i := 120) rfl)) (by decide +kernel)
set_option maxRecDepth 20000 in
theorem wd_707 : Cond.methodLink "java/util/Arrays" 150 ⟨"java/lang/System", "arraycopy", "(Ljava/lang/Object;ILjava/lang/Object;II)V"⟩ ∈ GT := in_gt (in_t1 (List.mem_of_getElem? (i := 143) rfl)) (by decide +kernel)
set_option maxRecDepth 20000 in
theorem wd_708 : Cond.methodLink "BadgeZonesModel" 144 ⟨"java/lang/System", "arraycopy", "(Ljava/lang/Object;ILjava/lang/Object;II)V"⟩ ∈ GT := in_gt (in_t4 (List.mem_of_getElem? (i := 177) rfl)) (by decide +kernel)
set_option maxRecDepth 20000 in
theorem wd_709 : Cond.native ⟨"java/lang/System", "arraycopy", "(Ljava/lang/Object;ILjava/lang/Object;II)V"⟩ ∈ GT := in_gt (in_t1 (List.mem_of_getElem? (i := 145) rfl)) (by decide +kernel)
set_option maxRecDepth 20000 in
theorem wd_710 : Cond.static ⟨"java/lang/System", "arraycopy", "(Ljava/lang/Object;ILjava/lang/Object;II)V"⟩ ∈ GT := in_gt (in_t1 (List.mem_of_getElem? (i := 144) rfl)) (by decide +kernel)
set_option maxRecDepth 20000 in
theorem wd_711 : Cond.initialized "java/lang/System" ∈ GT := in_gt (in_t1 (List.mem_of_getElem? (i := 9) rfl)) (by decide +kernel)
set_option maxRecDepth 20000 in
theorem wd_712 : Cond.selects "[Ljava/lang/Object;" ⟨"java/lang/Object", "getClass", "()Ljava/lang/Class;"⟩ ⟨"java/lang/Object", "getClass", "()Ljava/lang/Class;"⟩ ∈ GT := in_gt (in_t5 (List.mem_of_getElem? (i := 7) rfl)) (by decide +kernel)
set_option maxRecDepth 20000 in
theorem wd_713 : Cond.instanceMethod ⟨"java/lang/Object", "getClass", "()Ljava/lang/Class;"⟩ ∈ GT := in_gt (in_t1 (List.mem_of_getElem? (i := 121) rfl)) (by decide +kernel)
set_option maxRecDepth 20000 in
theorem wd_714 : Cond.native ⟨"java/lang/Object", "getClass", "()Ljava/lang/Class;"⟩ ∈ GT := in_gt (in_t1 (List.mem_of_getElem? (i := 133) rfl)) (by decide +kernel)
set_option maxRecDepth 20000 in
theorem wd_715 : Cond.sameField "java/util/ArrayList" "java/util/AbstractList" "modCount" "I" ∈ GT := in_gt (in_t1 (List.mem_of_getElem? (i := 83) rfl)) (by decide +kernel)
set_option maxRecDepth 20000 in
theorem wd_716 : Cond.initialized "java/lang/IllegalArgumentException" ∈ GT := in_gt (in_t1 (List.mem_of_getElem? (i := 14) rfl)) (by decide +kernel)
set_option maxRecDepth 20000 in
theorem wd_717 : Cond.initialized "java/lang/IllegalStateException" ∈ GT := in_gt (in_t1 (List.mem_of_getElem? (i := 15) rfl)) (by decide +kernel)
set_option maxRecDepth 20000 in
theorem wd_718 : Cond.initialized "java/lang/IndexOutOfBoundsException" ∈ GT := in_gt (in_t1 (List.mem_of_getElem? (i := 16) rfl)) (by decide +kernel)
set_option maxRecDepth 20000 in
theorem wd_719 : Cond.classLink "BadgeZonesLaw" 13 "java/lang/IllegalArgumentException" ∈ GT := in_gt (in_t2 (List.mem_of_getElem? (i := 10) rfl)) (by decide +kernel)
set_option maxRecDepth 20000 in
theorem wd_720 : Cond.classLink "BadgeZonesLaw" 15 "java/lang/IllegalStateException" ∈ GT := in_gt (in_t2 (List.mem_of_getElem? (i := 11) rfl)) (by decide +kernel)
set_option maxRecDepth 20000 in
theorem wd_721 : Cond.classLink "BadgeZonesLaw" 21 "java/lang/IndexOutOfBoundsException" ∈ GT := in_gt (in_t2 (List.mem_of_getElem? (i := 110) rfl)) (by decide +kernel)
theorem ks_J15_105 : LkS RJ15 105 yJ3_checkIndex_8e157 cJ3_checkIndex_8e157 3 (some .int) 3 := ⟨wd_1, wd_2, wd_3, wd_0, by decide +kernel, by decide +kernel⟩
theorem kk_J6_265 : Cond.constant RJ6 265 (1431655765) ∈ GT := wd_4
theorem kk_J6_266 : Cond.constant RJ6 266 (858993459) ∈ GT := wd_5
theorem kk_J6_267 : Cond.constant RJ6 267 (252645135) ∈ GT := wd_6
theorem ks_J7_300 : LkS RJ7 300 yJ7_copyOf_6403c cJ7_copyOf_6403c 4 (some (.array (.object "java/lang/Object"))) 3 := ⟨wd_8, wd_9, wd_10, wd_7, by decide +kernel, by decide +kernel⟩
theorem kc_J7_2 : Cond.classLink RJ7 2 "java/lang/Object" ∈ GT := wd_11
theorem kc_J7_110 : Cond.classLink RJ7 110 "[Ljava/lang/Object;" ∈ GT := wd_12
theorem ks_J7_304 : LkS RJ7 304 yJ9_min_7cf53 cJ9_min_7cf53 2 (some .int) 2 := ⟨wd_14, wd_15, wd_16, wd_13, by decide +kernel, by decide +kernel⟩
theorem kk_J8_200 : Cond.constant RJ8 200 (2147483639) ∈ GT := wd_17
theorem ks_J8_194 : LkS RJ8 194 yJ9_max_7cf53 cJ9_max_7cf53 2 (some .int) 2 := ⟨wd_19, wd_20, wd_16, wd_18, by decide +kernel, by decide +kernel⟩
theorem ks_J8_201 : LkS RJ8 201 yJ8_hugeLength_7cf53 cJ8_hugeLength_7cf53 3 (some .int) 2 := ⟨wd_22, wd_23, wd_24, wd_21, by decide +kernel, by decide +kernel⟩
theorem kv_Jx4a65c_129 : LkV RJx4a65c 129 yJx4a65c_grow_d5877 RJx4a65c cJx4a65c_grow_d5877 1 (some (.array (.object "java/lang/Object"))) 0 := ⟨wd_26, wd_27, wd_28, wd_29, wd_25, by decide +kernel, by decide +kernel⟩
theorem kf_Jx4a65c_48 : Cond.fieldLink RJx4a65c 48 "java/util/ArrayList" "size" "I" ∈ GT := wd_30
theorem kf_Jx4a65c_63 : Cond.fieldLink RJx4a65c 63 "java/util/ArrayList" "modCount" "I" ∈ GT := wd_31
theorem kf_Jx4a65c_9 : Cond.fieldLink RJx4a65c 9 "java/util/ArrayList" "elementData" "[Ljava/lang/Object;" ∈ GT := wd_32
theorem kv_Jx4a65c_131 : LkV RJx4a65c 131 yJx4a65c_add_72be8 RJx4a65c cJx4a65c_add_72be8 4 none 3 := ⟨wd_34, wd_35, wd_36, wd_29, wd_33, by decide +kernel, by decide +kernel⟩
theorem ks_Jx4a65c_118 : LkS RJx4a65c 118 yJ15_checkIndex_7cf53 cJ15_checkIndex_7cf53 2 (some .int) 2 := ⟨wd_38, wd_39, wd_40, wd_37, by decide +kernel, by decide +kernel⟩
theorem kv_Jx4a65c_123 : LkV RJx4a65c 123 yJx4a65c_elementData_915e3 RJx4a65c cJx4a65c_elementData_915e3 2 (some (.object "java/lang/Object")) 1 := ⟨wd_42, wd_43, wd_44, wd_29, wd_41, by decide +kernel, by decide +kernel⟩
theorem kf_Jx4a65c_39 : Cond.fieldLink RJx4a65c 39 "java/util/ArrayList" "DEFAULTCAPACITY_EMPTY_ELEMENTDATA" "[Ljava/lang/Object;" ∈ GT := wd_45
theorem ks_Jx4a65c_73 : LkS RJx4a65c 73 yJ8_newLength_cabcc cJ8_newLength_cabcc 4 (some .int) 3 := ⟨wd_47, wd_48, wd_24, wd_46, by decide +kernel, by decide +kernel⟩
theorem ks_Jx4a65c_66 : LkS RJx4a65c 66 yJ7_copyOf_1904c cJ7_copyOf_1904c 2 (some (.array (.object "java/lang/Object"))) 2 := ⟨wd_50, wd_51, wd_10, wd_49, by decide +kernel, by decide +kernel⟩
theorem ks_Jx4a65c_79 : LkS RJx4a65c 79 yJ9_max_7cf53 cJ9_max_7cf53 2 (some .int) 2 := ⟨wd_52, wd_20, wd_16, wd_18, by decide +kernel, by decide +kernel⟩
theorem kc_Jx4a65c_7 : Cond.classLink RJx4a65c 7 "java/lang/Object" ∈ GT := wd_53
theorem kv_Jx4a65c_69 : LkV RJx4a65c 69 yJx4a65c_grow_92f84 RJx4a65c cJx4a65c_grow_92f84 4 (some (.array (.object "java/lang/Object"))) 1 := ⟨wd_55, wd_56, wd_57, wd_29, wd_54, by decide +kernel, by decide +kernel⟩
theorem ki_Jx4a65c_1 : LkI RJx4a65c 1 yJxc12de_init_da8c8 cJxc12de_init_da8c8 1 0 := ⟨wd_59, wd_60, wd_61, wd_58, by decide +kernel, by decide +kernel, by decide +kernel⟩
theorem ko_Jxa1e45_1 : LkO RJxa1e45 1 := ⟨wd_62, wd_63, wd_64⟩
theorem ki_Jxc12de_1 : LkI RJxc12de 1 yJxa1e45_init_da8c8 cJxa1e45_init_da8c8 1 0 := ⟨wd_66, wd_67, wd_68, wd_65, by decide +kernel, by decide +kernel, by decide +kernel⟩
theorem kf_Jxc12de_7 : Cond.fieldLink RJxc12de 7 "java/util/AbstractList" "modCount" "I" ∈ GT := wd_69
theorem kv_L_37 : LkV RL 37 yX4_addBadge RX4 cX4_addBadge 2 (some .int) 1 := ⟨wd_71, wd_72, wd_73, wd_74, wd_70, by decide +kernel, by decide +kernel⟩
theorem kv_L_23 : LkV RL 23 yX4_addDoor RX4 cX4_addDoor 8 (some .int) 4 := ⟨wd_76, wd_77, wd_78, wd_74, wd_75, by decide +kernel, by decide +kernel⟩
theorem kv_L_40 : LkV RL 40 yX4_addVisitor RX4 cX4_addVisitor 3 (some .int) 1 := ⟨wd_80, wd_81, wd_82, wd_74, wd_79, by decide +kernel, by decide +kernel⟩
theorem kv_L_7 : LkV RL 7 yX4_addZone RX4 cX4_addZone 5 (some .int) 3 := ⟨wd_84, wd_85, wd_86, wd_74, wd_83, by decide +kernel, by decide +kernel⟩
theorem kv_L_51 : LkV RL 51 yX4_badge RX4 cX4_badge 4 (some .int) 2 := ⟨wd_88, wd_89, wd_90, wd_74, wd_87, by decide +kernel, by decide +kernel⟩
theorem kv_L_47 : LkV RL 47 yX4_block RX4 cX4_block 5 (some .boolean) 2 := ⟨wd_92, wd_93, wd_94, wd_74, wd_91, by decide +kernel, by decide +kernel⟩
theorem kv_L_78 : LkV RL 78 yX4_canCome RX4 cX4_canCome 6 (some .int) 1 := ⟨wd_96, wd_97, wd_98, wd_74, wd_95, by decide +kernel, by decide +kernel⟩
theorem kv_L_26 : LkV RL 26 yX4_distance RX4 cX4_distance 3 (some .int) 1 := ⟨wd_100, wd_101, wd_102, wd_74, wd_99, by decide +kernel, by decide +kernel⟩
theorem kv_L_63 : LkV RL 63 yX4_inside RX4 cX4_inside 2 (some .int) 1 := ⟨wd_104, wd_105, wd_106, wd_74, wd_103, by decide +kernel, by decide +kernel⟩
theorem kv_L_30 : LkV RL 30 yX4_isOpen RX4 cX4_isOpen 2 (some .boolean) 1 := ⟨wd_108, wd_109, wd_110, wd_74, wd_107, by decide +kernel, by decide +kernel⟩
theorem kc_L_8 : Cond.classLink RL 8 "BadgeZones" ∈ GT := wd_111
theorem ki_L_81 : LkI RL 81 yX4_init cX4_init 1 0 := ⟨wd_113, wd_114, wd_74, wd_112, by decide +kernel, by decide +kernel, by decide +kernel⟩
theorem kc_L_82 : Cond.classLink RL 82 "BadgeZonesModel" ∈ GT := wd_115
theorem ki_L_84 : LkI RL 84 yX5_init cX5_init 1 0 := ⟨wd_117, wd_118, wd_119, wd_116, by decide +kernel, by decide +kernel, by decide +kernel⟩
theorem ks_L_85 : LkSW RL 85 yL_addZone cL_addZone 6 (some .int) [(0, 12, 15, 13), (0, 12, 19, 15)] 5 := ⟨wd_121, wd_122, wd_123, wd_120, by decide +kernel, by decide +kernel⟩
theorem kv_L_90 : LkV RL 90 yX5_addZone RX5 cX5_addZone 4 (some .int) 3 := ⟨wd_125, wd_126, wd_127, wd_119, wd_124, by decide +kernel, by decide +kernel⟩
theorem kv_L_91 : LkV RL 91 yX5_thrown RX5 cX5_thrown 1 (some .int) 0 := ⟨wd_129, wd_130, wd_131, wd_119, wd_128, by decide +kernel, by decide +kernel⟩
theorem ks_L_95 : LkSW RL 95 yL_setZone cL_setZone 7 (some .int) [(0, 14, 17, 21), (0, 14, 21, 13)] 6 := ⟨wd_133, wd_134, wd_123, wd_132, by decide +kernel, by decide +kernel⟩
theorem kv_L_98 : LkV RL 98 yX5_setZone RX5 cX5_setZone 5 (some .int) 4 := ⟨wd_136, wd_137, wd_138, wd_119, wd_135, by decide +kernel, by decide +kernel⟩
theorem ks_L_99 : LkSW RL 99 yL_addDoor cL_addDoor 7 (some .int) [(0, 14, 17, 21), (0, 14, 21, 13), (0, 14, 25, 15)] 6 := ⟨wd_140, wd_141, wd_123, wd_139, by decide +kernel, by decide +kernel⟩
theorem kv_L_101 : LkV RL 101 yX5_addDoor RX5 cX5_addDoor 5 (some .int) 4 := ⟨wd_143, wd_144, wd_145, wd_119, wd_142, by decide +kernel, by decide +kernel⟩
theorem ks_L_102 : LkSW RL 102 yL_distance cL_distance 4 (some .int) [(0, 9, 12, 21)] 3 := ⟨wd_147, wd_148, wd_123, wd_146, by decide +kernel, by decide +kernel⟩
theorem kv_L_105 : LkV RL 105 yX5_distance RX5 cX5_distance 2 (some .int) 1 := ⟨wd_150, wd_151, wd_152, wd_119, wd_149, by decide +kernel, by decide +kernel⟩
theorem ks_L_106 : LkSW RL 106 yL_isOpen cL_isOpen 4 (some .int) [(0, 16, 19, 21)] 3 := ⟨wd_154, wd_155, wd_123, wd_153, by decide +kernel, by decide +kernel⟩
theorem kv_L_108 : LkV RL 108 yX5_isOpen RX5 cX5_isOpen 2 (some .boolean) 1 := ⟨wd_157, wd_158, wd_159, wd_119, wd_156, by decide +kernel, by decide +kernel⟩
theorem ks_L_109 : LkSW RL 109 yL_openFor cL_openFor 4 (some .int) [(0, 9, 12, 21)] 3 := ⟨wd_161, wd_162, wd_123, wd_160, by decide +kernel, by decide +kernel⟩
theorem kv_L_111 : LkV RL 111 yX5_openFor RX5 cX5_openFor 2 (some .int) 1 := ⟨wd_164, wd_165, wd_166, wd_119, wd_163, by decide +kernel, by decide +kernel⟩
theorem ks_L_112 : LkSW RL 112 yL_addBadge cL_addBadge 4 (some .int) [(0, 9, 12, 13), (0, 9, 15, 15)] 3 := ⟨wd_168, wd_169, wd_123, wd_167, by decide +kernel, by decide +kernel⟩
theorem kv_L_114 : LkV RL 114 yX5_addBadge RX5 cX5_addBadge 2 (some .int) 1 := ⟨wd_171, wd_172, wd_173, wd_119, wd_170, by decide +kernel, by decide +kernel⟩
theorem ks_L_115 : LkSW RL 115 yL_addVisitor cL_addVisitor 4 (some .int) [(0, 9, 12, 21), (0, 9, 15, 13), (0, 9, 18, 15)] 3 := ⟨wd_175, wd_176, wd_123, wd_174, by decide +kernel, by decide +kernel⟩
theorem kv_L_117 : LkV RL 117 yX5_addVisitor RX5 cX5_addVisitor 2 (some .int) 1 := ⟨wd_178, wd_179, wd_180, wd_119, wd_177, by decide +kernel, by decide +kernel⟩
theorem ks_L_118 : LkSW RL 118 yL_setRights cL_setRights 5 (some .int) [(0, 10, 13, 21), (0, 10, 17, 13), (0, 10, 21, 15)] 4 := ⟨wd_182, wd_183, wd_123, wd_181, by decide +kernel, by decide +kernel⟩
theorem kv_L_121 : LkV RL 121 yX5_setRights RX5 cX5_setRights 4 (some .int) 2 := ⟨wd_185, wd_186, wd_187, wd_119, wd_184, by decide +kernel, by decide +kernel⟩
theorem ks_L_122 : LkSW RL 122 yL_block cL_block 5 (some .int) [(0, 17, 20, 21)] 4 := ⟨wd_189, wd_190, wd_123, wd_188, by decide +kernel, by decide +kernel⟩
theorem kv_L_125 : LkV RL 125 yX5_block RX5 cX5_block 4 (some .boolean) 2 := ⟨wd_192, wd_193, wd_194, wd_119, wd_191, by decide +kernel, by decide +kernel⟩
theorem ks_L_126 : LkSW RL 126 yL_badge cL_badge 5 (some .int) [(0, 10, 13, 21)] 4 := ⟨wd_196, wd_197, wd_123, wd_195, by decide +kernel, by decide +kernel⟩
theorem kv_L_128 : LkV RL 128 yX5_badge RX5 cX5_badge 3 (some .int) 2 := ⟨wd_199, wd_200, wd_201, wd_119, wd_198, by decide +kernel, by decide +kernel⟩
theorem ks_L_129 : LkSW RL 129 yL_tick cL_tick 4 (some .int) [(0, 9, 12, 13), (0, 9, 15, 15)] 3 := ⟨wd_203, wd_204, wd_123, wd_202, by decide +kernel, by decide +kernel⟩
theorem kv_L_131 : LkV RL 131 yX5_tick RX5 cX5_tick 2 (some .int) 1 := ⟨wd_206, wd_207, wd_208, wd_119, wd_205, by decide +kernel, by decide +kernel⟩
theorem kv_L_132 : LkV RL 132 yX4_alarm RX4 cX4_alarm 3 (some .boolean) 1 := ⟨wd_210, wd_211, wd_212, wd_74, wd_209, by decide +kernel, by decide +kernel⟩
theorem kv_L_136 : LkV RL 136 yX5_alarm RX5 cX5_alarm 3 (some .boolean) 1 := ⟨wd_214, wd_215, wd_216, wd_119, wd_213, by decide +kernel, by decide +kernel⟩
theorem ks_L_137 : LkSW RL 137 yL_request cL_request 5 (some .int) [(0, 10, 13, 21)] 4 := ⟨wd_218, wd_219, wd_123, wd_217, by decide +kernel, by decide +kernel⟩
theorem kv_L_139 : LkV RL 139 yX5_request RX5 cX5_request 4 (some .int) 2 := ⟨wd_221, wd_222, wd_223, wd_119, wd_220, by decide +kernel, by decide +kernel⟩
theorem ks_L_140 : LkSW RL 140 yL_wouldBe cL_wouldBe 5 (some .int) [(0, 10, 13, 21)] 4 := ⟨wd_225, wd_226, wd_123, wd_224, by decide +kernel, by decide +kernel⟩
theorem kv_L_142 : LkV RL 142 yX5_wouldBe RX5 cX5_wouldBe 3 (some .int) 2 := ⟨wd_228, wd_229, wd_230, wd_119, wd_227, by decide +kernel, by decide +kernel⟩
theorem kv_L_143 : LkV RL 143 yX4_now RX4 cX4_now 1 (some .int) 0 := ⟨wd_232, wd_233, wd_234, wd_74, wd_231, by decide +kernel, by decide +kernel⟩
theorem kv_L_146 : LkV RL 146 yX5_now RX5 cX5_now 1 (some .int) 0 := ⟨wd_236, wd_237, wd_238, wd_119, wd_235, by decide +kernel, by decide +kernel⟩
theorem ks_L_147 : LkSW RL 147 yL_inside cL_inside 4 (some .int) [(0, 9, 12, 21)] 3 := ⟨wd_240, wd_241, wd_123, wd_239, by decide +kernel, by decide +kernel⟩
theorem kv_L_149 : LkV RL 149 yX5_inside RX5 cX5_inside 2 (some .int) 1 := ⟨wd_243, wd_244, wd_245, wd_119, wd_242, by decide +kernel, by decide +kernel⟩
theorem kv_L_150 : LkV RL 150 yX4_alone RX4 cX4_alone 3 (some .int) 0 := ⟨wd_247, wd_248, wd_249, wd_74, wd_246, by decide +kernel, by decide +kernel⟩
theorem kv_L_153 : LkV RL 153 yX5_alone RX5 cX5_alone 3 (some .int) 0 := ⟨wd_251, wd_252, wd_253, wd_119, wd_250, by decide +kernel, by decide +kernel⟩
theorem ks_L_154 : LkSW RL 154 yL_wasIn cL_wasIn 5 (some .int) [(0, 10, 13, 21), (0, 10, 17, 13)] 4 := ⟨wd_255, wd_256, wd_123, wd_254, by decide +kernel, by decide +kernel⟩
theorem kv_L_156 : LkV RL 156 yX5_wasIn RX5 cX5_wasIn 5 (some .int) 2 := ⟨wd_258, wd_259, wd_260, wd_119, wd_257, by decide +kernel, by decide +kernel⟩
theorem ks_L_157 : LkSW RL 157 yL_minutesIn cL_minutesIn 5 (some .int) [(0, 10, 13, 21)] 4 := ⟨wd_262, wd_263, wd_123, wd_261, by decide +kernel, by decide +kernel⟩
theorem kv_L_159 : LkV RL 159 yX5_minutesIn RX5 cX5_minutesIn 7 (some .int) 2 := ⟨wd_265, wd_266, wd_267, wd_119, wd_264, by decide +kernel, by decide +kernel⟩
theorem kv_L_160 : LkV RL 160 yX4_presence RX4 cX4_presence 2 (some .double) 0 := ⟨wd_269, wd_270, wd_271, wd_74, wd_268, by decide +kernel, by decide +kernel⟩
theorem kv_L_164 : LkV RL 164 yX5_presence RX5 cX5_presence 1 (some .double) 0 := ⟨wd_273, wd_274, wd_275, wd_119, wd_272, by decide +kernel, by decide +kernel⟩
theorem ks_L_165 : LkSW RL 165 yL_way cL_way 5 (some .int) [(0, 10, 13, 21)] 4 := ⟨wd_277, wd_278, wd_123, wd_276, by decide +kernel, by decide +kernel⟩
theorem kv_L_167 : LkV RL 167 yX5_way RX5 cX5_way 3 (some .int) 2 := ⟨wd_280, wd_281, wd_282, wd_119, wd_279, by decide +kernel, by decide +kernel⟩
theorem ks_L_168 : LkSW RL 168 yL_next cL_next 5 (some .int) [(0, 10, 13, 21)] 4 := ⟨wd_284, wd_285, wd_123, wd_283, by decide +kernel, by decide +kernel⟩
theorem kv_L_170 : LkV RL 170 yX5_next RX5 cX5_next 7 (some .int) 2 := ⟨wd_287, wd_288, wd_289, wd_119, wd_286, by decide +kernel, by decide +kernel⟩
theorem ks_L_171 : LkSW RL 171 yL_canCome cL_canCome 4 (some .int) [(0, 9, 12, 21)] 3 := ⟨wd_291, wd_292, wd_123, wd_290, by decide +kernel, by decide +kernel⟩
theorem kv_L_173 : LkV RL 173 yX5_canCome RX5 cX5_canCome 4 (some .int) 1 := ⟨wd_294, wd_295, wd_296, wd_119, wd_293, by decide +kernel, by decide +kernel⟩
theorem kv_L_174 : LkV RL 174 yX4_digest RX4 cX4_digest 6 (some .long) 0 := ⟨wd_298, wd_299, wd_300, wd_74, wd_297, by decide +kernel, by decide +kernel⟩
theorem kv_L_178 : LkV RL 178 yX5_digest RX5 cX5_digest 5 (some .long) 0 := ⟨wd_302, wd_303, wd_304, wd_119, wd_301, by decide +kernel, by decide +kernel⟩
theorem kv_L_69 : LkV RL 69 yX4_minutesIn RX4 cX4_minutesIn 4 (some .int) 2 := ⟨wd_306, wd_307, wd_308, wd_74, wd_305, by decide +kernel, by decide +kernel⟩
theorem kv_L_75 : LkV RL 75 yX4_next RX4 cX4_next 4 (some .int) 2 := ⟨wd_310, wd_311, wd_312, wd_74, wd_309, by decide +kernel, by decide +kernel⟩
theorem kv_L_34 : LkV RL 34 yX4_openFor RX4 cX4_openFor 2 (some .int) 1 := ⟨wd_314, wd_315, wd_316, wd_74, wd_313, by decide +kernel, by decide +kernel⟩
theorem kv_L_57 : LkV RL 57 yX4_request RX4 cX4_request 6 (some .int) 2 := ⟨wd_318, wd_319, wd_320, wd_74, wd_317, by decide +kernel, by decide +kernel⟩
theorem kv_L_43 : LkV RL 43 yX4_setRights RX4 cX4_setRights 5 (some .int) 2 := ⟨wd_322, wd_323, wd_324, wd_74, wd_321, by decide +kernel, by decide +kernel⟩
theorem kv_L_17 : LkV RL 17 yX4_setZone RX4 cX4_setZone 6 (some .int) 4 := ⟨wd_326, wd_327, wd_328, wd_74, wd_325, by decide +kernel, by decide +kernel⟩
theorem kv_L_54 : LkV RL 54 yX4_tick RX4 cX4_tick 2 (some .int) 1 := ⟨wd_330, wd_331, wd_332, wd_74, wd_329, by decide +kernel, by decide +kernel⟩
theorem kv_L_66 : LkV RL 66 yX4_wasIn RX4 cX4_wasIn 4 (some .int) 2 := ⟨wd_334, wd_335, wd_336, wd_74, wd_333, by decide +kernel, by decide +kernel⟩
theorem kv_L_72 : LkV RL 72 yX4_way RX4 cX4_way 4 (some .int) 2 := ⟨wd_338, wd_339, wd_340, wd_74, wd_337, by decide +kernel, by decide +kernel⟩
theorem kv_L_60 : LkV RL 60 yX4_wouldBe RX4 cX4_wouldBe 4 (some .int) 2 := ⟨wd_342, wd_343, wd_344, wd_74, wd_341, by decide +kernel, by decide +kernel⟩
theorem kf_X0_22 : Cond.fieldLink RX0 22 "BadgeZones$Badge" "refusals" "I" ∈ GT := wd_345
theorem kf_X0_18 : Cond.fieldLink RX0 18 "BadgeZones$Badge" "isBlocked" "Z" ∈ GT := wd_346
theorem kf_X0_41 : Cond.fieldLink RX0 41 "BadgeZones$Badge" "stay" "LBadgeZones$Stay;" ∈ GT := wd_347
theorem kf_X0_60 : Cond.fieldLink RX0 60 "BadgeZones$Stay" "since" "I" ∈ GT := wd_348
theorem kf_X0_12 : Cond.fieldLink RX0 12 "BadgeZones$Badge" "stays" "Ljava/util/ArrayList;" ∈ GT := wd_349
theorem kv_X0_63 : LkV RX0 63 yJx4a65c_size_8abf5 RJx4a65c cJx4a65c_size_8abf5 1 (some .int) 0 := ⟨wd_351, wd_352, wd_353, wd_29, wd_350, by decide +kernel, by decide +kernel⟩
theorem kf_X0_56 : Cond.fieldLink RX0 56 "BadgeZones$Stay" "zone" "LBadgeZones$Zone;" ∈ GT := wd_354
theorem kc_X0_36 : Cond.classLink RX0 36 "BadgeZones$Stay" ∈ GT := wd_355
theorem ki_X0_38 : LkI RX0 38 yX2_init cX2_init 3 2 := ⟨wd_357, wd_358, wd_359, wd_356, by decide +kernel, by decide +kernel, by decide +kernel⟩
theorem kv_X0_45 : LkV RX0 45 yJx4a65c_add_9ea2d RJx4a65c cJx4a65c_add_9ea2d 2 (some .boolean) 1 := ⟨wd_361, wd_362, wd_363, wd_29, wd_360, by decide +kernel, by decide +kernel⟩
theorem kf_X0_49 : Cond.fieldLink RX0 49 "BadgeZones$Zone" "number" "I" ∈ GT := wd_364
theorem kv_X0_52 : LkV RX0 52 yX0_rightsNow RX0 cX0_rightsNow 1 (some .int) 0 := ⟨wd_366, wd_367, wd_368, wd_369, wd_365, by decide +kernel, by decide +kernel⟩
theorem ko_X0_3 : LkO RX0 3 := ⟨wd_370, wd_63, wd_64⟩
theorem kc_X0_9 : Cond.classLink RX0 9 "java/util/ArrayList" ∈ GT := wd_371
theorem ki_X0_11 : LkI RX0 11 yJx4a65c_init_da8c8 cJx4a65c_init_da8c8 1 0 := ⟨wd_373, wd_374, wd_29, wd_372, by decide +kernel, by decide +kernel, by decide +kernel⟩
theorem kf_X0_26 : Cond.fieldLink RX0 26 "BadgeZones$Badge" "number" "I" ∈ GT := wd_375
theorem kf_X0_29 : Cond.fieldLink RX0 29 "BadgeZones$Badge" "host" "LBadgeZones$Badge;" ∈ GT := wd_376
theorem kf_X0_33 : Cond.fieldLink RX0 33 "BadgeZones$Badge" "ownRights" "I" ∈ GT := wd_377
theorem kv_X0_66 : LkV RX0 66 yJx4a65c_get_915e3 RJx4a65c cJx4a65c_get_915e3 2 (some (.object "java/lang/Object")) 1 := ⟨wd_379, wd_380, wd_381, wd_29, wd_378, by decide +kernel, by decide +kernel⟩
theorem kf_X1_25 : Cond.fieldLink RX1 25 "BadgeZones$Door" "lock" "I" ∈ GT := wd_382
theorem ko_X1_3 : LkO RX1 3 := ⟨wd_383, wd_63, wd_64⟩
theorem kf_X1_9 : Cond.fieldLink RX1 9 "BadgeZones$Door" "openUntil" "I" ∈ GT := wd_384
theorem kf_X1_15 : Cond.fieldLink RX1 15 "BadgeZones$Door" "sideA" "LBadgeZones$Zone;" ∈ GT := wd_385
theorem kf_X1_19 : Cond.fieldLink RX1 19 "BadgeZones$Door" "sideB" "LBadgeZones$Zone;" ∈ GT := wd_386
theorem kf_X1_22 : Cond.fieldLink RX1 22 "BadgeZones$Door" "hold" "I" ∈ GT := wd_387
theorem ks_X1_34 : LkS RX1 34 yX1_measureFrom cX1_measureFrom 3 none 3 := ⟨wd_389, wd_390, wd_391, wd_388, by decide +kernel, by decide +kernel⟩
theorem kf_X1_38 : Cond.fieldLink RX1 38 "BadgeZones$Zone" "isOnTheWay" "Z" ∈ GT := wd_392
theorem kf_X1_44 : Cond.fieldLink RX1 44 "BadgeZones$Zone" "doorsLeft" "I" ∈ GT := wd_393
theorem ks_X1_28 : LkS RX1 28 yJ9_max_7cf53 cJ9_max_7cf53 2 (some .int) 2 := ⟨wd_394, wd_20, wd_16, wd_18, by decide +kernel, by decide +kernel⟩
theorem ko_X2_1 : LkO RX2 1 := ⟨wd_395, wd_63, wd_64⟩
theorem kf_X2_7 : Cond.fieldLink RX2 7 "BadgeZones$Stay" "zone" "LBadgeZones$Zone;" ∈ GT := wd_396
theorem kf_X2_13 : Cond.fieldLink RX2 13 "BadgeZones$Stay" "since" "I" ∈ GT := wd_397
theorem kf_X3_28 : Cond.fieldLink RX3 28 "BadgeZones$Zone" "end" "I" ∈ GT := wd_398
theorem kf_X3_25 : Cond.fieldLink RX3 25 "BadgeZones$Zone" "begin" "I" ∈ GT := wd_399
theorem ko_X3_3 : LkO RX3 3 := ⟨wd_400, wd_63, wd_64⟩
theorem kf_X3_9 : Cond.fieldLink RX3 9 "BadgeZones$Zone" "isOnTheWay" "Z" ∈ GT := wd_401
theorem kf_X3_15 : Cond.fieldLink RX3 15 "BadgeZones$Zone" "doorsLeft" "I" ∈ GT := wd_402
theorem kf_X3_19 : Cond.fieldLink RX3 19 "BadgeZones$Zone" "number" "I" ∈ GT := wd_403
theorem kf_X3_22 : Cond.fieldLink RX3 22 "BadgeZones$Zone" "capacity" "I" ∈ GT := wd_404
theorem ks_X4_114 : LkS RX4 114 yX4_checkRights cX4_checkRights 1 none 1 := ⟨wd_406, wd_407, wd_74, wd_405, by decide +kernel, by decide +kernel⟩
theorem kv_X4_118 : LkV RX4 118 yX4_keepBadge RX4 cX4_keepBadge 4 (some .int) 2 := ⟨wd_409, wd_410, wd_411, wd_74, wd_408, by decide +kernel, by decide +kernel⟩
theorem kv_X4_58 : LkV RX4 58 yX4_zoneAt RX4 cX4_zoneAt 2 (some (.object "BadgeZones$Zone")) 1 := ⟨wd_413, wd_414, wd_415, wd_74, wd_412, by decide +kernel, by decide +kernel⟩
theorem ks_X4_80 : LkS RX4 80 yX4_isWithin cX4_isWithin 3 (some .boolean) 3 := ⟨wd_417, wd_418, wd_74, wd_416, by decide +kernel, by decide +kernel⟩
theorem kc_X4_84 : Cond.classLink RX4 84 "java/lang/IllegalArgumentException" ∈ GT := wd_419
theorem kf_X4_25 : Cond.fieldLink RX4 25 "BadgeZones" "doors" "Ljava/util/ArrayList;" ∈ GT := wd_420
theorem kv_X4_47 : LkV RX4 47 yJx4a65c_size_8abf5 RJx4a65c cJx4a65c_size_8abf5 1 (some .int) 0 := ⟨wd_421, wd_352, wd_353, wd_29, wd_350, by decide +kernel, by decide +kernel⟩
theorem kc_X4_51 : Cond.classLink RX4 51 "java/lang/IllegalStateException" ∈ GT := wd_422
theorem kc_X4_91 : Cond.classLink RX4 91 "BadgeZones$Door" ∈ GT := wd_423
theorem ki_X4_93 : LkI RX4 93 yX1_init cX1_init 5 4 := ⟨wd_425, wd_426, wd_391, wd_424, by decide +kernel, by decide +kernel, by decide +kernel⟩
theorem kv_X4_39 : LkV RX4 39 yJx4a65c_add_9ea2d RJx4a65c cJx4a65c_add_9ea2d 2 (some .boolean) 1 := ⟨wd_427, wd_362, wd_363, wd_29, wd_360, by decide +kernel, by decide +kernel⟩
theorem kk_X4_228 : Cond.constantLong RX4 228 (31) ∈ GT := wd_428
theorem kv_X4_122 : LkV RX4 122 yX4_badgeAt RX4 cX4_badgeAt 2 (some (.object "BadgeZones$Badge")) 1 := ⟨wd_430, wd_431, wd_432, wd_74, wd_429, by decide +kernel, by decide +kernel⟩
theorem kf_X4_126 : Cond.fieldLink RX4 126 "BadgeZones$Badge" "host" "LBadgeZones$Badge;" ∈ GT := wd_433
theorem ks_X4_43 : LkS RX4 43 yX4_checkZone cX4_checkZone 3 none 3 := ⟨wd_435, wd_436, wd_74, wd_434, by decide +kernel, by decide +kernel⟩
theorem kf_X4_21 : Cond.fieldLink RX4 21 "BadgeZones" "zones" "Ljava/util/ArrayList;" ∈ GT := wd_437
theorem kc_X4_9 : Cond.classLink RX4 9 "BadgeZones$Zone" ∈ GT := wd_438
theorem ki_X4_11 : LkI RX4 11 yX3_init cX3_init 5 4 := ⟨wd_440, wd_441, wd_442, wd_439, by decide +kernel, by decide +kernel, by decide +kernel⟩
theorem kf_X4_35 : Cond.fieldLink RX4 35 "BadgeZones" "isAlarm" "Z" ∈ GT := wd_443
theorem kf_X4_28 : Cond.fieldLink RX4 28 "BadgeZones" "badges" "Ljava/util/ArrayList;" ∈ GT := wd_444
theorem kv_X4_169 : LkV RX4 169 yJx4a65c_get_915e3 RJx4a65c cJx4a65c_get_915e3 2 (some (.object "java/lang/Object")) 1 := ⟨wd_445, wd_380, wd_381, wd_29, wd_378, by decide +kernel, by decide +kernel⟩
theorem kc_X4_127 : Cond.classLink RX4 127 "BadgeZones$Badge" ∈ GT := wd_446
theorem kf_X4_14 : Cond.fieldLink RX4 14 "BadgeZones" "outside" "LBadgeZones$Zone;" ∈ GT := wd_447
theorem kv_X4_173 : LkV RX4 173 yX0_isAlone RX0 cX0_isAlone 2 (some .boolean) 1 := ⟨wd_449, wd_450, wd_451, wd_369, wd_448, by decide +kernel, by decide +kernel⟩
theorem kv_X4_96 : LkV RX4 96 yX4_measureDistances RX4 cX4_measureDistances 2 none 0 := ⟨wd_453, wd_454, wd_455, wd_74, wd_452, by decide +kernel, by decide +kernel⟩
theorem kf_X4_99 : Cond.fieldLink RX4 99 "BadgeZones$Zone" "doorsLeft" "I" ∈ GT := wd_456
theorem kf_X4_193 : Cond.fieldLink RX4 193 "BadgeZones$Badge" "stay" "LBadgeZones$Stay;" ∈ GT := wd_457
theorem kf_X4_197 : Cond.fieldLink RX4 197 "BadgeZones$Stay" "zone" "LBadgeZones$Zone;" ∈ GT := wd_458
theorem kv_X4_254 : LkV RX4 254 yX0_wouldLackHost RX0 cX0_wouldLackHost 4 (some .boolean) 2 := ⟨wd_460, wd_461, wd_462, wd_369, wd_459, by decide +kernel, by decide +kernel⟩
theorem kv_X4_247 : LkV RX4 247 yX0_hasRightFor RX0 cX0_hasRightFor 2 (some .boolean) 1 := ⟨wd_464, wd_465, wd_466, wd_369, wd_463, by decide +kernel, by decide +kernel⟩
theorem kf_X4_31 : Cond.fieldLink RX4 31 "BadgeZones" "minute" "I" ∈ GT := wd_467
theorem kv_X4_102 : LkV RX4 102 yX3_hasHoursAt RX3 cX3_hasHoursAt 3 (some .boolean) 1 := ⟨wd_469, wd_470, wd_471, wd_442, wd_468, by decide +kernel, by decide +kernel⟩
theorem kv_X4_76 : LkV RX4 76 yX4_countIn RX4 cX4_countIn 2 (some .int) 1 := ⟨wd_473, wd_474, wd_475, wd_74, wd_472, by decide +kernel, by decide +kernel⟩
theorem kf_X4_67 : Cond.fieldLink RX4 67 "BadgeZones$Zone" "capacity" "I" ∈ GT := wd_476
theorem kv_X4_250 : LkV RX4 250 yX4_isExcluded RX4 cX4_isExcluded 4 (some .boolean) 1 := ⟨wd_478, wd_479, wd_480, wd_74, wd_477, by decide +kernel, by decide +kernel⟩
theorem kv_X4_258 : LkV RX4 258 yX4_wouldLeaveVisitor RX4 cX4_wouldLeaveVisitor 5 (some .boolean) 1 := ⟨wd_482, wd_483, wd_484, wd_74, wd_481, by decide +kernel, by decide +kernel⟩
theorem kf_X4_139 : Cond.fieldLink RX4 139 "BadgeZones$Badge" "isBlocked" "Z" ∈ GT := wd_485
theorem kv_X4_235 : LkV RX4 235 yX1_otherSide RX1 cX1_otherSide 2 (some (.object "BadgeZones$Zone")) 1 := ⟨wd_487, wd_488, wd_489, wd_391, wd_486, by decide +kernel, by decide +kernel⟩
theorem kv_X4_239 : LkV RX4 239 yX4_answerInAlarm RX4 cX4_answerInAlarm 3 (some .int) 2 := ⟨wd_491, wd_492, wd_493, wd_74, wd_490, by decide +kernel, by decide +kernel⟩
theorem kv_X4_243 : LkV RX4 243 yX4_answerInPeace RX4 cX4_answerInPeace 4 (some .int) 3 := ⟨wd_495, wd_496, wd_497, wd_74, wd_494, by decide +kernel, by decide +kernel⟩
theorem kc_X4_62 : Cond.classLink RX4 62 "java/lang/IndexOutOfBoundsException" ∈ GT := wd_498
theorem kv_X4_147 : LkV RX4 147 yX0_tell RX0 cX0_tell 2 (some .int) 1 := ⟨wd_500, wd_501, wd_502, wd_369, wd_499, by decide +kernel, by decide +kernel⟩
theorem kf_X4_142 : Cond.fieldLink RX4 142 "BadgeZones$Badge" "refusals" "I" ∈ GT := wd_503
theorem kv_X4_189 : LkV RX4 189 yX4_measureWays RX4 cX4_measureWays 5 none 2 := ⟨wd_505, wd_506, wd_507, wd_74, wd_504, by decide +kernel, by decide +kernel⟩
theorem kv_X4_166 : LkV RX4 166 yX4_badgesIn RX4 cX4_badgesIn 4 (some .int) 1 := ⟨wd_509, wd_510, wd_511, wd_74, wd_508, by decide +kernel, by decide +kernel⟩
theorem ks_X4_230 : LkS RX4 230 yJ6_bitCount_0f7a4 cJ6_bitCount_0f7a4 1 (some .int) 1 := ⟨wd_513, wd_514, wd_515, wd_512, by decide +kernel, by decide +kernel⟩
theorem kk_X4_205 : Cond.constantLong RX4 205 (179) ∈ GT := wd_516
theorem ks_X4_207 : LkS RX4 207 yX4_addTo cX4_addTo 3 (some .long) 2 := ⟨wd_518, wd_519, wd_74, wd_517, by decide +kernel, by decide +kernel⟩
theorem kv_X4_110 : LkV RX4 110 yX1_minutesLeft RX1 cX1_minutesLeft 2 (some .int) 1 := ⟨wd_521, wd_522, wd_523, wd_391, wd_520, by decide +kernel, by decide +kernel⟩
theorem kf_X4_272 : Cond.fieldLink RX4 272 "BadgeZones$Zone" "isOnTheWay" "Z" ∈ GT := wd_524
theorem ko_X4_3 : LkO RX4 3 := ⟨wd_525, wd_63, wd_64⟩
theorem kc_X4_18 : Cond.classLink RX4 18 "java/util/ArrayList" ∈ GT := wd_526
theorem ki_X4_20 : LkI RX4 20 yJx4a65c_init_da8c8 cJx4a65c_init_da8c8 1 0 := ⟨wd_527, wd_374, wd_29, wd_372, by decide +kernel, by decide +kernel, by decide +kernel⟩
theorem kv_X4_262 : LkV RX4 262 yX1_excludes RX1 cX1_excludes 2 (some .boolean) 1 := ⟨wd_529, wd_530, wd_531, wd_391, wd_528, by decide +kernel, by decide +kernel⟩
theorem ki_X4_225 : LkI RX4 225 yX0_init cX0_init 5 4 := ⟨wd_533, wd_534, wd_369, wd_532, by decide +kernel, by decide +kernel, by decide +kernel⟩
theorem kv_X4_275 : LkV RX4 275 yX4_measureTo RX4 cX4_measureTo 4 none 1 := ⟨wd_536, wd_537, wd_538, wd_74, wd_535, by decide +kernel, by decide +kernel⟩
theorem kv_X4_279 : LkV RX4 279 yX1_measureBack RX1 cX1_measureBack 2 none 1 := ⟨wd_540, wd_541, wd_542, wd_391, wd_539, by decide +kernel, by decide +kernel⟩
theorem kv_X4_185 : LkV RX4 185 yX0_minutesSpent RX0 cX0_minutesSpent 7 (some .int) 2 := ⟨wd_544, wd_545, wd_546, wd_369, wd_543, by decide +kernel, by decide +kernel⟩
theorem kv_X4_202 : LkV RX4 202 yX4_firstDoorFrom RX4 cX4_firstDoorFrom 4 (some .int) 1 := ⟨wd_548, wd_549, wd_550, wd_74, wd_547, by decide +kernel, by decide +kernel⟩
theorem kv_X4_106 : LkV RX4 106 yX4_doorAt RX4 cX4_doorAt 2 (some (.object "BadgeZones$Door")) 1 := ⟨wd_552, wd_553, wd_554, wd_74, wd_551, by decide +kernel, by decide +kernel⟩
theorem kv_X4_265 : LkV RX4 265 yX0_enter RX0 cX0_enter 3 none 2 := ⟨wd_556, wd_557, wd_558, wd_369, wd_555, by decide +kernel, by decide +kernel⟩
theorem kv_X4_269 : LkV RX4 269 yX1_openAt RX1 cX1_openAt 2 none 1 := ⟨wd_560, wd_561, wd_562, wd_391, wd_559, by decide +kernel, by decide +kernel⟩
theorem kv_X4_155 : LkV RX4 155 yX4_answerTo RX4 cX4_answerTo 4 (some .int) 2 := ⟨wd_564, wd_565, wd_566, wd_74, wd_563, by decide +kernel, by decide +kernel⟩
theorem kv_X4_159 : LkV RX4 159 yX4_pass RX4 cX4_pass 4 none 2 := ⟨wd_568, wd_569, wd_570, wd_74, wd_567, by decide +kernel, by decide +kernel⟩
theorem kv_X4_163 : LkV RX4 163 yX0_countRefusal RX0 cX0_countRefusal 1 none 0 := ⟨wd_572, wd_573, wd_574, wd_369, wd_571, by decide +kernel, by decide +kernel⟩
theorem kf_X4_136 : Cond.fieldLink RX4 136 "BadgeZones$Badge" "ownRights" "I" ∈ GT := wd_575
theorem kf_X4_70 : Cond.fieldLink RX4 70 "BadgeZones$Zone" "begin" "I" ∈ GT := wd_576
theorem kf_X4_73 : Cond.fieldLink RX4 73 "BadgeZones$Zone" "end" "I" ∈ GT := wd_577
theorem kk_X4_152 : Cond.constant RX4 152 (99999) ∈ GT := wd_578
theorem kv_X4_179 : LkV RX4 179 yX0_zoneAtEndOf RX0 cX0_zoneAtEndOf 4 (some (.object "BadgeZones$Zone")) 1 := ⟨wd_580, wd_581, wd_582, wd_369, wd_579, by decide +kernel, by decide +kernel⟩
theorem kf_X4_182 : Cond.fieldLink RX4 182 "BadgeZones$Zone" "number" "I" ∈ GT := wd_583
theorem kf_X5_23 : Cond.fieldLink RX5 23 "BadgeZonesModel" "sides" "[I" ∈ GT := wd_584
theorem kf_X5_35 : Cond.fieldLink RX5 35 "BadgeZonesModel" "places" "[I" ∈ GT := wd_585
theorem kf_X5_60 : Cond.fieldLink RX5 60 "BadgeZonesModel" "badges" "I" ∈ GT := wd_586
theorem kf_X5_38 : Cond.fieldLink RX5 38 "BadgeZonesModel" "rights" "[I" ∈ GT := wd_587
theorem kf_X5_41 : Cond.fieldLink RX5 41 "BadgeZonesModel" "hosts" "[I" ∈ GT := wd_588
theorem kf_X5_44 : Cond.fieldLink RX5 44 "BadgeZonesModel" "areBlocked" "[Z" ∈ GT := wd_589
theorem kf_X5_48 : Cond.fieldLink RX5 48 "BadgeZonesModel" "refusals" "[I" ∈ GT := wd_590
theorem kf_X5_54 : Cond.fieldLink RX5 54 "BadgeZonesModel" "thrown" "I" ∈ GT := wd_591
theorem kv_X5_67 : LkV RX5 67 yX5_fail RX5 cX5_fail 2 (some .int) 1 := ⟨wd_593, wd_594, wd_595, wd_119, wd_592, by decide +kernel, by decide +kernel⟩
theorem kv_X5_109 : LkV RX5 109 yX5_add RX5 cX5_add 3 (some .int) 2 := ⟨wd_597, wd_598, wd_599, wd_119, wd_596, by decide +kernel, by decide +kernel⟩
theorem kv_X5_71 : LkV RX5 71 yX5_isZone RX5 cX5_isZone 2 (some .boolean) 1 := ⟨wd_601, wd_602, wd_603, wd_119, wd_600, by decide +kernel, by decide +kernel⟩
theorem kf_X5_57 : Cond.fieldLink RX5 57 "BadgeZonesModel" "doors" "I" ∈ GT := wd_604
theorem kf_X5_26 : Cond.fieldLink RX5 26 "BadgeZonesModel" "holds" "[I" ∈ GT := wd_605
theorem kf_X5_29 : Cond.fieldLink RX5 29 "BadgeZonesModel" "locks" "[I" ∈ GT := wd_606
theorem kf_X5_32 : Cond.fieldLink RX5 32 "BadgeZonesModel" "shuts" "[I" ∈ GT := wd_607
theorem kv_X5_112 : LkV RX5 112 yX5_isBadge RX5 cX5_isBadge 2 (some .boolean) 1 := ⟨wd_609, wd_610, wd_611, wd_119, wd_608, by decide +kernel, by decide +kernel⟩
theorem ks_X5_63 : LkS RX5 63 yX5_areHours cX5_areHours 3 (some .boolean) 3 := ⟨wd_613, wd_614, wd_119, wd_612, by decide +kernel, by decide +kernel⟩
theorem kf_X5_7 : Cond.fieldLink RX5 7 "BadgeZonesModel" "zones" "I" ∈ GT := wd_615
theorem kf_X5_13 : Cond.fieldLink RX5 13 "BadgeZonesModel" "capacities" "[I" ∈ GT := wd_616
theorem kf_X5_17 : Cond.fieldLink RX5 17 "BadgeZonesModel" "begins" "[I" ∈ GT := wd_617
theorem kf_X5_20 : Cond.fieldLink RX5 20 "BadgeZonesModel" "ends" "[I" ∈ GT := wd_618
theorem kf_X5_122 : Cond.fieldLink RX5 122 "BadgeZonesModel" "isAlarm" "Z" ∈ GT := wd_619
theorem kv_X5_94 : LkV RX5 94 yX5_isOpenNow RX5 cX5_isOpenNow 3 (some .boolean) 1 := ⟨wd_621, wd_622, wd_623, wd_119, wd_620, by decide +kernel, by decide +kernel⟩
theorem kv_X5_115 : LkV RX5 115 yX5_rightsOf RX5 cX5_rightsOf 2 (some .int) 1 := ⟨wd_625, wd_626, wd_627, wd_119, wd_624, by decide +kernel, by decide +kernel⟩
theorem ks_X5_83 : LkS RX5 83 yX5_has cX5_has 2 (some .boolean) 2 := ⟨wd_629, wd_630, wd_119, wd_628, by decide +kernel, by decide +kernel⟩
theorem kv_X5_126 : LkV RX5 126 yX5_across RX5 cX5_across 3 (some .int) 2 := ⟨wd_632, wd_633, wd_634, wd_119, wd_631, by decide +kernel, by decide +kernel⟩
theorem kv_X5_129 : LkV RX5 129 yX5_isNearer RX5 cX5_isNearer 5 (some .boolean) 2 := ⟨wd_636, wd_637, wd_638, wd_119, wd_635, by decide +kernel, by decide +kernel⟩
theorem kv_X5_132 : LkV RX5 132 yX5_isWithoutHost RX5 cX5_isWithoutHost 3 (some .boolean) 2 := ⟨wd_640, wd_641, wd_642, wd_119, wd_639, by decide +kernel, by decide +kernel⟩
theorem kv_X5_75 : LkV RX5 75 yX5_insideOf RX5 cX5_insideOf 4 (some .int) 1 := ⟨wd_644, wd_645, wd_646, wd_119, wd_643, by decide +kernel, by decide +kernel⟩
theorem ks_X5_78 : LkS RX5 78 yJ6_bitCount_0f7a4 cJ6_bitCount_0f7a4 1 (some .int) 1 := ⟨wd_647, wd_514, wd_515, wd_512, by decide +kernel, by decide +kernel⟩
theorem kv_X5_135 : LkV RX5 135 yX5_isExcluded RX5 cX5_isExcluded 4 (some .boolean) 1 := ⟨wd_649, wd_650, wd_651, wd_119, wd_648, by decide +kernel, by decide +kernel⟩
theorem kv_X5_138 : LkV RX5 138 yX5_leavesGuests RX5 cX5_leavesGuests 4 (some .boolean) 1 := ⟨wd_653, wd_654, wd_655, wd_119, wd_652, by decide +kernel, by decide +kernel⟩
theorem kv_X5_118 : LkV RX5 118 yX5_told RX5 cX5_told 3 (some .int) 2 := ⟨wd_657, wd_658, wd_659, wd_119, wd_656, by decide +kernel, by decide +kernel⟩
theorem kv_X5_160 : LkV RX5 160 yX5_wayOf RX5 cX5_wayOf 3 (some .int) 2 := ⟨wd_661, wd_662, wd_663, wd_119, wd_660, by decide +kernel, by decide +kernel⟩
theorem kk_X5_163 : Cond.constantLong RX5 163 (5549) ∈ GT := wd_664
theorem kf_X5_91 : Cond.fieldLink RX5 91 "BadgeZonesModel" "minute" "I" ∈ GT := wd_665
theorem kk_X5_165 : Cond.constantLong RX5 165 (31) ∈ GT := wd_666
theorem kv_X5_106 : LkV RX5 106 yX5_left RX5 cX5_left 2 (some .int) 1 := ⟨wd_668, wd_669, wd_670, wd_119, wd_667, by decide +kernel, by decide +kernel⟩
theorem kv_X5_87 : LkV RX5 87 yX5_steps RX5 cX5_steps 10 (some .int) 3 := ⟨wd_672, wd_673, wd_674, wd_119, wd_671, by decide +kernel, by decide +kernel⟩
theorem ko_X5_1 : LkO RX5 1 := ⟨wd_675, wd_63, wd_64⟩
theorem kf_X5_51 : Cond.fieldLink RX5 51 "BadgeZonesModel" "log" "[I" ∈ GT := wd_676
theorem ks_X5_97 : LkS RX5 97 yJ9_max_7cf53 cJ9_max_7cf53 2 (some .int) 2 := ⟨wd_677, wd_20, wd_16, wd_18, by decide +kernel, by decide +kernel⟩
theorem kf_X5_141 : Cond.fieldLink RX5 141 "BadgeZonesModel" "moves" "I" ∈ GT := wd_678
theorem kv_X5_157 : LkV RX5 157 yX5_allowed RX5 cX5_allowed 4 (some .int) 1 := ⟨wd_680, wd_681, wd_682, wd_119, wd_679, by decide +kernel, by decide +kernel⟩
theorem kv_X5_103 : LkV RX5 103 yX5_isDoor RX5 cX5_isDoor 2 (some .boolean) 1 := ⟨wd_684, wd_685, wd_686, wd_119, wd_683, by decide +kernel, by decide +kernel⟩
theorem kv_X5_150 : LkV RX5 150 yX5_answer RX5 cX5_answer 4 (some .int) 2 := ⟨wd_688, wd_689, wd_690, wd_119, wd_687, by decide +kernel, by decide +kernel⟩
theorem kv_X5_153 : LkV RX5 153 yX5_note RX5 cX5_note 4 none 2 := ⟨wd_692, wd_693, wd_694, wd_119, wd_691, by decide +kernel, by decide +kernel⟩
theorem kk_X5_121 : Cond.constant RX5 121 (99999) ∈ GT := wd_695
theorem kn_X4 : Cond.instantiable RX4 6 ∈ GT ∧ Cond.initialized RX4 ∈ GT := ⟨wd_696, wd_74⟩
theorem kn_X5 : Cond.instantiable RX5 20 ∈ GT ∧ Cond.initialized RX5 ∈ GT := ⟨wd_697, wd_119⟩
theorem kn_X3 : Cond.instantiable RX3 6 ∈ GT ∧ Cond.initialized RX3 ∈ GT := ⟨wd_698, wd_442⟩
theorem kn_X1 : Cond.instantiable RX1 5 ∈ GT ∧ Cond.initialized RX1 ∈ GT := ⟨wd_699, wd_391⟩
theorem kn_X0 : Cond.instantiable RX0 7 ∈ GT ∧ Cond.initialized RX0 ∈ GT := ⟨wd_700, wd_369⟩
theorem kn_X2 : Cond.instantiable RX2 2 ∈ GT ∧ Cond.initialized RX2 ∈ GT := ⟨wd_701, wd_359⟩
theorem kn_Jx4a65c : Cond.instantiable RJx4a65c 3 ∈ GT ∧ Cond.initialized RJx4a65c ∈ GT := ⟨wd_702, wd_29⟩
theorem ka_int : Cond.arrayClass .int ∈ GT := wd_703
theorem ka_boolean : Cond.arrayClass .boolean ∈ GT := wd_704
theorem ka_long : Cond.arrayClass .long ∈ GT := wd_705
theorem kg_J7_86 : Cond.methodLink RJ7 86 ⟨"java/lang/Object", "getClass", "()Ljava/lang/Class;"⟩ ∈ GT := wd_706
theorem kg_J7_150 : Cond.methodLink RJ7 150 arraycopyName ∈ GT := wd_707
theorem kg_X5_144 : Cond.methodLink RX5 144 arraycopyName ∈ GT := wd_708
theorem kg_J7_110 : Cond.classLink RJ7 110 "[Ljava/lang/Object;" ∈ GT := wd_12
theorem wk_copy : Cond.native arraycopyName ∈ GT ∧ Cond.static arraycopyName ∈ GT ∧ Cond.initialized "java/lang/System" ∈ GT := ⟨wd_709, wd_710, wd_711⟩
theorem wk_getC : Cond.declares ⟨"java/lang/Object", "getClass", "()Ljava/lang/Class;"⟩ ∈ NG ∧ Cond.selects "[Ljava/lang/Object;" ⟨"java/lang/Object", "getClass", "()Ljava/lang/Class;"⟩ ⟨"java/lang/Object", "getClass", "()Ljava/lang/Class;"⟩ ∈ GT ∧ Cond.instanceMethod ⟨"java/lang/Object", "getClass", "()Ljava/lang/Class;"⟩ ∈ GT ∧ Cond.native ⟨"java/lang/Object", "getClass", "()Ljava/lang/Class;"⟩ ∈ GT := ⟨(in_ng (in_t5 (List.mem_of_getElem? (i := 8) rfl)) rfl), wd_712, wd_713, wd_714⟩
theorem wk_max : Cond.static Lib.Math.max.name ∈ GT ∧ Cond.initialized "java/lang/Math" ∈ GT ∧ Cond.code Lib.Math.max.name Lib.Math.max.code 2 (some .int) ∈ GT := ⟨wd_20, wd_16, wd_18⟩
theorem wk_min : Cond.static Lib.Math.min.name ∈ GT ∧ Cond.initialized "java/lang/Math" ∈ GT ∧ Cond.code Lib.Math.min.name Lib.Math.min.code 2 (some .int) ∈ GT := ⟨wd_15, wd_16, wd_13⟩
theorem kt_X3 : Cond.castable RX3 "java/lang/Object" ∈ NG := (in_ng (in_t4 (List.mem_of_getElem? (i := 235) rfl)) rfl)
theorem kt_X1 : Cond.castable RX1 "java/lang/Object" ∈ NG := (in_ng (in_t5 (List.mem_of_getElem? (i := 1) rfl)) rfl)
theorem kt_X0 : Cond.castable RX0 "java/lang/Object" ∈ NG := (in_ng (in_t5 (List.mem_of_getElem? (i := 2) rfl)) rfl)
theorem kt_X2 : Cond.castable RX2 "java/lang/Object" ∈ NG := (in_ng (in_t5 (List.mem_of_getElem? (i := 3) rfl)) rfl)
theorem kt_IAE : Cond.castable "java/lang/IllegalArgumentException" "java/lang/IllegalArgumentException" ∈ NG := (in_ng (in_t2 (List.mem_of_getElem? (i := 24) rfl)) rfl)
theorem kt_ISE : Cond.castable "java/lang/IllegalStateException" "java/lang/IllegalStateException" ∈ NG := (in_ng (in_t2 (List.mem_of_getElem? (i := 93) rfl)) rfl)
theorem kt_IOB : Cond.castable "java/lang/IndexOutOfBoundsException" "java/lang/IndexOutOfBoundsException" ∈ NG := (in_ng (in_t2 (List.mem_of_getElem? (i := 121) rfl)) rfl)
theorem ksf_modCount : Cond.sameField "java/util/ArrayList" "java/util/AbstractList" "modCount" "I" ∈ GT := wd_715
theorem kini_IAE : Cond.initialized "java/lang/IllegalArgumentException" ∈ GT := wd_716
theorem kini_ISE : Cond.initialized "java/lang/IllegalStateException" ∈ GT := wd_717
theorem kini_IOB : Cond.initialized "java/lang/IndexOutOfBoundsException" ∈ GT := wd_718
theorem kc_L_13 : Cond.classLink RL 13 "java/lang/IllegalArgumentException" ∈ GT := wd_719
theorem kc_L_15 : Cond.classLink RL 15 "java/lang/IllegalStateException" ∈ GT := wd_720
theorem kc_L_21 : Cond.classLink RL 21 "java/lang/IndexOutOfBoundsException" ∈ GT := wd_721
set_option maxRecDepth 20000 in
theorem kw_X4 : ∀ w ∈ u_ws RX4 TX4 6, w ∈ GT := in_ps [194, 196, 198, 200, 202, 204] (by decide +kernel) (by decide +kernel)
set_option maxRecDepth 20000 in
theorem kw_X5 : ∀ w ∈ u_ws RX5 TX5 20, w ∈ GT := in_ps [753, 755, 757, 759, 761, 763, 765, 767, 769, 771, 773, 775, 777, 779, 781, 783, 785, 787, 789, 791] (by decide +kernel) (by decide +kernel)
set_option maxRecDepth 20000 in
theorem kw_X3 : ∀ w ∈ u_ws RX3 TX3 6, w ∈ GT := in_ps [92, 94, 96, 98, 100, 102] (by decide +kernel) (by decide +kernel)
set_option maxRecDepth 20000 in
theorem kw_X1 : ∀ w ∈ u_ws RX1 TX1 5, w ∈ GT := in_ps [435, 437, 439, 441, 443] (by decide +kernel) (by decide +kernel)
set_option maxRecDepth 20000 in
theorem kw_X0 : ∀ w ∈ u_ws RX0 TX0 7, w ∈ GT := in_ps [539, 541, 543, 545, 547, 549, 551] (by decide +kernel) (by decide +kernel)
set_option maxRecDepth 20000 in
theorem kw_X2 : ∀ w ∈ u_ws RX2 TX2 2, w ∈ GT := in_ps [521, 523] (by decide +kernel) (by decide +kernel)
set_option maxRecDepth 20000 in
theorem kw_Jx4a65c : ∀ w ∈ u_ws RJx4a65c TJx4a65c 3, w ∈ GT := in_ps [128, 124, 126] (by decide +kernel) (by decide +kernel)
