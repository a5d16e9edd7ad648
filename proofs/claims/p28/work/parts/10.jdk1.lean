abbrev rm_J3_checkIndex_8e157 : Room := { frames := 0, cells := 0, slots := 0, locals := 0 }
abbrev rm_J15_checkIndex_7cf53 : Room := { frames := 1, cells := 0, slots := 0, locals := 22 }
abbrev rm_Jx4a65c_size_8abf5 : Room := { frames := 0, cells := 0, slots := 0, locals := 0 }
abbrev rm_Jx4a65c_elementData_915e3 : Room := { frames := 0, cells := 0, slots := 0, locals := 0 }
abbrev rm_Jx4a65c_get_915e3 : Room := { frames := 2, cells := 0, slots := 0, locals := 43 }
abbrev rm_J6_bitCount_0f7a4 : Room := { frames := 0, cells := 0, slots := 0, locals := 0 }
abbrev rm_Jxa1e45_init_da8c8 : Room := { frames := 1, cells := 0, slots := 0, locals := 20 }
abbrev rm_Jxc12de_init_da8c8 : Room := { frames := 2, cells := 0, slots := 0, locals := 40 }
abbrev rm_Jx4a65c_init_da8c8 : Room := { frames := 3, cells := 0, slots := 0, locals := 60 }
abbrev rm_J8_newLength_cabcc : Room := { frames := 1, cells := 0, slots := 0, locals := 21 }
abbrev rm_J7_copyOf_6403c : Room := { frames := 1, cells := 1, slots := 800, locals := 40 }
abbrev rm_J7_copyOf_1904c : Room := { frames := 2, cells := 1, slots := 800, locals := 63 }
abbrev rm_Jx4a65c_grow_92f84 : Room := { frames := 3, cells := 2, slots := 810, locals := 84 }
abbrev rm_Jx4a65c_grow_d5877 : Room := { frames := 4, cells := 2, slots := 810, locals := 107 }
abbrev rm_Jx4a65c_add_72be8 : Room := { frames := 5, cells := 2, slots := 810, locals := 127 }
abbrev rm_Jx4a65c_add_9ea2d : Room := { frames := 6, cells := 2, slots := 810, locals := 150 }
set_option maxHeartbeats 4000000 in
set_option maxRecDepth 100000 in
theorem ct_J3_check {l : Launch} {G : Ids} {S : Ps} {i n : Nat} (hfl : l.stackTraces = false) (hi : i < n) (hn : n < 2 ^ 31) : Ct l (Cond.code yJ3_checkIndex_8e157 cJ3_checkIndex_8e157 3 (some .int)) yJ3_checkIndex_8e157 rm_J3_checkIndex_8e157 G [.int (nI i), .int (nI n), .null] S (fun v S9 => v = some (.int (nI i)) ∧ S = S9) (fun _ _ => False) := by
  refine Ct.of hfl (by decide) (Nat.le_of_ble_eq_true rfl) (fun Γ V hC hR hT hI => ?_)
  refine r_iload_n (pc := 0) hC dJ3_checkIndex_8e157_0 rfl ?_
  refine ri_if_lt (pc := 1) (tgt := 9) hC dJ3_checkIndex_8e157_1 (by decide) (fun c1 => ?_) (fun c1 => ?_)
  · -- taken
    exfalso; first | omega | (rw [nI_toInt (by omega)] at *; omega)
  · -- not
    refine r_iload_n (pc := 4) hC dJ3_checkIndex_8e157_4 rfl ?_
    refine r_iload_n (pc := 5) hC dJ3_checkIndex_8e157_5 rfl ?_
    first | refine rn_icmp_lt (pc := 6) (tgt := 16) hC dJ3_checkIndex_8e157_6 (by decide) (by omega) (by omega) (fun c6 => ?_) (fun c6 => ?_) | refine ri_icmp_lt (pc := 6) (tgt := 16) hC dJ3_checkIndex_8e157_6 (by decide) (fun c6 => ?_) (fun c6 => ?_)
    · -- taken
      refine r_iload_n (pc := 16) hC dJ3_checkIndex_8e157_16 rfl ?_
      refine r_iret (pc := 17) hC hR dJ3_checkIndex_8e157_17 ?_ (by decide) (by decide)
      exact ⟨rfl, rfl⟩
    · -- not
      exfalso; first | omega | (rw [nI_toInt (by omega)] at *; omega)
set_option maxHeartbeats 4000000 in
set_option maxRecDepth 100000 in
theorem ct_J15_check {l : Launch} {G : Ids} {S : Ps} {i n : Nat} (hfl : l.stackTraces = false) (hi : i < n) (hn : n < 2 ^ 31) : Ct l (Cond.code yJ15_checkIndex_7cf53 cJ15_checkIndex_7cf53 2 (some .int)) yJ15_checkIndex_7cf53 rm_J15_checkIndex_7cf53 G [.int (nI i), .int (nI n)] S (fun v S9 => v = some (.int (nI i)) ∧ S = S9) (fun _ _ => False) := by
  refine Ct.of hfl (by decide) (Nat.le_of_ble_eq_true rfl) (fun Γ V hC hR hT hI => ?_)
  refine r_iload_n (pc := 0) hC dJ15_checkIndex_7cf53_0 rfl ?_
  refine r_iload_n (pc := 1) hC dJ15_checkIndex_7cf53_1 rfl ?_
  refine r_null (pc := 2) hC dJ15_checkIndex_7cf53_2 ?_
  refine r_callS (pc := 3) hC (ct_J3_check hC.fl hi hn) ks_J15_105 rfl rfl (Nat.le_of_ble_eq_true rfl) ⟨by decide, by decide, by decide, by decide⟩ dJ15_checkIndex_7cf53_3 (fun _ _ h => h.elim) (fun v3 S3 h3 => ?_)
  obtain ⟨rfl, rfl⟩ := h3
  refine r_iret (pc := 6) hC hR dJ15_checkIndex_7cf53_6 ?_ (by decide) (by decide)
  exact ⟨rfl, rfl⟩
set_option maxHeartbeats 4000000 in
set_option maxRecDepth 100000 in
theorem ct_size {l : Launch} {G : Ids} {S : Ps} {κ a r n : Nat} {f : Nat → Nat} (hfl : l.stackTraces = false) (hL : LsOK G S κ a r n f) : Ct l (Cond.code yJx4a65c_size_8abf5 cJx4a65c_size_8abf5 1 (some .int)) yJx4a65c_size_8abf5 rm_Jx4a65c_size_8abf5 G [.ref a] S (fun v S9 => v = some (.int (nI n)) ∧ S = S9) (fun _ _ => False) := by
  refine Ct.of hfl (by decide) (Nat.le_of_ble_eq_true rfl) (fun Γ V hC hR hT hI => ?_)
  first | refine r_aload_n (pc := 0) hC dJx4a65c_size_8abf5_0 rfl ?_ | refine r_aload_nN (pc := 0) hC dJx4a65c_size_8abf5_0 rfl ?_
  refine r_gf (pc := 1) (κ := 0) (j := 2) hC cls0 (by decide) kf_Jx4a65c_48 hL.1 hL.2.1 dJx4a65c_size_8abf5_1 ?_
  refine r_iret (pc := 4) hC hR dJx4a65c_size_8abf5_4 ?_ (by decide) (by decide)
  exact ⟨rfl, rfl⟩
set_option maxHeartbeats 4000000 in
set_option maxRecDepth 100000 in
theorem ct_eldata {l : Launch} {G : Ids} {S : Ps} {κ a r n i : Nat} {f : Nat → Nat} (hfl : l.stackTraces = false) (hL : LsOK G S κ a r n f) (hi : i < n) : Ct l (Cond.code yJx4a65c_elementData_915e3 cJx4a65c_elementData_915e3 2 (some (.object "java/lang/Object"))) yJx4a65c_elementData_915e3 rm_Jx4a65c_elementData_915e3 G [.ref a, .int (nI i)] S (fun v S9 => v = some (.ref (f i)) ∧ S = S9) (fun _ _ => False) := by
  refine Ct.of hfl (by decide) (Nat.le_of_ble_eq_true rfl) (fun Γ V hC hR hT hI => ?_)
  have hg := hL.get hi
  first | refine r_aload_n (pc := 0) hC dJx4a65c_elementData_915e3_0 rfl ?_ | refine r_aload_nN (pc := 0) hC dJx4a65c_elementData_915e3_0 rfl ?_
  refine r_gf (pc := 1) (κ := 0) (j := 1) hC cls0 (by decide) kf_Jx4a65c_9 hL.1 hL.2.2.1 dJx4a65c_elementData_915e3_1 ?_
  refine r_iload_n (pc := 4) hC dJx4a65c_elementData_915e3_4 rfl ?_
  refine r_aald (pc := 5) hC dJx4a65c_elementData_915e3_5 hg.1 hg.2.1 hg.2.2.1 hg.2.2.2 ?_
  refine r_aret (pc := 6) hC hR dJx4a65c_elementData_915e3_6 (by first | exact Or.inl ⟨_, rfl⟩ | exact Or.inr ⟨_, rfl⟩) (by first | exact Or.inl rfl | exact Or.inr ⟨_, rfl⟩) ?_ (by decide) (by decide)
  exact ⟨rfl, rfl⟩
set_option maxHeartbeats 4000000 in
set_option maxRecDepth 100000 in
theorem ct_get {l : Launch} {G : Ids} {S : Ps} {κ a r n i : Nat} {f : Nat → Nat} (hfl : l.stackTraces = false) (hL : LsOK G S κ a r n f) (hi : i < n) : Ct l (Cond.code yJx4a65c_get_915e3 cJx4a65c_get_915e3 2 (some (.object "java/lang/Object"))) yJx4a65c_get_915e3 rm_Jx4a65c_get_915e3 G [.ref a, .int (nI i)] S (fun v S9 => v = some (.ref (f i)) ∧ S = S9) (fun _ _ => False) := by
  refine Ct.of hfl (by decide) (Nat.le_of_ble_eq_true rfl) (fun Γ V hC hR hT hI => ?_)
  have hg := hL.get hi
  have hn := hL.2.2.2.2.1
  refine r_iload_n (pc := 0) hC dJx4a65c_get_915e3_0 rfl ?_
  first | refine r_aload_n (pc := 1) hC dJx4a65c_get_915e3_1 rfl ?_ | refine r_aload_nN (pc := 1) hC dJx4a65c_get_915e3_1 rfl ?_
  refine r_gf (pc := 2) (κ := 0) (j := 2) hC cls0 (by decide) kf_Jx4a65c_48 hL.1 hL.2.1 dJx4a65c_get_915e3_2 ?_
  refine r_callS (pc := 5) hC (ct_J15_check hC.fl hi (by omega)) ks_Jx4a65c_118 rfl rfl (Nat.le_of_ble_eq_true rfl) ⟨by decide, by decide, by decide, by decide⟩ dJx4a65c_get_915e3_5 (fun _ _ h => h.elim) (fun v5 S5 h5 => ?_)
  obtain ⟨rfl, rfl⟩ := h5
  refine r_pop (pc := 8) hC dJx4a65c_get_915e3_8 rfl ?_
  first | refine r_aload_n (pc := 9) hC dJx4a65c_get_915e3_9 rfl ?_ | refine r_aload_nN (pc := 9) hC dJx4a65c_get_915e3_9 rfl ?_
  refine r_iload_n (pc := 10) hC dJx4a65c_get_915e3_10 rfl ?_
  refine r_callV (pc := 11) hC (ct_eldata hC.fl hL hi) kv_Jx4a65c_123 cls0 hL.1 rfl rfl (Nat.le_of_ble_eq_true rfl) ⟨by decide, by decide, by decide, by decide⟩ dJx4a65c_get_915e3_11 (fun _ _ h => h.elim) (fun v11 S11 h11 => ?_)
  obtain ⟨rfl, rfl⟩ := h11
  refine r_aret (pc := 14) hC hR dJx4a65c_get_915e3_14 (by first | exact Or.inl ⟨_, rfl⟩ | exact Or.inr ⟨_, rfl⟩) (by first | exact Or.inl rfl | exact Or.inr ⟨_, rfl⟩) ?_ (by decide) (by decide)
  exact ⟨rfl, rfl⟩
set_option maxHeartbeats 4000000 in
set_option maxRecDepth 100000 in
theorem ct_acinit {l : Launch} {G : Ids} {S : Ps} {a : Nat} (hfl : l.stackTraces = false)  : Ct l (Cond.code yJxa1e45_init_da8c8 cJxa1e45_init_da8c8 1 none) yJxa1e45_init_da8c8 rm_Jxa1e45_init_da8c8 G [.ref a] S (fun v S9 => v = none ∧ S = S9) (fun _ _ => False) := by
  refine Ct.of hfl (by decide) (Nat.le_of_ble_eq_true rfl) (fun Γ V hC hR hT hI => ?_)
  first | refine r_aload_n (pc := 0) hC dJxa1e45_init_da8c8_0 rfl ?_ | refine r_aload_nN (pc := 0) hC dJxa1e45_init_da8c8_0 rfl ?_
  refine r_objInit (pc := 1) hC ko_Jxa1e45_1 (Nat.le_of_ble_eq_true rfl) (by decide) dJxa1e45_init_da8c8_1 ?_
  refine r_vret (pc := 4) hC hR dJxa1e45_init_da8c8_4 ?_ (by decide) (by decide)
  exact ⟨rfl, rfl⟩
set_option maxHeartbeats 4000000 in
set_option maxRecDepth 100000 in
theorem ct_alinit {l : Launch} {G : Ids} {S : Ps} {a : Nat} (hfl : l.stackTraces = false) (ha : isK S 0 a) : Ct l (Cond.code yJxc12de_init_da8c8 cJxc12de_init_da8c8 1 none) yJxc12de_init_da8c8 rm_Jxc12de_init_da8c8 G [.ref a] S (fun v S9 => v = none ∧ S9 = sF S 0 a (.int (nI 0))) (fun _ _ => False) := by
  refine Ct.of hfl (by decide) (Nat.le_of_ble_eq_true rfl) (fun Γ V hC hR hT hI => ?_)
  first | refine r_aload_n (pc := 0) hC dJxc12de_init_da8c8_0 rfl ?_ | refine r_aload_nN (pc := 0) hC dJxc12de_init_da8c8_0 rfl ?_
  refine r_callI (pc := 1) hC (ct_acinit hC.fl) ki_Jxc12de_1 rfl rfl (Nat.le_of_ble_eq_true rfl) ⟨by decide, by decide, by decide, by decide⟩ dJxc12de_init_da8c8_1 (fun _ _ h => h.elim) (fun v1 S1 h1 => ?_)
  obtain ⟨rfl, rfl⟩ := h1
  first | refine r_aload_n (pc := 4) hC dJxc12de_init_da8c8_4 rfl ?_ | refine r_aload_nN (pc := 4) hC dJxc12de_init_da8c8_4 rfl ?_
  refine r_iconst (pc := 5) (nI 0) hC dJxc12de_init_da8c8_5 (by decide) ?_
  refine r_pf (pc := 6) (κ := 0) (j := 0) hC cls0 (by decide) kf_Jxc12de_7 ha rfl rfl rfl dJxc12de_init_da8c8_6 ?_
  refine r_vret (pc := 9) hC hR dJxc12de_init_da8c8_9 ?_ (by decide) (by decide)
  exact ⟨rfl, rfl⟩
set_option maxHeartbeats 4000000 in
set_option maxRecDepth 100000 in
theorem ct_listinit {l : Launch} {G : Ids} {S : Ps} {a : Nat} (hfl : l.stackTraces = false) (ha : isK S 0 a) : Ct l (Cond.code yJx4a65c_init_da8c8 cJx4a65c_init_da8c8 1 none) yJx4a65c_init_da8c8 rm_Jx4a65c_init_da8c8 G [.ref a] S (fun v S9 => v = none ∧ S9 = sF (sF S 0 a (.int (nI 0))) 1 a (.ref G.2.2.1)) (fun _ _ => False) := by
  refine Ct.of hfl (by decide) (Nat.le_of_ble_eq_true rfl) (fun Γ V hC hR hT hI => ?_)
  first | refine r_aload_n (pc := 0) hC dJx4a65c_init_da8c8_0 rfl ?_ | refine r_aload_nN (pc := 0) hC dJx4a65c_init_da8c8_0 rfl ?_
  refine r_callI (pc := 1) hC (ct_alinit hC.fl ha) ki_Jx4a65c_1 rfl rfl (Nat.le_of_ble_eq_true rfl) ⟨by decide, by decide, by decide, by decide⟩ dJx4a65c_init_da8c8_1 (fun _ _ h => h.elim) (fun v1 S1 h1 => ?_)
  obtain ⟨rfl, rfl⟩ := h1
  first | refine r_aload_n (pc := 4) hC dJx4a65c_init_da8c8_4 rfl ?_ | refine r_aload_nN (pc := 4) hC dJx4a65c_init_da8c8_4 rfl ?_
  refine r_gets0 (pc := 5) hC kf_Jx4a65c_39 dJx4a65c_init_da8c8_5 ?_
  refine r_pf (pc := 8) (κ := 0) (j := 1) hC cls0 (by decide) kf_Jx4a65c_9 (isK_sF.mpr ha) rfl rfl rfl dJx4a65c_init_da8c8_8 ?_
  refine r_vret (pc := 11) hC hR dJx4a65c_init_da8c8_11 ?_ (by decide) (by decide)
  exact ⟨rfl, rfl⟩
/-- the number of ones below 2^10 -/
def popc (n : Nat) : Nat := (List.range 10).foldl (fun s i => s + n / 2 ^ i % 2) 0
def bitc0 (x : Int32) : Int32 := x - ((x.toUInt32 >>> ((nI 1).toUInt32 &&& Int32.toUInt32 31)).toInt32 &&& 1431655765)
def bitc1 (x : Int32) : Int32 := (x &&& 858993459) + ((x.toUInt32 >>> ((nI 2).toUInt32 &&& Int32.toUInt32 31)).toInt32 &&& 858993459)
def bitc2 (x : Int32) : Int32 := (x + (x.toUInt32 >>> ((nI 4).toUInt32 &&& Int32.toUInt32 31)).toInt32) &&& 252645135
def bitc3 (x : Int32) : Int32 := x + (x.toUInt32 >>> ((nI 8).toUInt32 &&& Int32.toUInt32 31)).toInt32
def bitc4 (x : Int32) : Int32 := x + (x.toUInt32 >>> ((nI 16).toUInt32 &&& Int32.toUInt32 31)).toInt32
theorem bitc_ok : ∀ n, n < 1024 → (bitc4 (bitc3 (bitc2 (bitc1 (bitc0 (nI n)))))) &&& (nI 63) = nI (popc n) := by decide +kernel
set_option maxHeartbeats 4000000 in
set_option maxRecDepth 100000 in
theorem ct_bitc {l : Launch} {G : Ids} {S : Ps} {n : Nat} (hfl : l.stackTraces = false) (hn : n < 1024) : Ct l (Cond.code yJ6_bitCount_0f7a4 cJ6_bitCount_0f7a4 1 (some .int)) yJ6_bitCount_0f7a4 rm_J6_bitCount_0f7a4 G [.int (nI n)] S (fun v S9 => v = some (.int (nI (popc n))) ∧ S = S9) (fun _ _ => False) := by
  refine Ct.of hfl (by decide) (Nat.le_of_ble_eq_true rfl) (fun Γ V hC hR hT hI => ?_)
  refine r_iload_n (pc := 0) hC dJ6_bitCount_0f7a4_0 rfl ?_
  refine r_iload_n (pc := 1) hC dJ6_bitCount_0f7a4_1 rfl ?_
  refine r_iconst (pc := 2) (nI 1) hC dJ6_bitCount_0f7a4_2 (by decide) ?_
  refine r_iushr (pc := 3) _ hC dJ6_bitCount_0f7a4_3 rfl ?_
  refine r_ldcw (pc := 4) hC dJ6_bitCount_0f7a4_4 kk_J6_265 ?_
  refine r_iand (pc := 7) hC dJ6_bitCount_0f7a4_7 ?_
  first | refine rn_isub (pc := 8) hC dJ6_bitCount_0f7a4_8 (by omega) ?_ | refine r_isub (pc := 8) hC dJ6_bitCount_0f7a4_8 ?_
  refine r_istore_n (pc := 9) hC dJ6_bitCount_0f7a4_9 (by decide) ?_
  refine r_iload_n (pc := 10) hC dJ6_bitCount_0f7a4_10 rfl ?_
  refine r_ldcw (pc := 11) hC dJ6_bitCount_0f7a4_11 kk_J6_266 ?_
  refine r_iand (pc := 14) hC dJ6_bitCount_0f7a4_14 ?_
  refine r_iload_n (pc := 15) hC dJ6_bitCount_0f7a4_15 rfl ?_
  refine r_iconst (pc := 16) (nI 2) hC dJ6_bitCount_0f7a4_16 (by decide) ?_
  refine r_iushr (pc := 17) _ hC dJ6_bitCount_0f7a4_17 rfl ?_
  refine r_ldcw (pc := 18) hC dJ6_bitCount_0f7a4_18 kk_J6_266 ?_
  refine r_iand (pc := 21) hC dJ6_bitCount_0f7a4_21 ?_
  first | refine rn_iadd (pc := 22) hC dJ6_bitCount_0f7a4_22 ?_ | refine r_iadd (pc := 22) hC dJ6_bitCount_0f7a4_22 ?_
  refine r_istore_n (pc := 23) hC dJ6_bitCount_0f7a4_23 (by decide) ?_
  refine r_iload_n (pc := 24) hC dJ6_bitCount_0f7a4_24 rfl ?_
  refine r_iload_n (pc := 25) hC dJ6_bitCount_0f7a4_25 rfl ?_
  refine r_iconst (pc := 26) (nI 4) hC dJ6_bitCount_0f7a4_26 (by decide) ?_
  refine r_iushr (pc := 27) _ hC dJ6_bitCount_0f7a4_27 rfl ?_
  first | refine rn_iadd (pc := 28) hC dJ6_bitCount_0f7a4_28 ?_ | refine r_iadd (pc := 28) hC dJ6_bitCount_0f7a4_28 ?_
  refine r_ldcw (pc := 29) hC dJ6_bitCount_0f7a4_29 kk_J6_267 ?_
  refine r_iand (pc := 32) hC dJ6_bitCount_0f7a4_32 ?_
  refine r_istore_n (pc := 33) hC dJ6_bitCount_0f7a4_33 (by decide) ?_
  refine r_iload_n (pc := 34) hC dJ6_bitCount_0f7a4_34 rfl ?_
  refine r_iload_n (pc := 35) hC dJ6_bitCount_0f7a4_35 rfl ?_
  refine r_bipush (pc := 36) (nI 8) hC dJ6_bitCount_0f7a4_36 (by decide) ?_
  refine r_iushr (pc := 38) _ hC dJ6_bitCount_0f7a4_38 rfl ?_
  first | refine rn_iadd (pc := 39) hC dJ6_bitCount_0f7a4_39 ?_ | refine r_iadd (pc := 39) hC dJ6_bitCount_0f7a4_39 ?_
  refine r_istore_n (pc := 40) hC dJ6_bitCount_0f7a4_40 (by decide) ?_
  refine r_iload_n (pc := 41) hC dJ6_bitCount_0f7a4_41 rfl ?_
  refine r_iload_n (pc := 42) hC dJ6_bitCount_0f7a4_42 rfl ?_
  refine r_bipush (pc := 43) (nI 16) hC dJ6_bitCount_0f7a4_43 (by decide) ?_
  refine r_iushr (pc := 45) _ hC dJ6_bitCount_0f7a4_45 rfl ?_
  first | refine rn_iadd (pc := 46) hC dJ6_bitCount_0f7a4_46 ?_ | refine r_iadd (pc := 46) hC dJ6_bitCount_0f7a4_46 ?_
  refine r_istore_n (pc := 47) hC dJ6_bitCount_0f7a4_47 (by decide) ?_
  refine r_iload_n (pc := 48) hC dJ6_bitCount_0f7a4_48 rfl ?_
  refine r_bipush (pc := 49) (nI 63) hC dJ6_bitCount_0f7a4_49 (by decide) ?_
  refine r_iand (pc := 51) hC dJ6_bitCount_0f7a4_51 ?_
  refine r_iret (pc := 52) hC hR dJ6_bitCount_0f7a4_52 ?_ (by decide) (by decide)
  exact ⟨congrArg (fun z => some (Value.int z)) (bitc_ok n hn), rfl⟩
