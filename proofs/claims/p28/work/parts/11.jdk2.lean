set_option maxHeartbeats 4000000 in
set_option maxRecDepth 100000 in
theorem ct_newlen {l : Launch} {G : Ids} {S : Ps} {n : Nat} (hfl : l.stackTraces = false) (hn : n ≤ 1000) : Ct l (Cond.code yJ8_newLength_cabcc cJ8_newLength_cabcc 4 (some .int)) yJ8_newLength_cabcc rm_J8_newLength_cabcc G [.int (nI n), .int (nI 1), .int (nI (n / 2))] S (fun v S9 => v = some (.int (nI (n + max 1 (n / 2)))) ∧ S = S9) (fun _ _ => False) := by
  refine Ct.of hfl (by decide) (Nat.le_of_ble_eq_true rfl) (fun Γ V hC hR hT hI => ?_)
  refine r_iload_n (pc := 0) hC dJ8_newLength_cabcc_0 rfl ?_
  refine r_iload_n (pc := 1) hC dJ8_newLength_cabcc_1 rfl ?_
  refine r_iload_n (pc := 2) hC dJ8_newLength_cabcc_2 rfl ?_
  refine r_mmax (pc := 3) hC ks_J8_194.1 (Nat.le_of_ble_eq_true rfl) (by decide) (by decide) (by decide) dJ8_newLength_cabcc_3 ?_
  have e3 : (if nI 1 < nI (n / 2) then nI (n / 2) else nI 1) = nI (max 1 (n / 2)) := by
    by_cases c : 1 < n / 2
    · rw [if_pos (nI_lt c (by omega)), Nat.max_eq_right (by omega)]
    · rw [if_neg (nI_nlt (by omega) (by decide)), Nat.max_eq_left (by omega)]
  rw [e3]
  first | refine rn_iadd (pc := 6) hC dJ8_newLength_cabcc_6 ?_ | refine r_iadd (pc := 6) hC dJ8_newLength_cabcc_6 ?_
  have hb : n + max 1 (n / 2) < 2 ^ 30 := by omega
  refine r_istore_n (pc := 7) hC dJ8_newLength_cabcc_7 (by decide) ?_
  refine r_iconst (pc := 8) (nI 0) hC dJ8_newLength_cabcc_8 (by decide) ?_
  refine r_iload_n (pc := 9) hC dJ8_newLength_cabcc_9 rfl ?_
  first | refine rn_icmp_ge (pc := 10) (tgt := 21) hC dJ8_newLength_cabcc_10 (by decide) (by omega) (by omega) (fun c10 => ?_) (fun c10 => ?_) | refine ri_icmp_ge (pc := 10) (tgt := 21) hC dJ8_newLength_cabcc_10 (by decide) (fun c10 => ?_) (fun c10 => ?_)
  · -- taken
    exfalso; first | omega | (rw [nI_toInt (by omega), show (2147483639 : Int32).toInt = 2147483639 from rfl] at *; omega)
  · -- not
    refine r_iload_n (pc := 13) hC dJ8_newLength_cabcc_13 rfl ?_
    refine r_ldc (pc := 14) hC dJ8_newLength_cabcc_14 kk_J8_200 ?_
    first | refine rn_icmp_gt (pc := 16) (tgt := 21) hC dJ8_newLength_cabcc_16 (by decide) (by omega) (by omega) (fun c16 => ?_) (fun c16 => ?_) | refine ri_icmp_gt (pc := 16) (tgt := 21) hC dJ8_newLength_cabcc_16 (by decide) (fun c16 => ?_) (fun c16 => ?_)
    · -- taken
      exfalso; first | omega | (rw [nI_toInt (by omega), show (2147483639 : Int32).toInt = 2147483639 from rfl] at *; omega)
    · -- not
      refine r_iload_n (pc := 19) hC dJ8_newLength_cabcc_19 rfl ?_
      refine r_iret (pc := 20) hC hR dJ8_newLength_cabcc_20 ?_ (by decide) (by decide)
      exact ⟨rfl, rfl⟩
set_option maxHeartbeats 4000000 in
set_option maxRecDepth 100000 in
theorem ct_copy3 {l : Launch} {G : Ids} {S : Ps} {κ r m N : Nat} {C : String} {T : u_T} {ty : Nat → FieldType} (hfl : l.stackTraces = false) (hr : isK S 9 r) (hm : pN S r ≤ m) (hm2 : m ≤ 800) (hc : ClsOK κ C T N ty) (hcast : Cond.castable C "java/lang/Object" ∈ NG) (hel : ∀ i y, pR S r i = some y → isK S κ y) : Ct l (Cond.code yJ7_copyOf_6403c cJ7_copyOf_6403c 4 (some (.array (.object "java/lang/Object")))) yJ7_copyOf_6403c rm_J7_copyOf_6403c G [.ref r, .int (nI m), .ref G.2.2.2] S (fun v S9 => ∃ q, q ∉ pL S ∧ v = some (.ref q) ∧ S9 = sRs (nwA S q 9 m) q (va_cpy (pR S r) (fun _ => none) 0 0 (pN S r))) (fun _ _ => False) := by
  refine Ct.of hfl (by decide) (Nat.le_of_ble_eq_true rfl) (fun Γ V hC hR hT hI => ?_)
  first | refine r_aload_n (pc := 0) hC dJ7_copyOf_6403c_0 rfl ?_ | refine r_aload_nN (pc := 0) hC dJ7_copyOf_6403c_0 rfl ?_
  refine r_ldcC (pc := 1) hC kg_J7_110 dJ7_copyOf_6403c_1 ?_
  refine r_acmp_ne (pc := 3) (tgt := 13) hC dJ7_copyOf_6403c_3 (by decide) (fun c3 => ?_) (fun c3 => ?_)
  · -- taken
    exact absurd rfl c3
  · -- not
    refine r_iload_n (pc := 6) hC dJ7_copyOf_6403c_6 rfl ?_
    refine r_newR (pc := 7) hC kc_J7_2 (by omega) (by decide) (show _ + m ≤ 800 by omega) dJ7_copyOf_6403c_7 (fun q hq => ?_)
    refine at_widen (k' := 1) (n' := 800) (by decide) (by omega) ?_
    have hrq : r ≠ q := fun e => hq (e ▸ hr.1)
    refine r_goto (pc := 10) (tgt := 24) hC dJ7_copyOf_6403c_10 (by decide) ?_
    first | refine r_astore_n (pc := 24) hC dJ7_copyOf_6403c_24 (by decide) ?_ | refine r_astore_nN (pc := 24) hC dJ7_copyOf_6403c_24 (by decide) ?_
    first | refine r_aload_n (pc := 25) hC dJ7_copyOf_6403c_25 rfl ?_ | refine r_aload_nN (pc := 25) hC dJ7_copyOf_6403c_25 rfl ?_
    refine r_iconst (pc := 26) (nI 0) hC dJ7_copyOf_6403c_26 (by decide) ?_
    first | refine r_aload_n (pc := 27) hC dJ7_copyOf_6403c_27 rfl ?_ | refine r_aload_nN (pc := 27) hC dJ7_copyOf_6403c_27 rfl ?_
    refine r_iconst (pc := 28) (nI 0) hC dJ7_copyOf_6403c_28 (by decide) ?_
    first | refine r_aload_n (pc := 29) hC dJ7_copyOf_6403c_29 rfl ?_ | refine r_aload_nN (pc := 29) hC dJ7_copyOf_6403c_29 rfl ?_
    refine r_alenR (pc := 30) hC dJ7_copyOf_6403c_30 (isK_nwA hr hq) ?_
    rw [show pN (nwA S q 9 m) r = pN S r from if_neg hrq]
    refine r_iload_n (pc := 31) hC dJ7_copyOf_6403c_31 rfl ?_
    refine r_mmin (pc := 32) hC ks_J7_304.1 (Nat.le_of_ble_eq_true rfl) (by decide) (by decide) (by decide) dJ7_copyOf_6403c_32 ?_
    rw [if_neg (nI_nlt hm (by omega))]
    refine r_copyR (pc := 35) hC kg_J7_150 (isK_nwA hr hq) isK_nwA' (show pN S r ≤ pN (nwA S q 9 m) r by rw [show pN (nwA S q 9 m) r = pN S r from if_neg hrq]; exact Nat.le_refl _) (show pN S r ≤ pN (nwA S q 9 m) q by rw [show pN (nwA S q 9 m) q = m from if_pos rfl]; exact hm) (by omega) hc hcast (fun i _ y hy => isK_nwA (hel i y (by rw [pR_nwA, if_neg hrq] at hy; exact hy)) hq) (Nat.le_of_ble_eq_true rfl) (by decide) dJ7_copyOf_6403c_35 ?_
    first | refine r_aload_n (pc := 38) hC dJ7_copyOf_6403c_38 rfl ?_ | refine r_aload_nN (pc := 38) hC dJ7_copyOf_6403c_38 rfl ?_
    refine r_aret (pc := 39) hC hR dJ7_copyOf_6403c_39 (by first | exact Or.inl ⟨_, rfl⟩ | exact Or.inr ⟨_, rfl⟩) (by first | exact Or.inl rfl | exact Or.inr ⟨_, rfl⟩) ?_ (by decide) (by decide)
    refine ⟨q, hq, rfl, ?_⟩
    rw [show pR (nwA S q 9 m) r = pR S r from by funext i; rw [pR_nwA, if_neg hrq], show pR (nwA S q 9 m) q = (fun _ => none) from by funext i; rw [pR_nwA, if_pos rfl]]
set_option maxHeartbeats 4000000 in
set_option maxRecDepth 100000 in
theorem ct_copy2 {l : Launch} {G : Ids} {S : Ps} {κ r m N : Nat} {C : String} {T : u_T} {ty : Nat → FieldType} (hfl : l.stackTraces = false) (hr : isK S 9 r) (hm : pN S r ≤ m) (hm2 : m ≤ 800) (hc : ClsOK κ C T N ty) (hcast : Cond.castable C "java/lang/Object" ∈ NG) (hel : ∀ i y, pR S r i = some y → isK S κ y) : Ct l (Cond.code yJ7_copyOf_1904c cJ7_copyOf_1904c 2 (some (.array (.object "java/lang/Object")))) yJ7_copyOf_1904c rm_J7_copyOf_1904c G [.ref r, .int (nI m)] S (fun v S9 => ∃ q, q ∉ pL S ∧ v = some (.ref q) ∧ S9 = sRs (nwA S q 9 m) q (va_cpy (pR S r) (fun _ => none) 0 0 (pN S r))) (fun _ _ => False) := by
  refine Ct.of hfl (by decide) (Nat.le_of_ble_eq_true rfl) (fun Γ V hC hR hT hI => ?_)
  first | refine r_aload_n (pc := 0) hC dJ7_copyOf_1904c_0 rfl ?_ | refine r_aload_nN (pc := 0) hC dJ7_copyOf_1904c_0 rfl ?_
  refine r_iload_n (pc := 1) hC dJ7_copyOf_1904c_1 rfl ?_
  first | refine r_aload_n (pc := 2) hC dJ7_copyOf_1904c_2 rfl ?_ | refine r_aload_nN (pc := 2) hC dJ7_copyOf_1904c_2 rfl ?_
  refine r_getClass (pc := 3) hC kg_J7_86 hr (Nat.le_of_ble_eq_true rfl) (by decide) dJ7_copyOf_1904c_3 ?_
  refine r_callS (pc := 6) hC (ct_copy3 hC.fl hr hm hm2 hc hcast hel) ks_J7_300 rfl rfl (Nat.le_of_ble_eq_true rfl) ⟨by decide, by decide, by decide, by decide⟩ dJ7_copyOf_1904c_6 (fun _ _ h => h.elim) (fun v6 S6 h6 => ?_)
  obtain ⟨q, hq, rfl, rfl⟩ := h6
  refine r_aret (pc := 9) hC hR dJ7_copyOf_1904c_9 (by first | exact Or.inl ⟨_, rfl⟩ | exact Or.inr ⟨_, rfl⟩) (by first | exact Or.inl rfl | exact Or.inr ⟨_, rfl⟩) ?_ (by decide) (by decide)
  exact ⟨q, hq, rfl, rfl⟩
/-- the row q is new, the list's cell a holds it, the elements stand in it, there is room for one more -/
def GrowOK (S S' : Ps) (κ a q n : Nat) (f : Nat → Nat) : Prop := isK S' 9 q ∧ n < pN S' q ∧ 10 ≤ pN S' q ∧ pN S' q ≤ 800 ∧ (∀ i, i < n → pR S' q i = some (f i)) ∧ (∀ i y, pR S' q i = some y → isK S' κ y) ∧ pF S' 1 a = .ref q ∧ pF S' 2 a = pF S 2 a ∧ pF S' 0 a = pF S 0 a ∧ Fr (fun b => b = a) S S'
theorem half_shr {n : Nat} (h : n < 2 ^ 31) : nI n >>> (nI 1 &&& 31) = nI (n / 2) := by
  have k := pk_shrN (n := n) h (nI 1 &&& 31) 1 (by decide)
  rw [Nat.pow_one] at k
  exact k
set_option maxHeartbeats 4000000 in
set_option maxRecDepth 100000 in
theorem ct_growI {l : Launch} {G : Ids} {S : Ps} {κ a r n N : Nat} {f : Nat → Nat} {C : String} {T : u_T} {ty : Nat → FieldType} (hfl : l.stackTraces = false) (hL : LsOK G S κ a r n f) (hfull : r = G.2.2.1 ∨ pN S r = n) (hn : n < 513) (hc : ClsOK κ C T N ty) (hcast : Cond.castable C "java/lang/Object" ∈ NG) (he : G.2.2.1 ∉ pL S) : Ct l (Cond.code yJx4a65c_grow_92f84 cJx4a65c_grow_92f84 4 (some (.array (.object "java/lang/Object")))) yJx4a65c_grow_92f84 rm_Jx4a65c_grow_92f84 G [.ref a, .int (nI (n + 1))] S (fun v S9 => ∃ q, q ∉ pL S ∧ v = some (.ref q) ∧ GrowOK S S9 κ a q n f) (fun _ _ => False) := by
  refine Ct.of hfl (by decide) (Nat.le_of_ble_eq_true rfl) (fun Γ V hC hR hT hI => ?_)
  obtain ⟨ha, h2, h1, ⟨m0, h0⟩, hn5, hd⟩ := hL
  rcases hd with ⟨hre, hn0⟩ | ⟨hr, hnr, h10, h800, hf, hel⟩
  · subst hre
    subst hn0
    have hra : a ≠ G.2.2.1 := fun e => he (e ▸ ha.1)
    first | refine r_aload_n (pc := 0) hC dJx4a65c_grow_92f84_0 rfl ?_ | refine r_aload_nN (pc := 0) hC dJx4a65c_grow_92f84_0 rfl ?_
    refine r_gf (pc := 1) (κ := 0) (j := 1) hC cls0 (by decide) kf_Jx4a65c_9 ha h1 dJx4a65c_grow_92f84_1 ?_
    refine r_alen0 (pc := 4) hC dJx4a65c_grow_92f84_4 ?_
    refine r_istore_n (pc := 5) hC dJx4a65c_grow_92f84_5 (by decide) ?_
    refine r_iload_n (pc := 6) hC dJx4a65c_grow_92f84_6 rfl ?_
    first | refine rn_if_gt (pc := 7) (tgt := 20) hC dJx4a65c_grow_92f84_7 (by decide) (by omega) (fun c7 => ?_) (fun c7 => ?_) | refine ri_if_gt (pc := 7) (tgt := 20) hC dJx4a65c_grow_92f84_7 (by decide) (fun c7 => ?_) (fun c7 => ?_)
    · -- taken
      exfalso; first | omega | exact absurd rfl c17
    · -- not
      first | refine r_aload_n (pc := 10) hC dJx4a65c_grow_92f84_10 rfl ?_ | refine r_aload_nN (pc := 10) hC dJx4a65c_grow_92f84_10 rfl ?_
      refine r_gf (pc := 11) (κ := 0) (j := 1) hC cls0 (by decide) kf_Jx4a65c_9 ha h1 dJx4a65c_grow_92f84_11 ?_
      refine r_gets0 (pc := 14) hC kf_Jx4a65c_39 dJx4a65c_grow_92f84_14 ?_
      refine r_acmp_eq (pc := 17) (tgt := 45) hC dJx4a65c_grow_92f84_17 (by decide) (fun c17 => ?_) (fun c17 => ?_)
      · -- taken
        first | refine r_aload_n (pc := 45) hC dJx4a65c_grow_92f84_45 rfl ?_ | refine r_aload_nN (pc := 45) hC dJx4a65c_grow_92f84_45 rfl ?_
        refine r_bipush (pc := 46) (nI 10) hC dJx4a65c_grow_92f84_46 (by decide) ?_
        refine r_iload_n (pc := 48) hC dJx4a65c_grow_92f84_48 rfl ?_
        refine r_mmax (pc := 49) hC ks_Jx4a65c_79.1 (Nat.le_of_ble_eq_true rfl) (by decide) (by decide) (by decide) dJx4a65c_grow_92f84_49 ?_
        rw [show (if nI 10 < nI (0 + 1) then nI (0 + 1) else nI 10) = nI 10 from by decide]
        refine r_newR (pc := 52) hC kc_Jx4a65c_7 (by omega) (by decide) (by decide) dJx4a65c_grow_92f84_52 (fun q hq => ?_)
        refine r_dup_x1 (pc := 55) hC dJx4a65c_grow_92f84_55 rfl rfl ?_
        refine r_pf (pc := 56) (κ := 0) (j := 1) hC cls0 (by decide) kf_Jx4a65c_9 (isK_nwA ha hq) rfl rfl rfl dJx4a65c_grow_92f84_56 ?_
        refine r_aret (pc := 59) hC hR dJx4a65c_grow_92f84_59 (by first | exact Or.inl ⟨_, rfl⟩ | exact Or.inr ⟨_, rfl⟩) (by first | exact Or.inl rfl | exact Or.inr ⟨_, rfl⟩) ?_ (by decide) (by decide)
        refine ⟨q, hq, rfl, ⟨isK_sF.mpr isK_nwA', ?_, ?_, ?_, fun i hi => absurd hi (by omega), fun i y hy => ?_, ?_, ?_, ?_, (Fr.nwA hq).trans (Fr.sF (fun _ => rfl))⟩⟩
        · rw [pN_sF, pN_nwA, if_pos rfl]; decide
        · rw [pN_sF, pN_nwA, if_pos rfl]; decide
        · rw [pN_sF, pN_nwA, if_pos rfl]; decide
        · rw [pR_sF, pR_nwA, if_pos rfl] at hy; cases hy
        · rw [pF_sF_eq]
        · rw [pF_sF_j _ _ _ _ (by decide), pF_nwA]
        · rw [pF_sF_j _ _ _ _ (by decide), pF_nwA]
      · -- not
        exfalso; first | omega | exact absurd rfl c17
  · skip
    have hpn : pN S r = n := hfull.resolve_left (fun e => he (e ▸ hr.1))
    first | refine r_aload_n (pc := 0) hC dJx4a65c_grow_92f84_0 rfl ?_ | refine r_aload_nN (pc := 0) hC dJx4a65c_grow_92f84_0 rfl ?_
    refine r_gf (pc := 1) (κ := 0) (j := 1) hC cls0 (by decide) kf_Jx4a65c_9 ha h1 dJx4a65c_grow_92f84_1 ?_
    refine r_alenR (pc := 4) hC dJx4a65c_grow_92f84_4 hr ?_
    refine r_istore_n (pc := 5) hC dJx4a65c_grow_92f84_5 (by decide) ?_
    refine r_iload_n (pc := 6) hC dJx4a65c_grow_92f84_6 rfl ?_
    first | refine rn_if_gt (pc := 7) (tgt := 20) hC dJx4a65c_grow_92f84_7 (by decide) (by omega) (fun c7 => ?_) (fun c7 => ?_) | refine ri_if_gt (pc := 7) (tgt := 20) hC dJx4a65c_grow_92f84_7 (by decide) (fun c7 => ?_) (fun c7 => ?_)
    · -- taken
      refine r_iload_n (pc := 20) hC dJx4a65c_grow_92f84_20 rfl ?_
      refine r_iload_n (pc := 21) hC dJx4a65c_grow_92f84_21 rfl ?_
      refine r_iload_n (pc := 22) hC dJx4a65c_grow_92f84_22 rfl ?_
      refine rn_isub (pc := 23) hC dJx4a65c_grow_92f84_23 (by omega) ?_
      rw [show n + 1 - pN S r = 1 by omega]
      refine r_iload_n (pc := 24) hC dJx4a65c_grow_92f84_24 rfl ?_
      refine r_iconst (pc := 25) (nI 1) hC dJx4a65c_grow_92f84_25 (by decide) ?_
      refine r_ishr (pc := 26) hC dJx4a65c_grow_92f84_26 ?_
      rw [half_shr (by omega)]
      refine r_callS (pc := 27) hC (ct_newlen hC.fl (by omega)) ks_Jx4a65c_73 rfl rfl (Nat.le_of_ble_eq_true rfl) ⟨by decide, by decide, by decide, by decide⟩ dJx4a65c_grow_92f84_27 (fun _ _ h => h.elim) (fun v27 S27 h27 => ?_)
      obtain ⟨rfl, rfl⟩ := h27
      refine r_istore_n (pc := 30) hC dJx4a65c_grow_92f84_30 (by decide) ?_
      first | refine r_aload_n (pc := 31) hC dJx4a65c_grow_92f84_31 rfl ?_ | refine r_aload_nN (pc := 31) hC dJx4a65c_grow_92f84_31 rfl ?_
      first | refine r_aload_n (pc := 32) hC dJx4a65c_grow_92f84_32 rfl ?_ | refine r_aload_nN (pc := 32) hC dJx4a65c_grow_92f84_32 rfl ?_
      refine r_gf (pc := 33) (κ := 0) (j := 1) hC cls0 (by decide) kf_Jx4a65c_9 ha h1 dJx4a65c_grow_92f84_33 ?_
      refine r_iload_n (pc := 36) hC dJx4a65c_grow_92f84_36 rfl ?_
      refine r_callS (pc := 37) hC (ct_copy2 hC.fl hr (by omega) (by omega) hc hcast hel) ks_Jx4a65c_66 rfl rfl (Nat.le_of_ble_eq_true rfl) ⟨by decide, by decide, by decide, by decide⟩ dJx4a65c_grow_92f84_37 (fun _ _ h => h.elim) (fun v37 S37 h37 => ?_)
      obtain ⟨q, hq, rfl, rfl⟩ := h37
      refine r_dup_x1 (pc := 40) hC dJx4a65c_grow_92f84_40 rfl rfl ?_
      refine r_pf (pc := 41) (κ := 0) (j := 1) hC cls0 (by decide) kf_Jx4a65c_9 (isK_sRs.mpr (isK_nwA ha hq)) rfl rfl rfl dJx4a65c_grow_92f84_41 ?_
      refine r_aret (pc := 44) hC hR dJx4a65c_grow_92f84_44 (by first | exact Or.inl ⟨_, rfl⟩ | exact Or.inr ⟨_, rfl⟩) (by first | exact Or.inl rfl | exact Or.inr ⟨_, rfl⟩) ?_ (by decide) (by decide)
      have hrq : r ≠ q := fun e => hq (e ▸ hr.1)
      refine ⟨q, hq, rfl, ⟨isK_sF.mpr (isK_sRs.mpr isK_nwA'), ?_, ?_, ?_, fun i hi => ?_, fun i y hy => ?_, ?_, ?_, ?_, ?_⟩⟩
      · rw [pN_sF, pN_sRs, pN_nwA, if_pos rfl]; omega
      · rw [pN_sF, pN_sRs, pN_nwA, if_pos rfl]; omega
      · rw [pN_sF, pN_sRs, pN_nwA, if_pos rfl]; omega
      · rw [pR_sF, pR_sRs, if_pos rfl, pk_cpy_in (Nat.zero_le _) (by omega)]; rw [Nat.zero_add, Nat.sub_zero]; exact hf i hi
      · rw [pR_sF, pR_sRs, if_pos rfl] at hy
        by_cases hi : i < pN S r
        · rw [pk_cpy_in (Nat.zero_le _) (by omega)] at hy; exact isK_sF.mpr (isK_sRs.mpr (isK_nwA (hel _ y hy) hq))
        · rw [pk_cpy_out (by omega)] at hy; cases hy
      · rw [pF_sF_eq]
      · rw [pF_sF_j _ _ _ _ (by decide), pF_sRs, pF_nwA]
      · rw [pF_sF_j _ _ _ _ (by decide), pF_sRs, pF_nwA]
      · refine (Fr.trans (fun b hb => ?_) (Fr.sF (fun _ => rfl)))
        have hbq : b ≠ q := fun e => hq (e ▸ hb)
        refine ⟨List.mem_append_left _ hb, if_neg hbq, fun _ => ⟨fun j => rfl, if_neg hbq, ?_, ?_, ?_⟩⟩
        · funext i; exact if_neg hbq
        · rw [pR_sRs, if_neg hbq]; funext i; exact if_neg hbq
        · funext i; exact if_neg hbq
    · -- not
      exfalso; omega
set_option maxHeartbeats 4000000 in
set_option maxRecDepth 100000 in
theorem ct_grow {l : Launch} {G : Ids} {S : Ps} {κ a r n N : Nat} {f : Nat → Nat} {C : String} {T : u_T} {ty : Nat → FieldType} (hfl : l.stackTraces = false) (hL : LsOK G S κ a r n f) (hfull : r = G.2.2.1 ∨ pN S r = n) (hn : n < 513) (hc : ClsOK κ C T N ty) (hcast : Cond.castable C "java/lang/Object" ∈ NG) (he : G.2.2.1 ∉ pL S) : Ct l (Cond.code yJx4a65c_grow_d5877 cJx4a65c_grow_d5877 1 (some (.array (.object "java/lang/Object")))) yJx4a65c_grow_d5877 rm_Jx4a65c_grow_d5877 G [.ref a] S (fun v S9 => ∃ q, q ∉ pL S ∧ v = some (.ref q) ∧ GrowOK S S9 κ a q n f) (fun _ _ => False) := by
  refine Ct.of hfl (by decide) (Nat.le_of_ble_eq_true rfl) (fun Γ V hC hR hT hI => ?_)
  first | refine r_aload_n (pc := 0) hC dJx4a65c_grow_d5877_0 rfl ?_ | refine r_aload_nN (pc := 0) hC dJx4a65c_grow_d5877_0 rfl ?_
  first | refine r_aload_n (pc := 1) hC dJx4a65c_grow_d5877_1 rfl ?_ | refine r_aload_nN (pc := 1) hC dJx4a65c_grow_d5877_1 rfl ?_
  refine r_gf (pc := 2) (κ := 0) (j := 2) hC cls0 (by decide) kf_Jx4a65c_48 hL.1 hL.2.1 dJx4a65c_grow_d5877_2 ?_
  refine r_iconst (pc := 5) (nI 1) hC dJx4a65c_grow_d5877_5 (by decide) ?_
  first | refine rn_iadd (pc := 6) hC dJx4a65c_grow_d5877_6 ?_ | refine r_iadd (pc := 6) hC dJx4a65c_grow_d5877_6 ?_
  refine r_callV (pc := 7) hC (ct_growI hC.fl hL hfull hn hc hcast he) kv_Jx4a65c_69 cls0 hL.1 rfl rfl (Nat.le_of_ble_eq_true rfl) ⟨by decide, by decide, by decide, by decide⟩ dJx4a65c_grow_d5877_7 (fun _ _ h => h.elim) (fun v7 S7 h7 => ?_)
  obtain ⟨q, hq, rfl, hg⟩ := h7
  refine r_aret (pc := 10) hC hR dJx4a65c_grow_d5877_10 (by first | exact Or.inl ⟨_, rfl⟩ | exact Or.inr ⟨_, rfl⟩) (by first | exact Or.inl rfl | exact Or.inr ⟨_, rfl⟩) ?_ (by decide) (by decide)
  exact ⟨q, hq, rfl, hg⟩
