/-- x was added at the list's end -/
def AddOK (G : Ids) (S S9 : Ps) (κ a r n : Nat) (f : Nat → Nat) (x : Nat) : Prop := ∃ r', LsOK G S9 κ a r' (n + 1) (fun i => if i = n then x else f i) ∧ (r' = r ∨ r' ∉ pL S) ∧ r' ≠ G.2.2.1 ∧ Fr (fun b => b = a ∨ b = r) S S9
theorem add_end {G : Ids} {S : Ps} {κ a q n x : Nat} {f : Nat → Nat} (hn : n < 513) (ha : isK S 0 a) (hq : isK S 9 q) (h1 : n < pN S q) (h10 : 10 ≤ pN S q) (h800 : pN S q ≤ 800) (hf : ∀ i, i < n → pR S q i = some (f i)) (hel : ∀ i y, pR S q i = some y → isK S κ y) (hx : isK S κ x) (e1 : pF S 1 a = .ref q) (e0 : ∃ m, pF S 0 a = .int m) : LsOK G (sF (sR S q n (some x)) 2 a (.int (nI (n + 1)))) κ a q (n + 1) (fun i => if i = n then x else f i) := by
  refine ⟨isK_sF.mpr (isK_sR.mpr ha), by rw [pF_sF_eq], by rw [pF_sF_j _ _ _ _ (by decide), pF_sR]; exact e1, by rw [pF_sF_j _ _ _ _ (by decide), pF_sR]; exact e0, hn, Or.inr ⟨isK_sF.mpr (isK_sR.mpr hq), ?_, ?_, ?_, fun i hi => ?_, fun i y hy => ?_⟩⟩
  · rw [pN_sF, pN_sR]; omega
  · rw [pN_sF, pN_sR]; exact h10
  · rw [pN_sF, pN_sR]; exact h800
  · rw [pR_sF, pR_sR]
    show _ = some (if i = n then x else f i)
    by_cases c : i = n
    · rw [if_pos ⟨rfl, c⟩, if_pos c]
    · rw [if_neg (fun z => c z.2), if_neg c]
      exact hf i (by omega)
  · rw [pR_sF, pR_sR] at hy
    by_cases c : i = n
    · rw [if_pos ⟨rfl, c⟩] at hy
      cases hy
      exact isK_sF.mpr (isK_sR.mpr hx)
    · rw [if_neg (fun z => c z.2)] at hy
      exact isK_sF.mpr (isK_sR.mpr (hel i y hy))
set_option maxHeartbeats 4000000 in
set_option maxRecDepth 100000 in
theorem ct_add3 {l : Launch} {G : Ids} {S : Ps} {κ a r n N x : Nat} {f : Nat → Nat} {C : String} {T : u_T} {ty : Nat → FieldType} (hfl : l.stackTraces = false) (hL : LsOK G S κ a r n f) (hn : n < 513) (hx : isK S κ x) (hc : ClsOK κ C T N ty) (hcast : Cond.castable C "java/lang/Object" ∈ NG) : Ct l (Cond.code yJx4a65c_add_72be8 cJx4a65c_add_72be8 4 none) yJx4a65c_add_72be8 rm_Jx4a65c_add_72be8 G [.ref a, .ref x, .ref r, .int (nI n)] S (fun v S9 => v = none ∧ AddOK G S S9 κ a r n f x) (fun _ _ => False) := by
  refine Ct.of hfl (by decide) (Nat.le_of_ble_eq_true rfl) (fun Γ V hC hR hT hI => ?_)
  refine at_know hC (fun he => ?_)
  have hn5 := hL.2.2.2.2.1
  rcases hL.2.2.2.2.2 with ⟨hre, hn0⟩ | ⟨hr, hnr, h10, h800, hf, hel⟩
  · have hfull : r = G.2.2.1 ∨ pN S r = n := Or.inl hre
    refine r_iload_n (pc := 0) hC dJx4a65c_add_72be8_0 rfl ?_
    first | refine r_aload_n (pc := 1) hC dJx4a65c_add_72be8_1 rfl ?_ | refine r_aload_nN (pc := 1) hC dJx4a65c_add_72be8_1 rfl ?_
    rw [hre]
    refine r_alen0 (pc := 2) hC dJx4a65c_add_72be8_2 ?_
    first | refine rn_icmp_ne (pc := 3) (tgt := 11) hC dJx4a65c_add_72be8_3 (by decide) (by omega) (by omega) (fun c3 => ?_) (fun c3 => ?_) | refine ri_icmp_ne (pc := 3) (tgt := 11) hC dJx4a65c_add_72be8_3 (by decide) (fun c3 => ?_) (fun c3 => ?_)
    · -- taken
      exfalso; omega
    · -- not
      first | refine r_aload_n (pc := 6) hC dJx4a65c_add_72be8_6 rfl ?_ | refine r_aload_nN (pc := 6) hC dJx4a65c_add_72be8_6 rfl ?_
      refine r_callV (pc := 7) hC (ct_grow hC.fl hL hfull hn hc hcast he) kv_Jx4a65c_129 cls0 hL.1 rfl rfl (Nat.le_of_ble_eq_true rfl) ⟨by decide, by decide, by decide, by decide⟩ dJx4a65c_add_72be8_7 (fun _ _ h => h.elim) (fun v7 S7 h7 => ?_)
      obtain ⟨q, hq, rfl, hg1, hg2, hg3, hg4, hg5, hg6, hg7, hg8, hg9, hgF⟩ := h7
      refine at_know hC (fun he7 => ?_)
      have hqe : q ≠ G.2.2.1 := fun e => he7 (e ▸ hg1.1)
      first | refine r_astore_n (pc := 10) hC dJx4a65c_add_72be8_10 (by decide) ?_ | refine r_astore_nN (pc := 10) hC dJx4a65c_add_72be8_10 (by decide) ?_
      first | refine r_aload_n (pc := 11) hC dJx4a65c_add_72be8_11 rfl ?_ | refine r_aload_nN (pc := 11) hC dJx4a65c_add_72be8_11 rfl ?_
      refine r_iload_n (pc := 12) hC dJx4a65c_add_72be8_12 rfl ?_
      first | refine r_aload_n (pc := 13) hC dJx4a65c_add_72be8_13 rfl ?_ | refine r_aload_nN (pc := 13) hC dJx4a65c_add_72be8_13 rfl ?_
      refine r_aast (pc := 14) hC dJx4a65c_add_72be8_14 hg1 hg2 (by omega) (hgF.K hx) hc hcast ?_
      first | refine r_aload_n (pc := 15) hC dJx4a65c_add_72be8_15 rfl ?_ | refine r_aload_nN (pc := 15) hC dJx4a65c_add_72be8_15 rfl ?_
      refine r_iload_n (pc := 16) hC dJx4a65c_add_72be8_16 rfl ?_
      refine r_iconst (pc := 17) (nI 1) hC dJx4a65c_add_72be8_17 (by decide) ?_
      first | refine rn_iadd (pc := 18) hC dJx4a65c_add_72be8_18 ?_ | refine r_iadd (pc := 18) hC dJx4a65c_add_72be8_18 ?_
      refine r_pf (pc := 19) (κ := 0) (j := 2) hC cls0 (by decide) kf_Jx4a65c_48 (isK_sR.mpr (hgF.K hL.1)) rfl rfl rfl dJx4a65c_add_72be8_19 ?_
      refine r_vret (pc := 22) hC hR dJx4a65c_add_72be8_22 ?_ (by decide) (by decide)
      refine ⟨rfl, q, add_end hn (hgF.K hL.1) hg1 hg2 hg3 hg4 hg5 hg6 (hgF.K hx) hg7 (by rw [hg9]; exact hL.2.2.2.1), Or.inr hq, hqe, fun b hb => ?_⟩
      obtain ⟨b1, b2, b3⟩ := hgF b hb
      refine ⟨b1, b2, fun hb2 => ?_⟩
      have hba : b ≠ a := fun e => hb2 (Or.inl e)
      have hbq : b ≠ q := fun e => hq (e ▸ hb)
      obtain ⟨d1, d2, d3, d4, d5⟩ := b3 hba
      refine ⟨fun j => ?_, d2, d3, ?_, d5⟩
      · rw [pF_sF_a _ _ _ _ hba, pF_sR]; exact d1 j
      · rw [pR_sF]; funext i; rw [pR_sR, if_neg (fun z => hbq z.1), d4]
  · by_cases hfl2 : pN S r = n
    · have hfull : r = G.2.2.1 ∨ pN S r = n := Or.inr hfl2
      refine r_iload_n (pc := 0) hC dJx4a65c_add_72be8_0 rfl ?_
      first | refine r_aload_n (pc := 1) hC dJx4a65c_add_72be8_1 rfl ?_ | refine r_aload_nN (pc := 1) hC dJx4a65c_add_72be8_1 rfl ?_
      refine r_alenR (pc := 2) hC dJx4a65c_add_72be8_2 hr ?_
      first | refine rn_icmp_ne (pc := 3) (tgt := 11) hC dJx4a65c_add_72be8_3 (by decide) (by omega) (by omega) (fun c3 => ?_) (fun c3 => ?_) | refine ri_icmp_ne (pc := 3) (tgt := 11) hC dJx4a65c_add_72be8_3 (by decide) (fun c3 => ?_) (fun c3 => ?_)
      · -- taken
        exfalso; omega
      · -- not
        first | refine r_aload_n (pc := 6) hC dJx4a65c_add_72be8_6 rfl ?_ | refine r_aload_nN (pc := 6) hC dJx4a65c_add_72be8_6 rfl ?_
        refine r_callV (pc := 7) hC (ct_grow hC.fl hL hfull hn hc hcast he) kv_Jx4a65c_129 cls0 hL.1 rfl rfl (Nat.le_of_ble_eq_true rfl) ⟨by decide, by decide, by decide, by decide⟩ dJx4a65c_add_72be8_7 (fun _ _ h => h.elim) (fun v7 S7 h7 => ?_)
        obtain ⟨q, hq, rfl, hg1, hg2, hg3, hg4, hg5, hg6, hg7, hg8, hg9, hgF⟩ := h7
        refine at_know hC (fun he7 => ?_)
        have hqe : q ≠ G.2.2.1 := fun e => he7 (e ▸ hg1.1)
        first | refine r_astore_n (pc := 10) hC dJx4a65c_add_72be8_10 (by decide) ?_ | refine r_astore_nN (pc := 10) hC dJx4a65c_add_72be8_10 (by decide) ?_
        first | refine r_aload_n (pc := 11) hC dJx4a65c_add_72be8_11 rfl ?_ | refine r_aload_nN (pc := 11) hC dJx4a65c_add_72be8_11 rfl ?_
        refine r_iload_n (pc := 12) hC dJx4a65c_add_72be8_12 rfl ?_
        first | refine r_aload_n (pc := 13) hC dJx4a65c_add_72be8_13 rfl ?_ | refine r_aload_nN (pc := 13) hC dJx4a65c_add_72be8_13 rfl ?_
        refine r_aast (pc := 14) hC dJx4a65c_add_72be8_14 hg1 hg2 (by omega) (hgF.K hx) hc hcast ?_
        first | refine r_aload_n (pc := 15) hC dJx4a65c_add_72be8_15 rfl ?_ | refine r_aload_nN (pc := 15) hC dJx4a65c_add_72be8_15 rfl ?_
        refine r_iload_n (pc := 16) hC dJx4a65c_add_72be8_16 rfl ?_
        refine r_iconst (pc := 17) (nI 1) hC dJx4a65c_add_72be8_17 (by decide) ?_
        first | refine rn_iadd (pc := 18) hC dJx4a65c_add_72be8_18 ?_ | refine r_iadd (pc := 18) hC dJx4a65c_add_72be8_18 ?_
        refine r_pf (pc := 19) (κ := 0) (j := 2) hC cls0 (by decide) kf_Jx4a65c_48 (isK_sR.mpr (hgF.K hL.1)) rfl rfl rfl dJx4a65c_add_72be8_19 ?_
        refine r_vret (pc := 22) hC hR dJx4a65c_add_72be8_22 ?_ (by decide) (by decide)
        refine ⟨rfl, q, add_end hn (hgF.K hL.1) hg1 hg2 hg3 hg4 hg5 hg6 (hgF.K hx) hg7 (by rw [hg9]; exact hL.2.2.2.1), Or.inr hq, hqe, fun b hb => ?_⟩
        obtain ⟨b1, b2, b3⟩ := hgF b hb
        refine ⟨b1, b2, fun hb2 => ?_⟩
        have hba : b ≠ a := fun e => hb2 (Or.inl e)
        have hbq : b ≠ q := fun e => hq (e ▸ hb)
        obtain ⟨d1, d2, d3, d4, d5⟩ := b3 hba
        refine ⟨fun j => ?_, d2, d3, ?_, d5⟩
        · rw [pF_sF_a _ _ _ _ hba, pF_sR]; exact d1 j
        · rw [pR_sF]; funext i; rw [pR_sR, if_neg (fun z => hbq z.1), d4]
    · skip
      refine r_iload_n (pc := 0) hC dJx4a65c_add_72be8_0 rfl ?_
      first | refine r_aload_n (pc := 1) hC dJx4a65c_add_72be8_1 rfl ?_ | refine r_aload_nN (pc := 1) hC dJx4a65c_add_72be8_1 rfl ?_
      refine r_alenR (pc := 2) hC dJx4a65c_add_72be8_2 hr ?_
      first | refine rn_icmp_ne (pc := 3) (tgt := 11) hC dJx4a65c_add_72be8_3 (by decide) (by omega) (by omega) (fun c3 => ?_) (fun c3 => ?_) | refine ri_icmp_ne (pc := 3) (tgt := 11) hC dJx4a65c_add_72be8_3 (by decide) (fun c3 => ?_) (fun c3 => ?_)
      · -- taken
        first | refine r_aload_n (pc := 11) hC dJx4a65c_add_72be8_11 rfl ?_ | refine r_aload_nN (pc := 11) hC dJx4a65c_add_72be8_11 rfl ?_
        refine r_iload_n (pc := 12) hC dJx4a65c_add_72be8_12 rfl ?_
        first | refine r_aload_n (pc := 13) hC dJx4a65c_add_72be8_13 rfl ?_ | refine r_aload_nN (pc := 13) hC dJx4a65c_add_72be8_13 rfl ?_
        refine r_aast (pc := 14) hC dJx4a65c_add_72be8_14 hr (by omega) (by omega) hx hc hcast ?_
        first | refine r_aload_n (pc := 15) hC dJx4a65c_add_72be8_15 rfl ?_ | refine r_aload_nN (pc := 15) hC dJx4a65c_add_72be8_15 rfl ?_
        refine r_iload_n (pc := 16) hC dJx4a65c_add_72be8_16 rfl ?_
        refine r_iconst (pc := 17) (nI 1) hC dJx4a65c_add_72be8_17 (by decide) ?_
        first | refine rn_iadd (pc := 18) hC dJx4a65c_add_72be8_18 ?_ | refine r_iadd (pc := 18) hC dJx4a65c_add_72be8_18 ?_
        refine r_pf (pc := 19) (κ := 0) (j := 2) hC cls0 (by decide) kf_Jx4a65c_48 (isK_sR.mpr hL.1) rfl rfl rfl dJx4a65c_add_72be8_19 ?_
        refine r_vret (pc := 22) hC hR dJx4a65c_add_72be8_22 ?_ (by decide) (by decide)
        refine ⟨rfl, r, add_end hn hL.1 hr (by omega) h10 h800 hf hel hx hL.2.2.1 hL.2.2.2.1, Or.inl rfl, fun e => he (e ▸ hr.1), ?_⟩
        refine Fr.trans (Fr.sR (fun _ => Or.inr rfl)) (Fr.sF (fun _ => Or.inl rfl))
      · -- not
        exfalso; omega
set_option maxHeartbeats 4000000 in
set_option maxRecDepth 100000 in
theorem ct_add {l : Launch} {G : Ids} {S : Ps} {κ a r n N x : Nat} {f : Nat → Nat} {C : String} {T : u_T} {ty : Nat → FieldType} (hfl : l.stackTraces = false) (hL : LsOK G S κ a r n f) (hn : n < 513) (hx : isK S κ x) (hc : ClsOK κ C T N ty) (hcast : Cond.castable C "java/lang/Object" ∈ NG) : Ct l (Cond.code yJx4a65c_add_9ea2d cJx4a65c_add_9ea2d 2 (some .boolean)) yJx4a65c_add_9ea2d rm_Jx4a65c_add_9ea2d G [.ref a, .ref x] S (fun v S9 => v = some (.int 1) ∧ AddOK G S S9 κ a r n f x) (fun _ _ => False) := by
  refine Ct.of hfl (by decide) (Nat.le_of_ble_eq_true rfl) (fun Γ V hC hR hT hI => ?_)
  obtain ⟨m0, hm0⟩ := hL.2.2.2.1
  have hL1 : LsOK G (sF S 0 a (.int (m0 + nI 1))) κ a r n f := by
    obtain ⟨q1, q2, q3, q4, q5, q6⟩ := hL
    refine ⟨isK_sF.mpr q1, by rw [pF_sF_j _ _ _ _ (by decide)]; exact q2, by rw [pF_sF_j _ _ _ _ (by decide)]; exact q3, ⟨_, pF_sF_eq _ _ _ _⟩, q5, q6⟩
  first | refine r_aload_n (pc := 0) hC dJx4a65c_add_9ea2d_0 rfl ?_ | refine r_aload_nN (pc := 0) hC dJx4a65c_add_9ea2d_0 rfl ?_
  refine r_dup (pc := 1) hC dJx4a65c_add_9ea2d_1 rfl ?_
  refine r_gfS (pc := 2) (κ := 0) (j := 0) hC cls0 (by decide) kf_Jx4a65c_63 ksf_modCount hL.1 hm0 dJx4a65c_add_9ea2d_2 ?_
  refine r_iconst (pc := 5) (nI 1) hC dJx4a65c_add_9ea2d_5 (by decide) ?_
  first | refine rn_iadd (pc := 6) hC dJx4a65c_add_9ea2d_6 ?_ | refine r_iadd (pc := 6) hC dJx4a65c_add_9ea2d_6 ?_
  refine r_pfS (pc := 7) (κ := 0) (j := 0) hC cls0 (by decide) kf_Jx4a65c_63 ksf_modCount hL.1 rfl rfl rfl dJx4a65c_add_9ea2d_7 ?_
  first | refine r_aload_n (pc := 10) hC dJx4a65c_add_9ea2d_10 rfl ?_ | refine r_aload_nN (pc := 10) hC dJx4a65c_add_9ea2d_10 rfl ?_
  first | refine r_aload_n (pc := 11) hC dJx4a65c_add_9ea2d_11 rfl ?_ | refine r_aload_nN (pc := 11) hC dJx4a65c_add_9ea2d_11 rfl ?_
  first | refine r_aload_n (pc := 12) hC dJx4a65c_add_9ea2d_12 rfl ?_ | refine r_aload_nN (pc := 12) hC dJx4a65c_add_9ea2d_12 rfl ?_
  refine r_gf (pc := 13) (κ := 0) (j := 1) hC cls0 (by decide) kf_Jx4a65c_9 (isK_sF.mpr hL.1) (show pF (sF S 0 a (.int (m0 + nI 1))) 1 a = .ref r by rw [pF_sF_j _ _ _ _ (by decide)]; exact hL.2.2.1) dJx4a65c_add_9ea2d_13 ?_
  first | refine r_aload_n (pc := 16) hC dJx4a65c_add_9ea2d_16 rfl ?_ | refine r_aload_nN (pc := 16) hC dJx4a65c_add_9ea2d_16 rfl ?_
  refine r_gf (pc := 17) (κ := 0) (j := 2) hC cls0 (by decide) kf_Jx4a65c_48 (isK_sF.mpr hL.1) (show pF (sF S 0 a (.int (m0 + nI 1))) 2 a = .int (nI n) by rw [pF_sF_j _ _ _ _ (by decide)]; exact hL.2.1) dJx4a65c_add_9ea2d_17 ?_
  refine r_callV (pc := 20) hC (ct_add3 hC.fl hL1 hn (isK_sF.mpr hx) hc hcast) kv_Jx4a65c_131 cls0 (isK_sF.mpr hL.1) rfl rfl (Nat.le_of_ble_eq_true rfl) ⟨by decide, by decide, by decide, by decide⟩ dJx4a65c_add_9ea2d_20 (fun _ _ h => h.elim) (fun v20 S20 h20 => ?_)
  obtain ⟨rfl, r2, hA1, hA2, hA3, hA4⟩ := h20
  refine r_iconst (pc := 23) (nI 1) hC dJx4a65c_add_9ea2d_23 (by decide) ?_
  refine r_zret (pc := 24) hC hR dJx4a65c_add_9ea2d_24 (by first | rfl | exact b2i_z _ | decide) ?_ (by decide) (by decide)
  exact ⟨rfl, r2, hA1, hA2, hA3, (Fr.sF (fun _ => Or.inl rfl)).trans hA4⟩
