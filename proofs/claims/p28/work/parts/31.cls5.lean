theorem oth_lt {σ : Sg} {d z : Nat} (hV : InvC σ) (hd : d < nd σ) (h : ¬ oth σ d z = 0) : oth σ d z - 1 < nz σ := by
  have hv := hV.vd hd
  unfold oth at h ⊢
  split
  · omega
  · split
    · omega
    · rename_i h1 h2
      rw [if_neg h1, if_neg h2] at h
      exact absurd rfl h
theorem oV_n {Y : Lay} {σ : Sg} {d z : Nat} (h : oth σ d z = 0) : oV Y σ d z = .null := if_pos h
theorem oV_s {Y : Lay} {σ : Sg} {d z : Nat} (h : ¬ oth σ d z = 0) : oV Y σ d z = .ref (Y 0 (oth σ d z - 1)) := if_neg h
/-- the first door of the measured way -/
def fdP (σ : Sg) (w : Nat → Bool) (m : Nat → Nat) (z d : Nat) : Bool := decide (oth σ d z ≠ 0) && (w (oth σ d z - 1) && decide (m (oth σ d z - 1) + 1 = m z))
def fdI (σ : Sg) (w : Nat → Bool) (m : Nat → Nat) (z : Nat) : Int32 := if m z = 9 ∨ m z = 0 then -1 else fstD (fdP σ w m z) (nd σ) 0
theorem fstD_t {p : Nat → Bool} {n k : Nat} (h : p k = true) : fstD p (n + 1) k = nI k := if_pos h
theorem fstD_f {p : Nat → Bool} {n k : Nat} (h : p k = false) : fstD p (n + 1) k = fstD p n (k + 1) := if_neg (by rw [h]; decide)
abbrev rm_X4_wouldLeaveVisitor : Room := { frames := 3, cells := 0, slots := 0, locals := 64 }
set_option maxHeartbeats 4000000 in
set_option maxRecDepth 100000 in
theorem ct_leaves {l : Launch} {G : Ids} {S : Ps} {Y : Lay} {σ : Sg} {x b : Nat} (hfl : l.stackTraces = false) (hZ : RC G S Y σ x) (hV : InvC σ) (hb : b < nb σ) : Ct l (Cond.code yX4_wouldLeaveVisitor cX4_wouldLeaveVisitor 5 (some .boolean)) yX4_wouldLeaveVisitor rm_X4_wouldLeaveVisitor G [.ref x, .ref (Y 2 b)] S (fun v S9 => v = some (.int (b2i (leav σ b))) ∧ S = S9) (fun _ _ => False) := by
  refine Ct.of hfl (by decide) (Nat.le_of_ble_eq_true rfl) (fun Γ V hC hR hT hI => ?_)
  have hn := hV.n
  have hp := (hV.vb hb).1
  first | refine r_aload_n (pc := 0) hC dX4_wouldLeaveVisitor_0 rfl ?_ | refine r_aload_nN (pc := 0) hC dX4_wouldLeaveVisitor_0 rfl ?_
  refine r_gf (pc := 1) (κ := 1) (j := 3) hC cls1 (by decide) kf_X4_193 (hZ.kb hb) (hZ.b3 hb) dX4_wouldLeaveVisitor_1 ?_
  refine r_gf (pc := 4) (κ := 3) (j := 0) hC cls3 (by decide) kf_X4_197 (hZ.c hb) (hZ.c0 hb) dX4_wouldLeaveVisitor_4 ?_
  first | refine r_astore_n (pc := 7) hC dX4_wouldLeaveVisitor_7 (by decide) ?_ | refine r_astore_nN (pc := 7) hC dX4_wouldLeaveVisitor_7 (by decide) ?_
  first | refine r_aload_n (pc := 8) hC dX4_wouldLeaveVisitor_8 rfl ?_ | refine r_aload_nN (pc := 8) hC dX4_wouldLeaveVisitor_8 rfl ?_
  first | refine r_aload_n (pc := 9) hC dX4_wouldLeaveVisitor_9 rfl ?_ | refine r_aload_nN (pc := 9) hC dX4_wouldLeaveVisitor_9 rfl ?_
  refine r_gf (pc := 10) (κ := 5) (j := 0) hC cls5 (by decide) kf_X4_14 hZ.kx hZ.x0 dX4_wouldLeaveVisitor_10 ?_
  refine r_acmp_ne (pc := 13) (tgt := 18) hC dX4_wouldLeaveVisitor_13 (by decide) (fun c13 => ?_) (fun c13 => ?_)
  · -- taken
    refine r_iconst (pc := 18) (nI 0) hC dX4_wouldLeaveVisitor_18 (by decide) ?_
    refine r_istore_n (pc := 19) hC dX4_wouldLeaveVisitor_19 (by decide) ?_
    have h0 : ¬ plc σ b = 0 := fun q => c13 ((hZ.zi hp hn.1).mpr q)
    have hlp : ∀ m i, i + m = nb σ → (∀ j, j < i → (fun v => decide (hst σ v = b + 1) && (decide (plc σ v = plc σ b) && decide (plc σ b ≠ 0))) j = false) → At Γ G V 0 0 S [(0, .ref x), (1, .ref (Y 2 b)), (2, .ref (Y 0 (plc σ b))), (3, .int (nI (i)))] 20 [] := by
      intro m
      induction m with
      | zero =>
        intro i hi hno
        refine r_iload_n (pc := 20) hC dX4_wouldLeaveVisitor_20 rfl ?_
        first | refine r_aload_n (pc := 21) hC dX4_wouldLeaveVisitor_21 rfl ?_ | refine r_aload_nN (pc := 21) hC dX4_wouldLeaveVisitor_21 rfl ?_
        refine r_gf (pc := 22) (κ := 5) (j := 3) hC cls5 (by decide) kf_X4_28 hZ.kx hZ.x3 dX4_wouldLeaveVisitor_22 ?_
        refine r_callV (pc := 25) hC (ct_size hC.fl hZ.lb) kv_X4_47 cls0 hZ.lb.1 rfl rfl (Nat.le_of_ble_eq_true rfl) ⟨by decide, by decide, by decide, by decide⟩ dX4_wouldLeaveVisitor_25 (fun _ _ h => h.elim) (fun v25 S25 h25 => ?_)
        obtain ⟨rfl, rfl⟩ := h25
        first | refine rn_icmp_ge (pc := 28) (tgt := 73) hC dX4_wouldLeaveVisitor_28 (by decide) (by omega) (by omega) (fun c28 => ?_) (fun c28 => ?_) | refine ri_icmp_ge (pc := 28) (tgt := 73) hC dX4_wouldLeaveVisitor_28 (by decide) (fun c28 => ?_) (fun c28 => ?_)
        · -- taken
          refine r_iconst (pc := 73) (nI 0) hC dX4_wouldLeaveVisitor_73 (by decide) ?_
          refine r_zret (pc := 74) hC hR dX4_wouldLeaveVisitor_74 (by first | rfl | exact b2i_z _ | decide) ?_ (by decide) (by decide)
          have e : i = nb σ := by omega
          subst e
          exact ⟨ret_f (exF_f hno), rfl⟩
        · -- not
          exfalso; omega
      | succ m ih =>
        intro i hi hno
        have hi2 : i < nb σ := by omega
        by_cases hh : hst σ i = 0
        · skip
          refine r_iload_n (pc := 20) hC dX4_wouldLeaveVisitor_20 rfl ?_
          first | refine r_aload_n (pc := 21) hC dX4_wouldLeaveVisitor_21 rfl ?_ | refine r_aload_nN (pc := 21) hC dX4_wouldLeaveVisitor_21 rfl ?_
          refine r_gf (pc := 22) (κ := 5) (j := 3) hC cls5 (by decide) kf_X4_28 hZ.kx hZ.x3 dX4_wouldLeaveVisitor_22 ?_
          refine r_callV (pc := 25) hC (ct_size hC.fl hZ.lb) kv_X4_47 cls0 hZ.lb.1 rfl rfl (Nat.le_of_ble_eq_true rfl) ⟨by decide, by decide, by decide, by decide⟩ dX4_wouldLeaveVisitor_25 (fun _ _ h => h.elim) (fun v25 S25 h25 => ?_)
          obtain ⟨rfl, rfl⟩ := h25
          first | refine rn_icmp_ge (pc := 28) (tgt := 73) hC dX4_wouldLeaveVisitor_28 (by decide) (by omega) (by omega) (fun c28 => ?_) (fun c28 => ?_) | refine ri_icmp_ge (pc := 28) (tgt := 73) hC dX4_wouldLeaveVisitor_28 (by decide) (fun c28 => ?_) (fun c28 => ?_)
          · -- taken
            exfalso; omega
          · -- not
            first | refine r_aload_n (pc := 31) hC dX4_wouldLeaveVisitor_31 rfl ?_ | refine r_aload_nN (pc := 31) hC dX4_wouldLeaveVisitor_31 rfl ?_
            refine r_gf (pc := 32) (κ := 5) (j := 3) hC cls5 (by decide) kf_X4_28 hZ.kx hZ.x3 dX4_wouldLeaveVisitor_32 ?_
            refine r_iload_n (pc := 35) hC dX4_wouldLeaveVisitor_35 rfl ?_
            refine r_callV (pc := 36) hC (ct_get hC.fl hZ.lb hi2) kv_X4_169 cls0 hZ.lb.1 rfl rfl (Nat.le_of_ble_eq_true rfl) ⟨by decide, by decide, by decide, by decide⟩ dX4_wouldLeaveVisitor_36 (fun _ _ h => h.elim) (fun v36 S36 h36 => ?_)
            obtain ⟨rfl, rfl⟩ := h36
            refine r_cast (pc := 39) (κ := 1) hC cls1 kc_X4_127 (hZ.kb hi2) dX4_wouldLeaveVisitor_39 ?_
            first | refine r_astore (pc := 42) hC dX4_wouldLeaveVisitor_42 (by decide) ?_ | refine r_astoreN (pc := 42) hC dX4_wouldLeaveVisitor_42 (by decide) ?_
            first | refine r_aload (pc := 44) hC dX4_wouldLeaveVisitor_44 rfl ?_ | refine r_aloadN (pc := 44) hC dX4_wouldLeaveVisitor_44 rfl ?_
            refine r_gf (pc := 46) (κ := 1) (j := 1) hC cls1 (by decide) kf_X4_126 (hZ.kb hi2) (hZ.b1n hi2 hh) dX4_wouldLeaveVisitor_46 ?_
            first | refine r_aload_n (pc := 49) hC dX4_wouldLeaveVisitor_49 rfl ?_ | refine r_aload_nN (pc := 49) hC dX4_wouldLeaveVisitor_49 rfl ?_
            refine r_acmp_neN (pc := 50) (tgt := 67) hC dX4_wouldLeaveVisitor_50 (by decide) ?_
            first | refine rn_iinc (pc := 67) (q := 1) hC dX4_wouldLeaveVisitor_67 rfl (by decide) ?_ | refine r_iinc (pc := 67) _ hC dX4_wouldLeaveVisitor_67 rfl rfl (by decide) ?_
            refine r_goto (pc := 70) (tgt := 20) hC dX4_wouldLeaveVisitor_70 (by decide) ?_
            refine at_lv (lv' := [(0, .ref x), (1, .ref (Y 2 b)), (2, .ref (Y 0 (plc σ b))), (3, .int (nI (i + 1)))]) ⟨rfl, rfl, rfl, rfl, trivial⟩ ?_
            refine ih (i + 1) (by omega) (ex_step hno ?_)
            have e3 : ¬ hst σ i = b + 1 := by omega
            simp [e3]
        · skip
          refine r_iload_n (pc := 20) hC dX4_wouldLeaveVisitor_20 rfl ?_
          first | refine r_aload_n (pc := 21) hC dX4_wouldLeaveVisitor_21 rfl ?_ | refine r_aload_nN (pc := 21) hC dX4_wouldLeaveVisitor_21 rfl ?_
          refine r_gf (pc := 22) (κ := 5) (j := 3) hC cls5 (by decide) kf_X4_28 hZ.kx hZ.x3 dX4_wouldLeaveVisitor_22 ?_
          refine r_callV (pc := 25) hC (ct_size hC.fl hZ.lb) kv_X4_47 cls0 hZ.lb.1 rfl rfl (Nat.le_of_ble_eq_true rfl) ⟨by decide, by decide, by decide, by decide⟩ dX4_wouldLeaveVisitor_25 (fun _ _ h => h.elim) (fun v25 S25 h25 => ?_)
          obtain ⟨rfl, rfl⟩ := h25
          first | refine rn_icmp_ge (pc := 28) (tgt := 73) hC dX4_wouldLeaveVisitor_28 (by decide) (by omega) (by omega) (fun c28 => ?_) (fun c28 => ?_) | refine ri_icmp_ge (pc := 28) (tgt := 73) hC dX4_wouldLeaveVisitor_28 (by decide) (fun c28 => ?_) (fun c28 => ?_)
          · -- taken
            exfalso; omega
          · -- not
            first | refine r_aload_n (pc := 31) hC dX4_wouldLeaveVisitor_31 rfl ?_ | refine r_aload_nN (pc := 31) hC dX4_wouldLeaveVisitor_31 rfl ?_
            refine r_gf (pc := 32) (κ := 5) (j := 3) hC cls5 (by decide) kf_X4_28 hZ.kx hZ.x3 dX4_wouldLeaveVisitor_32 ?_
            refine r_iload_n (pc := 35) hC dX4_wouldLeaveVisitor_35 rfl ?_
            refine r_callV (pc := 36) hC (ct_get hC.fl hZ.lb hi2) kv_X4_169 cls0 hZ.lb.1 rfl rfl (Nat.le_of_ble_eq_true rfl) ⟨by decide, by decide, by decide, by decide⟩ dX4_wouldLeaveVisitor_36 (fun _ _ h => h.elim) (fun v36 S36 h36 => ?_)
            obtain ⟨rfl, rfl⟩ := h36
            refine r_cast (pc := 39) (κ := 1) hC cls1 kc_X4_127 (hZ.kb hi2) dX4_wouldLeaveVisitor_39 ?_
            first | refine r_astore (pc := 42) hC dX4_wouldLeaveVisitor_42 (by decide) ?_ | refine r_astoreN (pc := 42) hC dX4_wouldLeaveVisitor_42 (by decide) ?_
            first | refine r_aload (pc := 44) hC dX4_wouldLeaveVisitor_44 rfl ?_ | refine r_aloadN (pc := 44) hC dX4_wouldLeaveVisitor_44 rfl ?_
            refine r_gf (pc := 46) (κ := 1) (j := 1) hC cls1 (by decide) kf_X4_126 (hZ.kb hi2) (hZ.b1s hi2 hh) dX4_wouldLeaveVisitor_46 ?_
            first | refine r_aload_n (pc := 49) hC dX4_wouldLeaveVisitor_49 rfl ?_ | refine r_aload_nN (pc := 49) hC dX4_wouldLeaveVisitor_49 rfl ?_
            refine r_acmp_ne (pc := 50) (tgt := 67) hC dX4_wouldLeaveVisitor_50 (by decide) (fun c50 => ?_) (fun c50 => ?_)
            · -- taken
              first | refine rn_iinc (pc := 67) (q := 1) hC dX4_wouldLeaveVisitor_67 rfl (by decide) ?_ | refine r_iinc (pc := 67) _ hC dX4_wouldLeaveVisitor_67 rfl rfl (by decide) ?_
              refine r_goto (pc := 70) (tgt := 20) hC dX4_wouldLeaveVisitor_70 (by decide) ?_
              have e1 : ¬ hst σ i - 1 = b := fun q => c50 ((hZ.bi (hV.h hi2 hh) hb).mpr q)
              refine at_lv (lv' := [(0, .ref x), (1, .ref (Y 2 b)), (2, .ref (Y 0 (plc σ b))), (3, .int (nI (i + 1)))]) ⟨rfl, rfl, rfl, rfl, trivial⟩ ?_
              refine ih (i + 1) (by omega) (ex_step hno ?_)
              have e3 : ¬ hst σ i = b + 1 := by omega
              simp [e3]
            · -- not
              first | refine r_aload (pc := 53) hC dX4_wouldLeaveVisitor_53 rfl ?_ | refine r_aloadN (pc := 53) hC dX4_wouldLeaveVisitor_53 rfl ?_
              refine r_gf (pc := 55) (κ := 1) (j := 3) hC cls1 (by decide) kf_X4_193 (hZ.kb hi2) (hZ.b3 hi2) dX4_wouldLeaveVisitor_55 ?_
              refine r_gf (pc := 58) (κ := 3) (j := 0) hC cls3 (by decide) kf_X4_197 (hZ.c hi2) (hZ.c0 hi2) dX4_wouldLeaveVisitor_58 ?_
              first | refine r_aload_n (pc := 61) hC dX4_wouldLeaveVisitor_61 rfl ?_ | refine r_aload_nN (pc := 61) hC dX4_wouldLeaveVisitor_61 rfl ?_
              refine r_acmp_ne (pc := 62) (tgt := 67) hC dX4_wouldLeaveVisitor_62 (by decide) (fun c62 => ?_) (fun c62 => ?_)
              · -- taken
                first | refine rn_iinc (pc := 67) (q := 1) hC dX4_wouldLeaveVisitor_67 rfl (by decide) ?_ | refine r_iinc (pc := 67) _ hC dX4_wouldLeaveVisitor_67 rfl rfl (by decide) ?_
                refine r_goto (pc := 70) (tgt := 20) hC dX4_wouldLeaveVisitor_70 (by decide) ?_
                have e2 : ¬ plc σ i = plc σ b := fun q => c62 ((hZ.zi (hV.vb hi2).1 hp).mpr q)
                refine at_lv (lv' := [(0, .ref x), (1, .ref (Y 2 b)), (2, .ref (Y 0 (plc σ b))), (3, .int (nI (i + 1)))]) ⟨rfl, rfl, rfl, rfl, trivial⟩ ?_
                refine ih (i + 1) (by omega) (ex_step hno ?_)
                simp [e2]
              · -- not
                refine r_iconst (pc := 65) (nI 1) hC dX4_wouldLeaveVisitor_65 (by decide) ?_
                refine r_zret (pc := 66) hC hR dX4_wouldLeaveVisitor_66 (by first | rfl | exact b2i_z _ | decide) ?_ (by decide) (by decide)
                have e1 : hst σ i - 1 = b := (hZ.bi (hV.h hi2 hh) hb).mp c50
                have e2 := (hZ.zi (hV.vb hi2).1 hp).mp c62
                refine ⟨ret_t (exF_t hi2 ?_), rfl⟩
                show (fun v => decide (hst σ v = b + 1) && (decide (plc σ v = plc σ b) && decide (plc σ b ≠ 0))) i = true
                have e3 : hst σ i = b + 1 := by omega
                simp [e3, e2, h0]
    refine at_lv (lv' := [(0, .ref x), (1, .ref (Y 2 b)), (2, .ref (Y 0 (plc σ b))), (3, .int (nI (0)))]) ⟨rfl, rfl, rfl, rfl, trivial⟩ ?_
    exact hlp (nb σ) 0 (by omega) (fun j hj => absurd hj (by omega))
  · -- not
    refine r_iconst (pc := 16) (nI 0) hC dX4_wouldLeaveVisitor_16 (by decide) ?_
    refine r_zret (pc := 17) hC hR dX4_wouldLeaveVisitor_17 (by first | rfl | exact b2i_z _ | decide) ?_ (by decide) (by decide)
    have e1 := (hZ.zi hp hn.1).mp c13
    exact ⟨ret_f (exF_f (fun i _ => by simp [e1])), rfl⟩
abbrev rm_X4_measureTo : Room := { frames := 3, cells := 0, slots := 0, locals := 64 }
set_option maxHeartbeats 4000000 in
set_option maxRecDepth 100000 in
theorem ct_mto {l : Launch} {G : Ids} {S : Ps} {Y : Lay} {σ : Sg} {x t : Nat} {w : Nat → Bool} (hfl : l.stackTraces = false) (hZ : RC G S Y σ x) (hV : InvC σ) (ht : t < nz σ) (hW : ∀ z, z < nz σ → pF S 4 (Y 0 z) = .int (b2i (w z))) : Ct l (Cond.code yX4_measureTo cX4_measureTo 4 none) yX4_measureTo rm_X4_measureTo G [.ref x, .ref (Y 0 t)] S (fun v S9 => v = none ∧ Wy S S9 ∧ MS S9 Y σ w (mlS σ w t (nz σ))) (fun _ _ => False) := by
  refine Ct.of hfl (by decide) (Nat.le_of_ble_eq_true rfl) (fun Γ V hC hR hT hI => ?_)
  have hn := hV.n
  have hout : ∀ m k S1, k + m = nz σ → Wy S S1 → MS S1 Y σ w (mlS σ w t k) → At Γ G V 0 0 S1 [(0, .ref x), (1, .ref (Y 0 t)), (2, .int (nI (k)))] 41 [] := by
    intro m
    induction m with
    | zero =>
      intro k S1 hi hw hM
      have hZ1 := hZ.wy hw
      refine r_iload_n (pc := 41) hC dX4_measureTo_41 rfl ?_
      first | refine r_aload_n (pc := 42) hC dX4_measureTo_42 rfl ?_ | refine r_aload_nN (pc := 42) hC dX4_measureTo_42 rfl ?_
      refine r_gf (pc := 43) (κ := 5) (j := 1) hC cls5 (by decide) kf_X4_21 hZ1.kx hZ1.x1 dX4_measureTo_43 ?_
      refine r_callV (pc := 46) hC (ct_size hC.fl hZ1.lz) kv_X4_47 cls0 hZ1.lz.1 rfl rfl (Nat.le_of_ble_eq_true rfl) ⟨by decide, by decide, by decide, by decide⟩ dX4_measureTo_46 (fun _ _ h => h.elim) (fun v46 S46 h46 => ?_)
      obtain ⟨rfl, rfl⟩ := h46
      first | refine rn_icmp_ge (pc := 49) (tgt := 92) hC dX4_measureTo_49 (by decide) (by omega) (by omega) (fun c49 => ?_) (fun c49 => ?_) | refine ri_icmp_ge (pc := 49) (tgt := 92) hC dX4_measureTo_49 (by decide) (fun c49 => ?_) (fun c49 => ?_)
      · -- taken
        refine r_vret (pc := 92) hC hR dX4_measureTo_92 ?_ (by decide) (by decide)
        have e : k = nz σ := by omega
        subst e
        exact ⟨rfl, hw, hM⟩
      · -- not
        exfalso; omega
    | succ m ih =>
      intro k S1 hi hw hM
      have hZ0 := hZ.wy hw
      have hin : ∀ m2 i S2, i + m2 = nd σ → Wy S S2 → MS S2 Y σ w (mdS σ w (mlS σ w t k) k i) → At Γ G V 0 0 S2 [(0, .ref x), (1, .ref (Y 0 t)), (2, .int (nI (k))), (3, .int (nI (i)))] 54 [] := by
        intro m2
        induction m2 with
        | zero =>
          intro i S2 hi2 hw2 hM2
          have hZ1 := hZ.wy hw2
          refine r_iload_n (pc := 54) hC dX4_measureTo_54 rfl ?_
          first | refine r_aload_n (pc := 55) hC dX4_measureTo_55 rfl ?_ | refine r_aload_nN (pc := 55) hC dX4_measureTo_55 rfl ?_
          refine r_gf (pc := 56) (κ := 5) (j := 2) hC cls5 (by decide) kf_X4_25 hZ1.kx hZ1.x2 dX4_measureTo_56 ?_
          refine r_callV (pc := 59) hC (ct_size hC.fl hZ1.ld) kv_X4_47 cls0 hZ1.ld.1 rfl rfl (Nat.le_of_ble_eq_true rfl) ⟨by decide, by decide, by decide, by decide⟩ dX4_measureTo_59 (fun _ _ h => h.elim) (fun v59 S59 h59 => ?_)
          obtain ⟨rfl, rfl⟩ := h59
          first | refine rn_icmp_ge (pc := 62) (tgt := 86) hC dX4_measureTo_62 (by decide) (by omega) (by omega) (fun c62 => ?_) (fun c62 => ?_) | refine ri_icmp_ge (pc := 62) (tgt := 86) hC dX4_measureTo_62 (by decide) (fun c62 => ?_) (fun c62 => ?_)
          · -- taken
            first | refine rn_iinc (pc := 86) (q := 1) hC dX4_measureTo_86 rfl (by decide) ?_ | refine r_iinc (pc := 86) _ hC dX4_measureTo_86 rfl rfl (by decide) ?_
            refine r_goto (pc := 89) (tgt := 41) hC dX4_measureTo_89 (by decide) ?_
            have e : i = nd σ := by omega
            subst e
            refine at_lv (lv' := [(0, .ref x), (1, .ref (Y 0 t)), (2, .int (nI (k + 1)))]) ⟨rfl, rfl, rfl, trivial⟩ ?_
            exact ih (k + 1) S2 (by omega) hw2 hM2
          · -- not
            exfalso; omega
        | succ m2 ih2 =>
          intro i S2 hi3 hw2 hM2
          have hZ1 := hZ.wy hw2
          have hi2 : i < nd σ := by omega
          refine r_iload_n (pc := 54) hC dX4_measureTo_54 rfl ?_
          first | refine r_aload_n (pc := 55) hC dX4_measureTo_55 rfl ?_ | refine r_aload_nN (pc := 55) hC dX4_measureTo_55 rfl ?_
          refine r_gf (pc := 56) (κ := 5) (j := 2) hC cls5 (by decide) kf_X4_25 hZ1.kx hZ1.x2 dX4_measureTo_56 ?_
          refine r_callV (pc := 59) hC (ct_size hC.fl hZ1.ld) kv_X4_47 cls0 hZ1.ld.1 rfl rfl (Nat.le_of_ble_eq_true rfl) ⟨by decide, by decide, by decide, by decide⟩ dX4_measureTo_59 (fun _ _ h => h.elim) (fun v59 S59 h59 => ?_)
          obtain ⟨rfl, rfl⟩ := h59
          first | refine rn_icmp_ge (pc := 62) (tgt := 86) hC dX4_measureTo_62 (by decide) (by omega) (by omega) (fun c62 => ?_) (fun c62 => ?_) | refine ri_icmp_ge (pc := 62) (tgt := 86) hC dX4_measureTo_62 (by decide) (fun c62 => ?_) (fun c62 => ?_)
          · -- taken
            exfalso; omega
          · -- not
            first | refine r_aload_n (pc := 65) hC dX4_measureTo_65 rfl ?_ | refine r_aload_nN (pc := 65) hC dX4_measureTo_65 rfl ?_
            refine r_gf (pc := 66) (κ := 5) (j := 2) hC cls5 (by decide) kf_X4_25 hZ1.kx hZ1.x2 dX4_measureTo_66 ?_
            refine r_iload_n (pc := 69) hC dX4_measureTo_69 rfl ?_
            refine r_callV (pc := 70) hC (ct_get hC.fl hZ1.ld hi2) kv_X4_169 cls0 hZ1.ld.1 rfl rfl (Nat.le_of_ble_eq_true rfl) ⟨by decide, by decide, by decide, by decide⟩ dX4_measureTo_70 (fun _ _ h => h.elim) (fun v70 S70 h70 => ?_)
            obtain ⟨rfl, rfl⟩ := h70
            refine r_cast (pc := 73) (κ := 2) hC cls2 kc_X4_91 (hZ1.kd hi2) dX4_measureTo_73 ?_
            refine r_iload_n (pc := 76) hC dX4_measureTo_76 rfl ?_
            refine r_callV (pc := 77) hC (ct_mback hC.fl hZ1 hV hM2 hi2 (by omega)) kv_X4_279 cls2 (hZ1.kd hi2) rfl rfl (Nat.le_of_ble_eq_true rfl) ⟨by decide, by decide, by decide, by decide⟩ dX4_measureTo_77 (fun _ _ h => h.elim) (fun v77 S77 h77 => ?_)
            obtain ⟨rfl, hW9, hM9⟩ := h77
            first | refine rn_iinc (pc := 80) (q := 1) hC dX4_measureTo_80 rfl (by decide) ?_ | refine r_iinc (pc := 80) _ hC dX4_measureTo_80 rfl rfl (by decide) ?_
            refine r_goto (pc := 83) (tgt := 54) hC dX4_measureTo_83 (by decide) ?_
            refine at_lv (lv' := [(0, .ref x), (1, .ref (Y 0 t)), (2, .int (nI (k))), (3, .int (nI (i + 1)))]) ⟨rfl, rfl, rfl, rfl, trivial⟩ ?_
            exact ih2 (i + 1) _ (by omega) (hw2.trans hW9) hM9
      refine r_iload_n (pc := 41) hC dX4_measureTo_41 rfl ?_
      first | refine r_aload_n (pc := 42) hC dX4_measureTo_42 rfl ?_ | refine r_aload_nN (pc := 42) hC dX4_measureTo_42 rfl ?_
      refine r_gf (pc := 43) (κ := 5) (j := 1) hC cls5 (by decide) kf_X4_21 hZ0.kx hZ0.x1 dX4_measureTo_43 ?_
      refine r_callV (pc := 46) hC (ct_size hC.fl hZ0.lz) kv_X4_47 cls0 hZ0.lz.1 rfl rfl (Nat.le_of_ble_eq_true rfl) ⟨by decide, by decide, by decide, by decide⟩ dX4_measureTo_46 (fun _ _ h => h.elim) (fun v46 S46 h46 => ?_)
      obtain ⟨rfl, rfl⟩ := h46
      first | refine rn_icmp_ge (pc := 49) (tgt := 92) hC dX4_measureTo_49 (by decide) (by omega) (by omega) (fun c49 => ?_) (fun c49 => ?_) | refine ri_icmp_ge (pc := 49) (tgt := 92) hC dX4_measureTo_49 (by decide) (fun c49 => ?_) (fun c49 => ?_)
      · -- taken
        exfalso; omega
      · -- not
        refine r_iconst (pc := 52) (nI 0) hC dX4_measureTo_52 (by decide) ?_
        refine r_istore_n (pc := 53) hC dX4_measureTo_53 (by decide) ?_
        refine at_lv (lv' := [(0, .ref x), (1, .ref (Y 0 t)), (2, .int (nI (k))), (3, .int (nI (0)))]) ⟨rfl, rfl, rfl, rfl, trivial⟩ ?_
        exact hin (nd σ) 0 S1 (by omega) hw hM
  have hlp : ∀ m i S1, i + m = nz σ → Wy S S1 → (∀ z, z < nz σ → pF S1 4 (Y 0 z) = .int (b2i (w z))) → (∀ z, z < i → pF S1 5 (Y 0 z) = .int (dI 9)) → At Γ G V 0 0 S1 [(0, .ref x), (1, .ref (Y 0 t)), (2, .int (nI (i)))] 2 [] := by
    intro m
    induction m with
    | zero =>
      intro i S1 hi hw h4 h5
      have hZ1 := hZ.wy hw
      refine r_iload_n (pc := 2) hC dX4_measureTo_2 rfl ?_
      first | refine r_aload_n (pc := 3) hC dX4_measureTo_3 rfl ?_ | refine r_aload_nN (pc := 3) hC dX4_measureTo_3 rfl ?_
      refine r_gf (pc := 4) (κ := 5) (j := 1) hC cls5 (by decide) kf_X4_21 hZ1.kx hZ1.x1 dX4_measureTo_4 ?_
      refine r_callV (pc := 7) hC (ct_size hC.fl hZ1.lz) kv_X4_47 cls0 hZ1.lz.1 rfl rfl (Nat.le_of_ble_eq_true rfl) ⟨by decide, by decide, by decide, by decide⟩ dX4_measureTo_7 (fun _ _ h => h.elim) (fun v7 S7 h7 => ?_)
      obtain ⟨rfl, rfl⟩ := h7
      first | refine rn_icmp_ge (pc := 10) (tgt := 34) hC dX4_measureTo_10 (by decide) (by omega) (by omega) (fun c10 => ?_) (fun c10 => ?_) | refine ri_icmp_ge (pc := 10) (tgt := 34) hC dX4_measureTo_10 (by decide) (fun c10 => ?_) (fun c10 => ?_)
      · -- taken
        first | refine r_aload_n (pc := 34) hC dX4_measureTo_34 rfl ?_ | refine r_aload_nN (pc := 34) hC dX4_measureTo_34 rfl ?_
        refine r_iconst (pc := 35) (nI 0) hC dX4_measureTo_35 (by decide) ?_
        refine r_pf (pc := 36) (κ := 4) (j := 5) hC cls4 (by decide) kf_X4_99 (hZ1.kz ht) rfl rfl rfl dX4_measureTo_36 ?_
        refine r_iconst (pc := 39) (nI 0) hC dX4_measureTo_39 (by decide) ?_
        refine r_istore_n (pc := 40) hC dX4_measureTo_40 (by decide) ?_
        refine at_lv (lv' := [(0, .ref x), (1, .ref (Y 0 t)), (2, .int (nI (0)))]) ⟨rfl, rfl, rfl, trivial⟩ ?_
        refine hout (nz σ) 0 _ (by omega) (hw.trans (Wy.sF (hZ1.kz ht) (by decide))) (fun z hz => ⟨?_, ?_, ?_⟩)
        · rw [pF_sF_j _ _ _ _ (by decide)]; exact h4 z hz
        · show _ = Value.int (dI (if z = t then 0 else 9))
          by_cases c : z = t
          · rw [c, pF_sF_eq, if_pos rfl]; rfl
          · rw [pF_sF_a _ _ _ _ (fun q => c ((hZ1.zi hz ht).mp q)), if_neg c]; exact h5 z (by omega)
        · show (if z = t then 0 else 9) ≤ 9
          split <;> omega
      · -- not
        exfalso; omega
    | succ m ih =>
      intro i S1 hi hw h4 h5
      have hZ1 := hZ.wy hw
      have hi2 : i < nz σ := by omega
      refine r_iload_n (pc := 2) hC dX4_measureTo_2 rfl ?_
      first | refine r_aload_n (pc := 3) hC dX4_measureTo_3 rfl ?_ | refine r_aload_nN (pc := 3) hC dX4_measureTo_3 rfl ?_
      refine r_gf (pc := 4) (κ := 5) (j := 1) hC cls5 (by decide) kf_X4_21 hZ1.kx hZ1.x1 dX4_measureTo_4 ?_
      refine r_callV (pc := 7) hC (ct_size hC.fl hZ1.lz) kv_X4_47 cls0 hZ1.lz.1 rfl rfl (Nat.le_of_ble_eq_true rfl) ⟨by decide, by decide, by decide, by decide⟩ dX4_measureTo_7 (fun _ _ h => h.elim) (fun v7 S7 h7 => ?_)
      obtain ⟨rfl, rfl⟩ := h7
      first | refine rn_icmp_ge (pc := 10) (tgt := 34) hC dX4_measureTo_10 (by decide) (by omega) (by omega) (fun c10 => ?_) (fun c10 => ?_) | refine ri_icmp_ge (pc := 10) (tgt := 34) hC dX4_measureTo_10 (by decide) (fun c10 => ?_) (fun c10 => ?_)
      · -- taken
        exfalso; omega
      · -- not
        first | refine r_aload_n (pc := 13) hC dX4_measureTo_13 rfl ?_ | refine r_aload_nN (pc := 13) hC dX4_measureTo_13 rfl ?_
        refine r_gf (pc := 14) (κ := 5) (j := 1) hC cls5 (by decide) kf_X4_21 hZ1.kx hZ1.x1 dX4_measureTo_14 ?_
        refine r_iload_n (pc := 17) hC dX4_measureTo_17 rfl ?_
        refine r_callV (pc := 18) hC (ct_get hC.fl hZ1.lz hi2) kv_X4_169 cls0 hZ1.lz.1 rfl rfl (Nat.le_of_ble_eq_true rfl) ⟨by decide, by decide, by decide, by decide⟩ dX4_measureTo_18 (fun _ _ h => h.elim) (fun v18 S18 h18 => ?_)
        obtain ⟨rfl, rfl⟩ := h18
        refine r_cast (pc := 21) (κ := 4) hC cls4 kc_X4_9 (hZ1.kz hi2) dX4_measureTo_21 ?_
        refine r_iconst (pc := 24) (-1) hC dX4_measureTo_24 (by decide) ?_
        refine r_pf (pc := 25) (κ := 4) (j := 5) hC cls4 (by decide) kf_X4_99 (hZ1.kz hi2) rfl rfl rfl dX4_measureTo_25 ?_
        first | refine rn_iinc (pc := 28) (q := 1) hC dX4_measureTo_28 rfl (by decide) ?_ | refine r_iinc (pc := 28) _ hC dX4_measureTo_28 rfl rfl (by decide) ?_
        refine r_goto (pc := 31) (tgt := 2) hC dX4_measureTo_31 (by decide) ?_
        refine at_lv (lv' := [(0, .ref x), (1, .ref (Y 0 t)), (2, .int (nI (i + 1)))]) ⟨rfl, rfl, rfl, trivial⟩ ?_
        refine ih (i + 1) (sF S1 5 (Y 0 i) (.int (-1))) (by omega) (hw.trans (Wy.sF (hZ1.kz hi2) (by decide))) (fun z hz => ?_) (fun z hz => ?_)
        · rw [pF_sF_j _ _ _ _ (by decide)]; exact h4 z hz
        · by_cases c : z = i
          · rw [c, pF_sF_eq]; rfl
          · rw [pF_sF_a _ _ _ _ (fun q => c ((hZ1.zi (by omega) hi2).mp q))]; exact h5 z (by omega)
  refine r_iconst (pc := 0) (nI 0) hC dX4_measureTo_0 (by decide) ?_
  refine r_istore_n (pc := 1) hC dX4_measureTo_1 (by decide) ?_
  refine at_lv (lv' := [(0, .ref x), (1, .ref (Y 0 t)), (2, .int (nI (0)))]) ⟨rfl, rfl, rfl, trivial⟩ ?_
  exact hlp (nz σ) 0 S (by omega) Wy.rfl hW (fun z hz => absurd hz (by omega))
abbrev rm_X4_measureDistances : Room := { frames := 4, cells := 0, slots := 0, locals := 87 }
set_option maxHeartbeats 4000000 in
set_option maxRecDepth 100000 in
theorem ct_mdist {l : Launch} {G : Ids} {S : Ps} {Y : Lay} {σ : Sg} {x : Nat} (hfl : l.stackTraces = false) (hZ : RC G S Y σ x) (hV : InvC σ) : Ct l (Cond.code yX4_measureDistances cX4_measureDistances 2 none) yX4_measureDistances rm_X4_measureDistances G [.ref x] S (fun v S9 => v = none ∧ Wy S S9 ∧ MS S9 Y σ (fun z => okA z) (mlS σ (fun z => okA z) 0 (nz σ))) (fun _ _ => False) := by
  refine Ct.of hfl (by decide) (Nat.le_of_ble_eq_true rfl) (fun Γ V hC hR hT hI => ?_)
  have hn := hV.n
  have hlp : ∀ m i S1, i + m = nz σ → Wy S S1 → (∀ z, z < i → pF S1 4 (Y 0 z) = .int (b2i (okA z))) → At Γ G V 0 0 S1 [(0, .ref x), (1, .int (nI (i)))] 2 [] := by
    intro m
    induction m with
    | zero =>
      intro i S1 hi hw h4
      have hZ1 := hZ.wy hw
      refine r_iload_n (pc := 2) hC dX4_measureDistances_2 rfl ?_
      first | refine r_aload_n (pc := 3) hC dX4_measureDistances_3 rfl ?_ | refine r_aload_nN (pc := 3) hC dX4_measureDistances_3 rfl ?_
      refine r_gf (pc := 4) (κ := 5) (j := 1) hC cls5 (by decide) kf_X4_21 hZ1.kx hZ1.x1 dX4_measureDistances_4 ?_
      refine r_callV (pc := 7) hC (ct_size hC.fl hZ1.lz) kv_X4_47 cls0 hZ1.lz.1 rfl rfl (Nat.le_of_ble_eq_true rfl) ⟨by decide, by decide, by decide, by decide⟩ dX4_measureDistances_7 (fun _ _ h => h.elim) (fun v7 S7 h7 => ?_)
      obtain ⟨rfl, rfl⟩ := h7
      first | refine rn_icmp_ge (pc := 10) (tgt := 34) hC dX4_measureDistances_10 (by decide) (by omega) (by omega) (fun c10 => ?_) (fun c10 => ?_) | refine ri_icmp_ge (pc := 10) (tgt := 34) hC dX4_measureDistances_10 (by decide) (fun c10 => ?_) (fun c10 => ?_)
      · -- taken
        first | refine r_aload_n (pc := 34) hC dX4_measureDistances_34 rfl ?_ | refine r_aload_nN (pc := 34) hC dX4_measureDistances_34 rfl ?_
        first | refine r_aload_n (pc := 35) hC dX4_measureDistances_35 rfl ?_ | refine r_aload_nN (pc := 35) hC dX4_measureDistances_35 rfl ?_
        refine r_gf (pc := 36) (κ := 5) (j := 0) hC cls5 (by decide) kf_X4_14 hZ1.kx hZ1.x0 dX4_measureDistances_36 ?_
        refine r_callV (pc := 39) hC (ct_mto hC.fl hZ1 hV hn.1 (w := fun z => okA z) (fun z hz => h4 z (by omega))) kv_X4_275 cls5 hZ1.kx rfl rfl (Nat.le_of_ble_eq_true rfl) ⟨by decide, by decide, by decide, by decide⟩ dX4_measureDistances_39 (fun _ _ h => h.elim) (fun v39 S39 h39 => ?_)
        obtain ⟨rfl, hW9, hM9⟩ := h39
        refine r_vret (pc := 42) hC hR dX4_measureDistances_42 ?_ (by decide) (by decide)
        exact ⟨rfl, hw.trans hW9, hM9⟩
      · -- not
        exfalso; omega
    | succ m ih =>
      intro i S1 hi hw h4
      have hZ1 := hZ.wy hw
      have hi2 : i < nz σ := by omega
      refine r_iload_n (pc := 2) hC dX4_measureDistances_2 rfl ?_
      first | refine r_aload_n (pc := 3) hC dX4_measureDistances_3 rfl ?_ | refine r_aload_nN (pc := 3) hC dX4_measureDistances_3 rfl ?_
      refine r_gf (pc := 4) (κ := 5) (j := 1) hC cls5 (by decide) kf_X4_21 hZ1.kx hZ1.x1 dX4_measureDistances_4 ?_
      refine r_callV (pc := 7) hC (ct_size hC.fl hZ1.lz) kv_X4_47 cls0 hZ1.lz.1 rfl rfl (Nat.le_of_ble_eq_true rfl) ⟨by decide, by decide, by decide, by decide⟩ dX4_measureDistances_7 (fun _ _ h => h.elim) (fun v7 S7 h7 => ?_)
      obtain ⟨rfl, rfl⟩ := h7
      first | refine rn_icmp_ge (pc := 10) (tgt := 34) hC dX4_measureDistances_10 (by decide) (by omega) (by omega) (fun c10 => ?_) (fun c10 => ?_) | refine ri_icmp_ge (pc := 10) (tgt := 34) hC dX4_measureDistances_10 (by decide) (fun c10 => ?_) (fun c10 => ?_)
      · -- taken
        exfalso; omega
      · -- not
        first | refine r_aload_n (pc := 13) hC dX4_measureDistances_13 rfl ?_ | refine r_aload_nN (pc := 13) hC dX4_measureDistances_13 rfl ?_
        refine r_gf (pc := 14) (κ := 5) (j := 1) hC cls5 (by decide) kf_X4_21 hZ1.kx hZ1.x1 dX4_measureDistances_14 ?_
        refine r_iload_n (pc := 17) hC dX4_measureDistances_17 rfl ?_
        refine r_callV (pc := 18) hC (ct_get hC.fl hZ1.lz hi2) kv_X4_169 cls0 hZ1.lz.1 rfl rfl (Nat.le_of_ble_eq_true rfl) ⟨by decide, by decide, by decide, by decide⟩ dX4_measureDistances_18 (fun _ _ h => h.elim) (fun v18 S18 h18 => ?_)
        obtain ⟨rfl, rfl⟩ := h18
        refine r_cast (pc := 21) (κ := 4) hC cls4 kc_X4_9 (hZ1.kz hi2) dX4_measureDistances_21 ?_
        refine r_iconst (pc := 24) (nI 1) hC dX4_measureDistances_24 (by decide) ?_
        refine r_pf (pc := 25) (κ := 4) (j := 4) hC cls4 (by decide) kf_X4_272 (hZ1.kz hi2) rfl rfl rfl dX4_measureDistances_25 ?_
        first | refine rn_iinc (pc := 28) (q := 1) hC dX4_measureDistances_28 rfl (by decide) ?_ | refine r_iinc (pc := 28) _ hC dX4_measureDistances_28 rfl rfl (by decide) ?_
        refine r_goto (pc := 31) (tgt := 2) hC dX4_measureDistances_31 (by decide) ?_
        refine at_lv (lv' := [(0, .ref x), (1, .int (nI (i + 1)))]) ⟨rfl, rfl, trivial⟩ ?_
        refine ih (i + 1) (sF S1 4 (Y 0 i) (.int (nI 1))) (by omega) (hw.trans (Wy.sF (hZ1.kz hi2) (by decide))) (fun z hz => ?_)
        by_cases c : z = i
        · rw [c, pF_sF_eq]; rfl
        · rw [pF_sF_a _ _ _ _ (fun q => c ((hZ1.zi (by omega) hi2).mp q))]; exact h4 z (by omega)
  refine r_iconst (pc := 0) (nI 0) hC dX4_measureDistances_0 (by decide) ?_
  refine r_istore_n (pc := 1) hC dX4_measureDistances_1 (by decide) ?_
  refine at_lv (lv' := [(0, .ref x), (1, .int (nI (0)))]) ⟨rfl, rfl, trivial⟩ ?_
  exact hlp (nz σ) 0 S (by omega) Wy.rfl (fun z hz => absurd hz (by omega))
abbrev rm_X4_measureWays : Room := { frames := 4, cells := 0, slots := 0, locals := 87 }
abbrev rm_X4_firstDoorFrom : Room := { frames := 3, cells := 0, slots := 0, locals := 64 }