theorem hI_eq {k a : Nat} (hk : k ≤ 100) (ha : a ≤ 100) : hI k = nI a ↔ k = a + 1 := by
  unfold hI
  by_cases c : k = 0
  · rw [if_pos c]; constructor
    · intro q; exact absurd q.symm (nI_m1 (by omega))
    · intro q; omega
  · rw [if_neg c, nI_eq (by omega) (by omega)]; omega
def acI (σ : Sg) (d z : Nat) : Int32 := if oth σ d z = 0 then -1 else nI (oth σ d z - 1)
theorem acI_n {σ : Sg} {d z : Nat} (h : oth σ d z = 0) : acI σ d z = -1 := if_pos h
theorem acI_s {σ : Sg} {d z : Nat} (h : ¬ oth σ d z = 0) : acI σ d z = nI (oth σ d z - 1) := if_neg h
theorem opn_0 {σ : Sg} (h : InvC σ) : opn σ 0 = true := by
  obtain ⟨-, -, ⟨-, h1, h2⟩, -⟩ := h
  rw [opn_iff, h1, h2]
  exact Or.inr ⟨by omega, Nat.zero_le _, Nat.mod_lt _ (by omega)⟩
theorem hasR_0 {σ : Sg} {b : Nat} : hasR σ b 0 = true := hasR_iff.mpr (Or.inl rfl)
theorem hI_s {h : Nat} (hh : ¬ h = 0) : nI (h - 1) = hI h := (if_neg hh).symm
theorem hI_n {h : Nat} (hh : h = 0) : (-1 : Int32) = hI h := (if_pos hh).symm
abbrev rm_X5_thrown : Room := { frames := 0, cells := 0, slots := 0, locals := 0 }
set_option maxHeartbeats 4000000 in
set_option maxRecDepth 100000 in
theorem cm_thrown {l : Launch} {G : Ids} {S : Ps} {M : Nat → Nat} {σ : Sg} {m t : Nat} (hfl : l.stackTraces = false) (hM : RM S M σ m t) (hV : InvC σ) : Ct l (Cond.code yX5_thrown cX5_thrown 1 (some .int)) yX5_thrown rm_X5_thrown G [.ref m] S (fun v S9 => v = some (.int (nI t)) ∧ S = S9) (fun _ _ => False) := by
  refine Ct.of hfl (by decide) (Nat.le_of_ble_eq_true rfl) (fun Γ V hC hR hT hI => ?_)
  first | refine r_aload_n (pc := 0) hC dX5_thrown_0 rfl ?_ | refine r_aload_nN (pc := 0) hC dX5_thrown_0 rfl ?_
  refine r_gf (pc := 1) (κ := 6) (j := 0) hC cls6 (by decide) kf_X5_54 hM.k6 hM.s0 dX5_thrown_1 ?_
  refine r_iret (pc := 4) hC hR dX5_thrown_4 ?_ (by decide) (by decide)
  exact ⟨rfl, rfl⟩
abbrev rm_X5_fail : Room := { frames := 0, cells := 0, slots := 0, locals := 0 }
set_option maxHeartbeats 4000000 in
set_option maxRecDepth 100000 in
theorem cm_fail {l : Launch} {G : Ids} {S : Ps} {M : Nat → Nat} {σ : Sg} {m t : Nat} {k : Nat} (hfl : l.stackTraces = false) (hM : RM S M σ m t) (hV : InvC σ) : Ct l (Cond.code yX5_fail cX5_fail 2 (some .int)) yX5_fail rm_X5_fail G [.ref m, .int (nI k)] S (fun v S9 => v = some (.int (nI 0)) ∧ RM S9 M σ m k ∧ Fr (mP S) S S9) (fun _ _ => False) := by
  refine Ct.of hfl (by decide) (Nat.le_of_ble_eq_true rfl) (fun Γ V hC hR hT hI => ?_)
  first | refine r_aload_n (pc := 0) hC dX5_fail_0 rfl ?_ | refine r_aload_nN (pc := 0) hC dX5_fail_0 rfl ?_
  refine r_iload_n (pc := 1) hC dX5_fail_1 rfl ?_
  refine r_pf (pc := 2) (κ := 6) (j := 0) hC cls6 (by decide) kf_X5_54 hM.k6 rfl rfl rfl dX5_fail_2 ?_
  refine r_iconst (pc := 5) (nI 0) hC dX5_fail_5 (by decide) ?_
  refine r_iret (pc := 6) hC hR dX5_fail_6 ?_ (by decide) (by decide)
  exact ⟨rfl, hM.th, Fr.sF (fun _ => mP6 hM.k6)⟩
abbrev rm_X5_isZone : Room := { frames := 0, cells := 0, slots := 0, locals := 0 }
set_option maxHeartbeats 4000000 in
set_option maxRecDepth 100000 in
theorem cm_isZone {l : Launch} {G : Ids} {S : Ps} {M : Nat → Nat} {σ : Sg} {m t : Nat} {p : Int32} (hfl : l.stackTraces = false) (hM : RM S M σ m t) (hV : InvC σ) : Ct l (Cond.code yX5_isZone cX5_isZone 2 (some .boolean)) yX5_isZone rm_X5_isZone G [.ref m, .int p] S (fun v S9 => v = some (.int (b2i (inZ σ p))) ∧ S = S9) (fun _ _ => False) := by
  refine Ct.of hfl (by decide) (Nat.le_of_ble_eq_true rfl) (fun Γ V hC hR hT hI => ?_)
  have hn := hV.n
  have q1 := nI_toInt (n := nz σ) (by omega)
  refine r_iload_n (pc := 0) hC dX5_isZone_0 rfl ?_
  refine ri_if_lt (pc := 1) (tgt := 16) hC dX5_isZone_1 (by decide) (fun c1 => ?_) (fun c1 => ?_)
  · -- taken
    refine r_iconst (pc := 16) (nI 0) hC dX5_isZone_16 (by decide) ?_
    refine r_zret (pc := 17) hC hR dX5_isZone_17 (by first | rfl | exact b2i_z _ | decide) ?_ (by decide) (by decide)
    exact ⟨ret_f (decide_eq_false (by omega)), rfl⟩
  · -- not
    refine r_iload_n (pc := 4) hC dX5_isZone_4 rfl ?_
    first | refine r_aload_n (pc := 5) hC dX5_isZone_5 rfl ?_ | refine r_aload_nN (pc := 5) hC dX5_isZone_5 rfl ?_
    refine r_gf (pc := 6) (κ := 6) (j := 3) hC cls6 (by decide) kf_X5_7 hM.k6 hM.s3 dX5_isZone_6 ?_
    first | refine rn_icmp_ge (pc := 9) (tgt := 16) hC dX5_isZone_9 (by decide) (by omega) (by omega) (fun c9 => ?_) (fun c9 => ?_) | refine ri_icmp_ge (pc := 9) (tgt := 16) hC dX5_isZone_9 (by decide) (fun c9 => ?_) (fun c9 => ?_)
    · -- taken
      refine r_iconst (pc := 16) (nI 0) hC dX5_isZone_16 (by decide) ?_
      refine r_zret (pc := 17) hC hR dX5_isZone_17 (by first | rfl | exact b2i_z _ | decide) ?_ (by decide) (by decide)
      exact ⟨ret_f (decide_eq_false (by omega)), rfl⟩
    · -- not
      refine r_iconst (pc := 12) (nI 1) hC dX5_isZone_12 (by decide) ?_
      refine r_goto (pc := 13) (tgt := 17) hC dX5_isZone_13 (by decide) ?_
      refine r_zret (pc := 17) hC hR dX5_isZone_17 (by first | rfl | exact b2i_z _ | decide) ?_ (by decide) (by decide)
      exact ⟨ret_t (decide_eq_true (by omega)), rfl⟩
abbrev rm_X5_isDoor : Room := { frames := 0, cells := 0, slots := 0, locals := 0 }
set_option maxHeartbeats 4000000 in
set_option maxRecDepth 100000 in
theorem cm_isDoor {l : Launch} {G : Ids} {S : Ps} {M : Nat → Nat} {σ : Sg} {m t : Nat} {p : Int32} (hfl : l.stackTraces = false) (hM : RM S M σ m t) (hV : InvC σ) : Ct l (Cond.code yX5_isDoor cX5_isDoor 2 (some .boolean)) yX5_isDoor rm_X5_isDoor G [.ref m, .int p] S (fun v S9 => v = some (.int (b2i (inD σ p))) ∧ S = S9) (fun _ _ => False) := by
  refine Ct.of hfl (by decide) (Nat.le_of_ble_eq_true rfl) (fun Γ V hC hR hT hI => ?_)
  have hn := hV.n
  have q1 := nI_toInt (n := nd σ) (by omega)
  refine r_iload_n (pc := 0) hC dX5_isDoor_0 rfl ?_
  refine ri_if_lt (pc := 1) (tgt := 16) hC dX5_isDoor_1 (by decide) (fun c1 => ?_) (fun c1 => ?_)
  · -- taken
    refine r_iconst (pc := 16) (nI 0) hC dX5_isDoor_16 (by decide) ?_
    refine r_zret (pc := 17) hC hR dX5_isDoor_17 (by first | rfl | exact b2i_z _ | decide) ?_ (by decide) (by decide)
    exact ⟨ret_f (decide_eq_false (by omega)), rfl⟩
  · -- not
    refine r_iload_n (pc := 4) hC dX5_isDoor_4 rfl ?_
    first | refine r_aload_n (pc := 5) hC dX5_isDoor_5 rfl ?_ | refine r_aload_nN (pc := 5) hC dX5_isDoor_5 rfl ?_
    refine r_gf (pc := 6) (κ := 6) (j := 7) hC cls6 (by decide) kf_X5_57 hM.k6 hM.s7 dX5_isDoor_6 ?_
    first | refine rn_icmp_ge (pc := 9) (tgt := 16) hC dX5_isDoor_9 (by decide) (by omega) (by omega) (fun c9 => ?_) (fun c9 => ?_) | refine ri_icmp_ge (pc := 9) (tgt := 16) hC dX5_isDoor_9 (by decide) (fun c9 => ?_) (fun c9 => ?_)
    · -- taken
      refine r_iconst (pc := 16) (nI 0) hC dX5_isDoor_16 (by decide) ?_
      refine r_zret (pc := 17) hC hR dX5_isDoor_17 (by first | rfl | exact b2i_z _ | decide) ?_ (by decide) (by decide)
      exact ⟨ret_f (decide_eq_false (by omega)), rfl⟩
    · -- not
      refine r_iconst (pc := 12) (nI 1) hC dX5_isDoor_12 (by decide) ?_
      refine r_goto (pc := 13) (tgt := 17) hC dX5_isDoor_13 (by decide) ?_
      refine r_zret (pc := 17) hC hR dX5_isDoor_17 (by first | rfl | exact b2i_z _ | decide) ?_ (by decide) (by decide)
      exact ⟨ret_t (decide_eq_true (by omega)), rfl⟩
abbrev rm_X5_isBadge : Room := { frames := 0, cells := 0, slots := 0, locals := 0 }
set_option maxHeartbeats 4000000 in
set_option maxRecDepth 100000 in
theorem cm_isBadge {l : Launch} {G : Ids} {S : Ps} {M : Nat → Nat} {σ : Sg} {m t : Nat} {p : Int32} (hfl : l.stackTraces = false) (hM : RM S M σ m t) (hV : InvC σ) : Ct l (Cond.code yX5_isBadge cX5_isBadge 2 (some .boolean)) yX5_isBadge rm_X5_isBadge G [.ref m, .int p] S (fun v S9 => v = some (.int (b2i (inB σ p))) ∧ S = S9) (fun _ _ => False) := by
  refine Ct.of hfl (by decide) (Nat.le_of_ble_eq_true rfl) (fun Γ V hC hR hT hI => ?_)
  have hn := hV.n
  have q1 := nI_toInt (n := nb σ) (by omega)
  refine r_iload_n (pc := 0) hC dX5_isBadge_0 rfl ?_
  refine ri_if_lt (pc := 1) (tgt := 16) hC dX5_isBadge_1 (by decide) (fun c1 => ?_) (fun c1 => ?_)
  · -- taken
    refine r_iconst (pc := 16) (nI 0) hC dX5_isBadge_16 (by decide) ?_
    refine r_zret (pc := 17) hC hR dX5_isBadge_17 (by first | rfl | exact b2i_z _ | decide) ?_ (by decide) (by decide)
    exact ⟨ret_f (decide_eq_false (by omega)), rfl⟩
  · -- not
    refine r_iload_n (pc := 4) hC dX5_isBadge_4 rfl ?_
    first | refine r_aload_n (pc := 5) hC dX5_isBadge_5 rfl ?_ | refine r_aload_nN (pc := 5) hC dX5_isBadge_5 rfl ?_
    refine r_gf (pc := 6) (κ := 6) (j := 12) hC cls6 (by decide) kf_X5_60 hM.k6 hM.s12 dX5_isBadge_6 ?_
    first | refine rn_icmp_ge (pc := 9) (tgt := 16) hC dX5_isBadge_9 (by decide) (by omega) (by omega) (fun c9 => ?_) (fun c9 => ?_) | refine ri_icmp_ge (pc := 9) (tgt := 16) hC dX5_isBadge_9 (by decide) (fun c9 => ?_) (fun c9 => ?_)
    · -- taken
      refine r_iconst (pc := 16) (nI 0) hC dX5_isBadge_16 (by decide) ?_
      refine r_zret (pc := 17) hC hR dX5_isBadge_17 (by first | rfl | exact b2i_z _ | decide) ?_ (by decide) (by decide)
      exact ⟨ret_f (decide_eq_false (by omega)), rfl⟩
    · -- not
      refine r_iconst (pc := 12) (nI 1) hC dX5_isBadge_12 (by decide) ?_
      refine r_goto (pc := 13) (tgt := 17) hC dX5_isBadge_13 (by decide) ?_
      refine r_zret (pc := 17) hC hR dX5_isBadge_17 (by first | rfl | exact b2i_z _ | decide) ?_ (by decide) (by decide)
      exact ⟨ret_t (decide_eq_true (by omega)), rfl⟩
abbrev rm_X5_has : Room := { frames := 0, cells := 0, slots := 0, locals := 0 }
set_option maxHeartbeats 4000000 in
set_option maxRecDepth 100000 in
theorem cm_has {l : Launch} {G : Ids} {S : Ps} {s z : Nat} (hfl : l.stackTraces = false) (hs : s < 2 ^ 31) (hz : z < 31) : Ct l (Cond.code yX5_has cX5_has 2 (some .boolean)) yX5_has rm_X5_has G [.int (nI s), .int (nI z)] S (fun v S9 => v = some (.int (b2i (decide (s / 2 ^ z % 2 = 1)))) ∧ S = S9) (fun _ _ => False) := by
  refine Ct.of hfl (by decide) (Nat.le_of_ble_eq_true rfl) (fun Γ V hC hR hT hI => ?_)
  have hm := Nat.mod_lt (s / 2 ^ z) (show 0 < 2 by omega)
  refine r_iload_n (pc := 0) hC dX5_has_0 rfl ?_
  refine r_iload_n (pc := 1) hC dX5_has_1 rfl ?_
  refine r_ishr (pc := 2) hC dX5_has_2 ?_
  refine r_iconst (pc := 3) (nI 1) hC dX5_has_3 (by decide) ?_
  refine r_iand (pc := 4) hC dX5_has_4 ?_
  rw [bit_at hs hz]
  refine r_iconst (pc := 5) (nI 1) hC dX5_has_5 (by decide) ?_
  first | refine rn_icmp_ne (pc := 6) (tgt := 13) hC dX5_has_6 (by decide) (by omega) (by omega) (fun c6 => ?_) (fun c6 => ?_) | refine ri_icmp_ne (pc := 6) (tgt := 13) hC dX5_has_6 (by decide) (fun c6 => ?_) (fun c6 => ?_)
  · -- taken
    refine r_iconst (pc := 13) (nI 0) hC dX5_has_13 (by decide) ?_
    refine r_zret (pc := 14) hC hR dX5_has_14 (by first | rfl | exact b2i_z _ | decide) ?_ (by decide) (by decide)
    exact ⟨ret_f (decide_eq_false (by omega)), rfl⟩
  · -- not
    refine r_iconst (pc := 9) (nI 1) hC dX5_has_9 (by decide) ?_
    refine r_goto (pc := 10) (tgt := 14) hC dX5_has_10 (by decide) ?_
    refine r_zret (pc := 14) hC hR dX5_has_14 (by first | rfl | exact b2i_z _ | decide) ?_ (by decide) (by decide)
    exact ⟨ret_t (decide_eq_true (by omega)), rfl⟩
abbrev rm_X5_areHours : Room := { frames := 0, cells := 0, slots := 0, locals := 0 }
set_option maxHeartbeats 4000000 in
set_option maxRecDepth 100000 in
theorem cm_hours {l : Launch} {G : Ids} {S : Ps} {p q r : Int32} (hfl : l.stackTraces = false)  : Ct l (Cond.code yX5_areHours cX5_areHours 3 (some .boolean)) yX5_areHours rm_X5_areHours G [.int p, .int q, .int r] S (fun v S9 => v = some (.int (b2i (inH p q r))) ∧ S = S9) (fun _ _ => False) := by
  refine Ct.of hfl (by decide) (Nat.le_of_ble_eq_true rfl) (fun Γ V hC hR hT hI => ?_)
  have q1 : (nI 1).toInt = 1 := rfl
  have q2 : (nI 20).toInt = 20 := rfl
  have q3 : (nI 1440).toInt = 1440 := rfl
  refine r_iload_n (pc := 0) hC dX5_areHours_0 rfl ?_
  refine r_iconst (pc := 1) (nI 1) hC dX5_areHours_1 (by decide) ?_
  first | refine rn_icmp_lt (pc := 2) (tgt := 42) hC dX5_areHours_2 (by decide) (by omega) (by omega) (fun c2 => ?_) (fun c2 => ?_) | refine ri_icmp_lt (pc := 2) (tgt := 42) hC dX5_areHours_2 (by decide) (fun c2 => ?_) (fun c2 => ?_)
  · -- taken
    refine r_iconst (pc := 42) (nI 0) hC dX5_areHours_42 (by decide) ?_
    refine r_zret (pc := 43) hC hR dX5_areHours_43 (by first | rfl | exact b2i_z _ | decide) ?_ (by decide) (by decide)
    exact ⟨ret_f (decide_eq_false (by omega)), rfl⟩
  · -- not
    refine r_iload_n (pc := 5) hC dX5_areHours_5 rfl ?_
    refine r_bipush (pc := 6) (nI 20) hC dX5_areHours_6 (by decide) ?_
    first | refine rn_icmp_gt (pc := 8) (tgt := 42) hC dX5_areHours_8 (by decide) (by omega) (by omega) (fun c8 => ?_) (fun c8 => ?_) | refine ri_icmp_gt (pc := 8) (tgt := 42) hC dX5_areHours_8 (by decide) (fun c8 => ?_) (fun c8 => ?_)
    · -- taken
      refine r_iconst (pc := 42) (nI 0) hC dX5_areHours_42 (by decide) ?_
      refine r_zret (pc := 43) hC hR dX5_areHours_43 (by first | rfl | exact b2i_z _ | decide) ?_ (by decide) (by decide)
      exact ⟨ret_f (decide_eq_false (by omega)), rfl⟩
    · -- not
      refine r_iload_n (pc := 11) hC dX5_areHours_11 rfl ?_
      refine ri_if_lt (pc := 12) (tgt := 42) hC dX5_areHours_12 (by decide) (fun c12 => ?_) (fun c12 => ?_)
      · -- taken
        refine r_iconst (pc := 42) (nI 0) hC dX5_areHours_42 (by decide) ?_
        refine r_zret (pc := 43) hC hR dX5_areHours_43 (by first | rfl | exact b2i_z _ | decide) ?_ (by decide) (by decide)
        exact ⟨ret_f (decide_eq_false (by omega)), rfl⟩
      · -- not
        refine r_iload_n (pc := 15) hC dX5_areHours_15 rfl ?_
        refine r_sipush (pc := 16) (nI 1440) hC dX5_areHours_16 (by decide) ?_
        first | refine rn_icmp_ge (pc := 19) (tgt := 42) hC dX5_areHours_19 (by decide) (by omega) (by omega) (fun c19 => ?_) (fun c19 => ?_) | refine ri_icmp_ge (pc := 19) (tgt := 42) hC dX5_areHours_19 (by decide) (fun c19 => ?_) (fun c19 => ?_)
        · -- taken
          refine r_iconst (pc := 42) (nI 0) hC dX5_areHours_42 (by decide) ?_
          refine r_zret (pc := 43) hC hR dX5_areHours_43 (by first | rfl | exact b2i_z _ | decide) ?_ (by decide) (by decide)
          exact ⟨ret_f (decide_eq_false (by omega)), rfl⟩
        · -- not
          refine r_iload_n (pc := 22) hC dX5_areHours_22 rfl ?_
          refine ri_if_lt (pc := 23) (tgt := 42) hC dX5_areHours_23 (by decide) (fun c23 => ?_) (fun c23 => ?_)
          · -- taken
            refine r_iconst (pc := 42) (nI 0) hC dX5_areHours_42 (by decide) ?_
            refine r_zret (pc := 43) hC hR dX5_areHours_43 (by first | rfl | exact b2i_z _ | decide) ?_ (by decide) (by decide)
            exact ⟨ret_f (decide_eq_false (by omega)), rfl⟩
          · -- not
            refine r_iload_n (pc := 26) hC dX5_areHours_26 rfl ?_
            refine r_sipush (pc := 27) (nI 1440) hC dX5_areHours_27 (by decide) ?_
            first | refine rn_icmp_gt (pc := 30) (tgt := 42) hC dX5_areHours_30 (by decide) (by omega) (by omega) (fun c30 => ?_) (fun c30 => ?_) | refine ri_icmp_gt (pc := 30) (tgt := 42) hC dX5_areHours_30 (by decide) (fun c30 => ?_) (fun c30 => ?_)
            · -- taken
              refine r_iconst (pc := 42) (nI 0) hC dX5_areHours_42 (by decide) ?_
              refine r_zret (pc := 43) hC hR dX5_areHours_43 (by first | rfl | exact b2i_z _ | decide) ?_ (by decide) (by decide)
              exact ⟨ret_f (decide_eq_false (by omega)), rfl⟩
            · -- not
              refine r_iload_n (pc := 33) hC dX5_areHours_33 rfl ?_
              refine r_iload_n (pc := 34) hC dX5_areHours_34 rfl ?_
              first | refine rn_icmp_eq (pc := 35) (tgt := 42) hC dX5_areHours_35 (by decide) (by omega) (by omega) (fun c35 => ?_) (fun c35 => ?_) | refine ri_icmp_eq (pc := 35) (tgt := 42) hC dX5_areHours_35 (by decide) (fun c35 => ?_) (fun c35 => ?_)
              · -- taken
                refine r_iconst (pc := 42) (nI 0) hC dX5_areHours_42 (by decide) ?_
                refine r_zret (pc := 43) hC hR dX5_areHours_43 (by first | rfl | exact b2i_z _ | decide) ?_ (by decide) (by decide)
                exact ⟨ret_f (decide_eq_false (by omega)), rfl⟩
              · -- not
                refine r_iconst (pc := 38) (nI 1) hC dX5_areHours_38 (by decide) ?_
                refine r_goto (pc := 39) (tgt := 43) hC dX5_areHours_39 (by decide) ?_
                refine r_zret (pc := 43) hC hR dX5_areHours_43 (by first | rfl | exact b2i_z _ | decide) ?_ (by decide) (by decide)
                exact ⟨ret_t (decide_eq_true (by omega)), rfl⟩
abbrev rm_X5_across : Room := { frames := 0, cells := 0, slots := 0, locals := 0 }
set_option maxHeartbeats 4000000 in
set_option maxRecDepth 100000 in
theorem cm_across {l : Launch} {G : Ids} {S : Ps} {M : Nat → Nat} {σ : Sg} {m t : Nat} {d z : Nat} (hfl : l.stackTraces = false) (hM : RM S M σ m t) (hV : InvC σ) (hd : d < nd σ) (hz : z < nz σ) : Ct l (Cond.code yX5_across cX5_across 3 (some .int)) yX5_across rm_X5_across G [.ref m, .int (nI d), .int (nI z)] S (fun v S9 => v = some (.int (acI σ d z)) ∧ S = S9) (fun _ _ => False) := by
  refine Ct.of hfl (by decide) (Nat.le_of_ble_eq_true rfl) (fun Γ V hC hR hT hI => ?_)
  have hn := hV.n
  have hd2 := hV.vd hd
  first | refine r_aload_n (pc := 0) hC dX5_across_0 rfl ?_ | refine r_aload_nN (pc := 0) hC dX5_across_0 rfl ?_
  refine r_gf (pc := 1) (κ := 6) (j := 8) hC cls6 (by decide) kf_X5_23 hM.k6 (hM.a (j := 8) (by decide)) dX5_across_1 ?_
  refine r_iconst (pc := 4) (nI 2) hC dX5_across_4 (by decide) ?_
  refine r_iload_n (pc := 5) hC dX5_across_5 rfl ?_
  first | refine rn_imul (pc := 6) hC dX5_across_6 ?_ | refine r_imul (pc := 6) hC dX5_across_6 ?_
  refine r_iald (pc := 7) hC dX5_across_7 (hM.kd (j := 8) (by decide)) (hM.r8a (by assumption)).1 (hM.r8a (by assumption)).2.1 (hM.r8a (by assumption)).2.2 ?_
  refine r_iload_n (pc := 8) hC dX5_across_8 rfl ?_
  first | refine rn_icmp_ne (pc := 9) (tgt := 25) hC dX5_across_9 (by decide) (by omega) (by omega) (fun c9 => ?_) (fun c9 => ?_) | refine ri_icmp_ne (pc := 9) (tgt := 25) hC dX5_across_9 (by decide) (fun c9 => ?_) (fun c9 => ?_)
  · -- taken
    first | refine r_aload_n (pc := 25) hC dX5_across_25 rfl ?_ | refine r_aload_nN (pc := 25) hC dX5_across_25 rfl ?_
    refine r_gf (pc := 26) (κ := 6) (j := 8) hC cls6 (by decide) kf_X5_23 hM.k6 (hM.a (j := 8) (by decide)) dX5_across_26 ?_
    refine r_iconst (pc := 29) (nI 2) hC dX5_across_29 (by decide) ?_
    refine r_iload_n (pc := 30) hC dX5_across_30 rfl ?_
    first | refine rn_imul (pc := 31) hC dX5_across_31 ?_ | refine r_imul (pc := 31) hC dX5_across_31 ?_
    refine r_iconst (pc := 32) (nI 1) hC dX5_across_32 (by decide) ?_
    first | refine rn_iadd (pc := 33) hC dX5_across_33 ?_ | refine r_iadd (pc := 33) hC dX5_across_33 ?_
    refine r_iald (pc := 34) hC dX5_across_34 (hM.kd (j := 8) (by decide)) (hM.r8b (by assumption)).1 (hM.r8b (by assumption)).2.1 (hM.r8b (by assumption)).2.2 ?_
    refine r_iload_n (pc := 35) hC dX5_across_35 rfl ?_
    first | refine rn_icmp_ne (pc := 36) (tgt := 50) hC dX5_across_36 (by decide) (by omega) (by omega) (fun c36 => ?_) (fun c36 => ?_) | refine ri_icmp_ne (pc := 36) (tgt := 50) hC dX5_across_36 (by decide) (fun c36 => ?_) (fun c36 => ?_)
    · -- taken
      refine r_iconst (pc := 50) (-1) hC dX5_across_50 (by decide) ?_
      refine r_iret (pc := 51) hC hR dX5_across_51 ?_ (by decide) (by decide)
      exact ⟨by have e : oth σ d z = 0 := (if_neg (by omega)).trans (if_neg (by omega)); rw [acI_n e], rfl⟩
    · -- not
      first | refine r_aload_n (pc := 39) hC dX5_across_39 rfl ?_ | refine r_aload_nN (pc := 39) hC dX5_across_39 rfl ?_
      refine r_gf (pc := 40) (κ := 6) (j := 8) hC cls6 (by decide) kf_X5_23 hM.k6 (hM.a (j := 8) (by decide)) dX5_across_40 ?_
      refine r_iconst (pc := 43) (nI 2) hC dX5_across_43 (by decide) ?_
      refine r_iload_n (pc := 44) hC dX5_across_44 rfl ?_
      first | refine rn_imul (pc := 45) hC dX5_across_45 ?_ | refine r_imul (pc := 45) hC dX5_across_45 ?_
      refine r_iald (pc := 46) hC dX5_across_46 (hM.kd (j := 8) (by decide)) (hM.r8a (by assumption)).1 (hM.r8a (by assumption)).2.1 (hM.r8a (by assumption)).2.2 ?_
      refine r_goto (pc := 47) (tgt := 51) hC dX5_across_47 (by decide) ?_
      refine r_iret (pc := 51) hC hR dX5_across_51 ?_ (by decide) (by decide)
      exact ⟨by have e : oth σ d z = sda σ d + 1 := (if_neg (by omega)).trans (if_pos (by omega)); rw [acI_s (by omega), e]; rfl, rfl⟩
  · -- not
    first | refine r_aload_n (pc := 12) hC dX5_across_12 rfl ?_ | refine r_aload_nN (pc := 12) hC dX5_across_12 rfl ?_
    refine r_gf (pc := 13) (κ := 6) (j := 8) hC cls6 (by decide) kf_X5_23 hM.k6 (hM.a (j := 8) (by decide)) dX5_across_13 ?_
    refine r_iconst (pc := 16) (nI 2) hC dX5_across_16 (by decide) ?_
    refine r_iload_n (pc := 17) hC dX5_across_17 rfl ?_
    first | refine rn_imul (pc := 18) hC dX5_across_18 ?_ | refine r_imul (pc := 18) hC dX5_across_18 ?_
    refine r_iconst (pc := 19) (nI 1) hC dX5_across_19 (by decide) ?_
    first | refine rn_iadd (pc := 20) hC dX5_across_20 ?_ | refine r_iadd (pc := 20) hC dX5_across_20 ?_
    refine r_iald (pc := 21) hC dX5_across_21 (hM.kd (j := 8) (by decide)) (hM.r8b (by assumption)).1 (hM.r8b (by assumption)).2.1 (hM.r8b (by assumption)).2.2 ?_
    refine r_goto (pc := 22) (tgt := 51) hC dX5_across_22 (by decide) ?_
    refine r_iret (pc := 51) hC hR dX5_across_51 ?_ (by decide) (by decide)
    exact ⟨by have e : oth σ d z = sdb σ d + 1 := if_pos (by omega); rw [acI_s (by omega), e]; rfl, rfl⟩
abbrev rm_X5_isOpenNow : Room := { frames := 0, cells := 0, slots := 0, locals := 0 }
set_option maxHeartbeats 4000000 in
set_option maxRecDepth 100000 in
theorem cm_open {l : Launch} {G : Ids} {S : Ps} {M : Nat → Nat} {σ : Sg} {m t : Nat} {z : Nat} (hfl : l.stackTraces = false) (hM : RM S M σ m t) (hV : InvC σ) (hz : z < nz σ) : Ct l (Cond.code yX5_isOpenNow cX5_isOpenNow 3 (some .boolean)) yX5_isOpenNow rm_X5_isOpenNow G [.ref m, .int (nI z)] S (fun v S9 => v = some (.int (b2i (opn σ z))) ∧ S = S9) (fun _ _ => False) := by
  refine Ct.of hfl (by decide) (Nat.le_of_ble_eq_true rfl) (fun Γ V hC hR hT hI => ?_)
  have hn := hV.n
  have hz2 := hV.vz hz
  by_cases hh : z = 0
  · skip
    first | refine r_aload_n (pc := 0) hC dX5_isOpenNow_0 rfl ?_ | refine r_aload_nN (pc := 0) hC dX5_isOpenNow_0 rfl ?_
    refine r_gf (pc := 1) (κ := 6) (j := 1) hC cls6 (by decide) kf_X5_91 hM.k6 hM.s1 dX5_isOpenNow_1 ?_
    refine r_sipush (pc := 4) (nI 1440) hC dX5_isOpenNow_4 (by decide) ?_
    refine rn_irem (pc := 7) hC dX5_isOpenNow_7 (by omega) (by decide) (by decide) ?_
    refine r_istore_n (pc := 8) hC dX5_isOpenNow_8 (by decide) ?_
    refine r_iload_n (pc := 9) hC dX5_isOpenNow_9 rfl ?_
    refine rn_if_ne (pc := 10) (tgt := 15) hC dX5_isOpenNow_10 (by decide) (by omega) (fun c10 => absurd hh c10) (fun _ => ?_)
    refine r_iconst (pc := 13) (nI 1) hC dX5_isOpenNow_13 (by decide) ?_
    refine r_zret (pc := 14) hC hR dX5_isOpenNow_14 (by first | rfl | exact b2i_z _ | decide) ?_ (by decide) (by decide)
    exact ⟨ret_t (hh ▸ opn_0 hV), rfl⟩
  · skip
    have h1 : 1 ≤ z := by omega
    first | refine r_aload_n (pc := 0) hC dX5_isOpenNow_0 rfl ?_ | refine r_aload_nN (pc := 0) hC dX5_isOpenNow_0 rfl ?_
    refine r_gf (pc := 1) (κ := 6) (j := 1) hC cls6 (by decide) kf_X5_91 hM.k6 hM.s1 dX5_isOpenNow_1 ?_
    refine r_sipush (pc := 4) (nI 1440) hC dX5_isOpenNow_4 (by decide) ?_
    refine rn_irem (pc := 7) hC dX5_isOpenNow_7 (by omega) (by decide) (by decide) ?_
    refine r_istore_n (pc := 8) hC dX5_isOpenNow_8 (by decide) ?_
    refine r_iload_n (pc := 9) hC dX5_isOpenNow_9 rfl ?_
    refine rn_if_ne (pc := 10) (tgt := 15) hC dX5_isOpenNow_10 (by decide) (by omega) (fun _ => ?_) (fun c10 => absurd c10 hh)
    first | refine r_aload_n (pc := 15) hC dX5_isOpenNow_15 rfl ?_ | refine r_aload_nN (pc := 15) hC dX5_isOpenNow_15 rfl ?_
    refine r_gf (pc := 16) (κ := 6) (j := 5) hC cls6 (by decide) kf_X5_17 hM.k6 (hM.a (j := 5) (by decide)) dX5_isOpenNow_16 ?_
    refine r_iload_n (pc := 19) hC dX5_isOpenNow_19 rfl ?_
    refine r_iald (pc := 20) hC dX5_isOpenNow_20 (hM.kd (j := 5) (by decide)) (hM.r5 (by assumption) (by assumption)).1 (hM.r5 (by assumption) (by assumption)).2.1 (hM.r5 (by assumption) (by assumption)).2.2 ?_
    first | refine r_aload_n (pc := 21) hC dX5_isOpenNow_21 rfl ?_ | refine r_aload_nN (pc := 21) hC dX5_isOpenNow_21 rfl ?_
    refine r_gf (pc := 22) (κ := 6) (j := 6) hC cls6 (by decide) kf_X5_20 hM.k6 (hM.a (j := 6) (by decide)) dX5_isOpenNow_22 ?_
    refine r_iload_n (pc := 25) hC dX5_isOpenNow_25 rfl ?_
    refine r_iald (pc := 26) hC dX5_isOpenNow_26 (hM.kd (j := 6) (by decide)) (hM.r6 (by assumption) (by assumption)).1 (hM.r6 (by assumption) (by assumption)).2.1 (hM.r6 (by assumption) (by assumption)).2.2 ?_
    first | refine rn_icmp_ge (pc := 27) (tgt := 58) hC dX5_isOpenNow_27 (by decide) (by omega) (by omega) (fun c27 => ?_) (fun c27 => ?_) | refine ri_icmp_ge (pc := 27) (tgt := 58) hC dX5_isOpenNow_27 (by decide) (fun c27 => ?_) (fun c27 => ?_)
    · -- taken
      refine r_iload_n (pc := 58) hC dX5_isOpenNow_58 rfl ?_
      first | refine r_aload_n (pc := 59) hC dX5_isOpenNow_59 rfl ?_ | refine r_aload_nN (pc := 59) hC dX5_isOpenNow_59 rfl ?_
      refine r_gf (pc := 60) (κ := 6) (j := 5) hC cls6 (by decide) kf_X5_17 hM.k6 (hM.a (j := 5) (by decide)) dX5_isOpenNow_60 ?_
      refine r_iload_n (pc := 63) hC dX5_isOpenNow_63 rfl ?_
      refine r_iald (pc := 64) hC dX5_isOpenNow_64 (hM.kd (j := 5) (by decide)) (hM.r5 (by assumption) (by assumption)).1 (hM.r5 (by assumption) (by assumption)).2.1 (hM.r5 (by assumption) (by assumption)).2.2 ?_
      first | refine rn_icmp_ge (pc := 65) (tgt := 78) hC dX5_isOpenNow_65 (by decide) (by omega) (by omega) (fun c65 => ?_) (fun c65 => ?_) | refine ri_icmp_ge (pc := 65) (tgt := 78) hC dX5_isOpenNow_65 (by decide) (fun c65 => ?_) (fun c65 => ?_)
      · -- taken
        refine r_iconst (pc := 78) (nI 1) hC dX5_isOpenNow_78 (by decide) ?_
        refine r_goto (pc := 79) (tgt := 83) hC dX5_isOpenNow_79 (by decide) ?_
        refine r_zret (pc := 83) hC hR dX5_isOpenNow_83 (by first | rfl | exact b2i_z _ | decide) ?_ (by decide) (by decide)
        exact ⟨ret_t (opn_iff.mpr (by omega)), rfl⟩
      · -- not
        refine r_iload_n (pc := 68) hC dX5_isOpenNow_68 rfl ?_
        first | refine r_aload_n (pc := 69) hC dX5_isOpenNow_69 rfl ?_ | refine r_aload_nN (pc := 69) hC dX5_isOpenNow_69 rfl ?_
        refine r_gf (pc := 70) (κ := 6) (j := 6) hC cls6 (by decide) kf_X5_20 hM.k6 (hM.a (j := 6) (by decide)) dX5_isOpenNow_70 ?_
        refine r_iload_n (pc := 73) hC dX5_isOpenNow_73 rfl ?_
        refine r_iald (pc := 74) hC dX5_isOpenNow_74 (hM.kd (j := 6) (by decide)) (hM.r6 (by assumption) (by assumption)).1 (hM.r6 (by assumption) (by assumption)).2.1 (hM.r6 (by assumption) (by assumption)).2.2 ?_
        first | refine rn_icmp_ge (pc := 75) (tgt := 82) hC dX5_isOpenNow_75 (by decide) (by omega) (by omega) (fun c75 => ?_) (fun c75 => ?_) | refine ri_icmp_ge (pc := 75) (tgt := 82) hC dX5_isOpenNow_75 (by decide) (fun c75 => ?_) (fun c75 => ?_)
        · -- taken
          refine r_iconst (pc := 82) (nI 0) hC dX5_isOpenNow_82 (by decide) ?_
          refine r_zret (pc := 83) hC hR dX5_isOpenNow_83 (by first | rfl | exact b2i_z _ | decide) ?_ (by decide) (by decide)
          exact ⟨ret_f (opn_no.mpr (by omega)), rfl⟩
        · -- not
          refine r_iconst (pc := 78) (nI 1) hC dX5_isOpenNow_78 (by decide) ?_
          refine r_goto (pc := 79) (tgt := 83) hC dX5_isOpenNow_79 (by decide) ?_
          refine r_zret (pc := 83) hC hR dX5_isOpenNow_83 (by first | rfl | exact b2i_z _ | decide) ?_ (by decide) (by decide)
          exact ⟨ret_t (opn_iff.mpr (by omega)), rfl⟩
    · -- not
      refine r_iload_n (pc := 30) hC dX5_isOpenNow_30 rfl ?_
      first | refine r_aload_n (pc := 31) hC dX5_isOpenNow_31 rfl ?_ | refine r_aload_nN (pc := 31) hC dX5_isOpenNow_31 rfl ?_
      refine r_gf (pc := 32) (κ := 6) (j := 5) hC cls6 (by decide) kf_X5_17 hM.k6 (hM.a (j := 5) (by decide)) dX5_isOpenNow_32 ?_
      refine r_iload_n (pc := 35) hC dX5_isOpenNow_35 rfl ?_
      refine r_iald (pc := 36) hC dX5_isOpenNow_36 (hM.kd (j := 5) (by decide)) (hM.r5 (by assumption) (by assumption)).1 (hM.r5 (by assumption) (by assumption)).2.1 (hM.r5 (by assumption) (by assumption)).2.2 ?_
      first | refine rn_icmp_lt (pc := 37) (tgt := 54) hC dX5_isOpenNow_37 (by decide) (by omega) (by omega) (fun c37 => ?_) (fun c37 => ?_) | refine ri_icmp_lt (pc := 37) (tgt := 54) hC dX5_isOpenNow_37 (by decide) (fun c37 => ?_) (fun c37 => ?_)
      · -- taken
        refine r_iconst (pc := 54) (nI 0) hC dX5_isOpenNow_54 (by decide) ?_
        refine r_goto (pc := 55) (tgt := 83) hC dX5_isOpenNow_55 (by decide) ?_
        refine r_zret (pc := 83) hC hR dX5_isOpenNow_83 (by first | rfl | exact b2i_z _ | decide) ?_ (by decide) (by decide)
        exact ⟨ret_f (opn_no.mpr (by omega)), rfl⟩
      · -- not
        refine r_iload_n (pc := 40) hC dX5_isOpenNow_40 rfl ?_
        first | refine r_aload_n (pc := 41) hC dX5_isOpenNow_41 rfl ?_ | refine r_aload_nN (pc := 41) hC dX5_isOpenNow_41 rfl ?_
        refine r_gf (pc := 42) (κ := 6) (j := 6) hC cls6 (by decide) kf_X5_20 hM.k6 (hM.a (j := 6) (by decide)) dX5_isOpenNow_42 ?_
        refine r_iload_n (pc := 45) hC dX5_isOpenNow_45 rfl ?_
        refine r_iald (pc := 46) hC dX5_isOpenNow_46 (hM.kd (j := 6) (by decide)) (hM.r6 (by assumption) (by assumption)).1 (hM.r6 (by assumption) (by assumption)).2.1 (hM.r6 (by assumption) (by assumption)).2.2 ?_
        first | refine rn_icmp_ge (pc := 47) (tgt := 54) hC dX5_isOpenNow_47 (by decide) (by omega) (by omega) (fun c47 => ?_) (fun c47 => ?_) | refine ri_icmp_ge (pc := 47) (tgt := 54) hC dX5_isOpenNow_47 (by decide) (fun c47 => ?_) (fun c47 => ?_)
        · -- taken
          refine r_iconst (pc := 54) (nI 0) hC dX5_isOpenNow_54 (by decide) ?_
          refine r_goto (pc := 55) (tgt := 83) hC dX5_isOpenNow_55 (by decide) ?_
          refine r_zret (pc := 83) hC hR dX5_isOpenNow_83 (by first | rfl | exact b2i_z _ | decide) ?_ (by decide) (by decide)
          exact ⟨ret_f (opn_no.mpr (by omega)), rfl⟩
        · -- not
          refine r_iconst (pc := 50) (nI 1) hC dX5_isOpenNow_50 (by decide) ?_
          refine r_goto (pc := 51) (tgt := 83) hC dX5_isOpenNow_51 (by decide) ?_
          refine r_zret (pc := 83) hC hR dX5_isOpenNow_83 (by first | rfl | exact b2i_z _ | decide) ?_ (by decide) (by decide)
          exact ⟨ret_t (opn_iff.mpr (by omega)), rfl⟩
abbrev rm_X5_left : Room := { frames := 1, cells := 0, slots := 0, locals := 21 }
set_option maxHeartbeats 4000000 in
set_option maxRecDepth 100000 in
theorem cm_left {l : Launch} {G : Ids} {S : Ps} {M : Nat → Nat} {σ : Sg} {m t : Nat} {d : Nat} (hfl : l.stackTraces = false) (hM : RM S M σ m t) (hV : InvC σ) (hd : d < nd σ) : Ct l (Cond.code yX5_left cX5_left 2 (some .int)) yX5_left rm_X5_left G [.ref m, .int (nI d)] S (fun v S9 => v = some (.int (nI (lft σ d))) ∧ S = S9) (fun _ _ => False) := by
  refine Ct.of hfl (by decide) (Nat.le_of_ble_eq_true rfl) (fun Γ V hC hR hT hI => ?_)
  have hn := hV.n
  have hd2 := hV.vd hd
  refine r_iconst (pc := 0) (nI 0) hC dX5_left_0 (by decide) ?_
  first | refine r_aload_n (pc := 1) hC dX5_left_1 rfl ?_ | refine r_aload_nN (pc := 1) hC dX5_left_1 rfl ?_
  refine r_gf (pc := 2) (κ := 6) (j := 11) hC cls6 (by decide) kf_X5_32 hM.k6 (hM.a (j := 11) (by decide)) dX5_left_2 ?_
  refine r_iload_n (pc := 5) hC dX5_left_5 rfl ?_
  refine r_iald (pc := 6) hC dX5_left_6 (hM.kd (j := 11) (by decide)) (hM.r11 (by assumption)).1 (hM.r11 (by assumption)).2.1 (hM.r11 (by assumption)).2.2 ?_
  first | refine r_aload_n (pc := 7) hC dX5_left_7 rfl ?_ | refine r_aload_nN (pc := 7) hC dX5_left_7 rfl ?_
  refine r_gf (pc := 8) (κ := 6) (j := 1) hC cls6 (by decide) kf_X5_91 hM.k6 hM.s1 dX5_left_8 ?_
  refine r_isub (pc := 11) hC dX5_left_11 ?_
  refine r_mmax (pc := 12) hC ks_X5_97.1 (Nat.le_of_ble_eq_true rfl) (by decide) (by decide) (by decide) dX5_left_12 ?_
  rw [max_lft (by omega) (by omega)]
  refine r_iret (pc := 15) hC hR dX5_left_15 ?_ (by decide) (by decide)
  exact ⟨rfl, rfl⟩
abbrev rm_X5_rightsOf : Room := { frames := 0, cells := 0, slots := 0, locals := 0 }
set_option maxHeartbeats 4000000 in
set_option maxRecDepth 100000 in
theorem cm_rights {l : Launch} {G : Ids} {S : Ps} {M : Nat → Nat} {σ : Sg} {m t : Nat} {b : Nat} (hfl : l.stackTraces = false) (hM : RM S M σ m t) (hV : InvC σ) (hb : b < nb σ) : Ct l (Cond.code yX5_rightsOf cX5_rightsOf 2 (some .int)) yX5_rightsOf rm_X5_rightsOf G [.ref m, .int (nI b)] S (fun v S9 => v = some (.int (nI (rgs σ b))) ∧ S = S9) (fun _ _ => False) := by
  refine Ct.of hfl (by decide) (Nat.le_of_ble_eq_true rfl) (fun Γ V hC hR hT hI => ?_)
  have hn := hV.n
  by_cases hh : hst σ b = 0
  · skip
    first | refine r_aload_n (pc := 0) hC dX5_rightsOf_0 rfl ?_ | refine r_aload_nN (pc := 0) hC dX5_rightsOf_0 rfl ?_
    refine r_gf (pc := 1) (κ := 6) (j := 15) hC cls6 (by decide) kf_X5_41 hM.k6 (hM.a (j := 15) (by decide)) dX5_rightsOf_1 ?_
    refine r_iload_n (pc := 4) hC dX5_rightsOf_4 rfl ?_
    refine r_iald (pc := 5) hC dX5_rightsOf_5 (hM.kd (j := 15) (by decide)) (hM.r15n (by assumption) hh).1 (hM.r15n (by assumption) hh).2.1 (hM.r15n (by assumption) hh).2.2 ?_
    refine r_iconst (pc := 6) (-1) hC dX5_rightsOf_6 (by decide) ?_
    refine r_m1_neN (pc := 7) (tgt := 19) hC dX5_rightsOf_7 (by decide) ?_
    first | refine r_aload_n (pc := 10) hC dX5_rightsOf_10 rfl ?_ | refine r_aload_nN (pc := 10) hC dX5_rightsOf_10 rfl ?_
    refine r_gf (pc := 11) (κ := 6) (j := 14) hC cls6 (by decide) kf_X5_38 hM.k6 (hM.a (j := 14) (by decide)) dX5_rightsOf_11 ?_
    refine r_iload_n (pc := 14) hC dX5_rightsOf_14 rfl ?_
    refine r_iald (pc := 15) hC dX5_rightsOf_15 (hM.kd (j := 14) (by decide)) (hM.r14 (by assumption)).1 (hM.r14 (by assumption)).2.1 (hM.r14 (by assumption)).2.2 ?_
    refine r_goto (pc := 16) (tgt := 30) hC dX5_rightsOf_16 (by decide) ?_
    refine r_iret (pc := 30) hC hR dX5_rightsOf_30 ?_ (by decide) (by decide)
    exact ⟨by unfold rgs; rw [if_pos hh], rfl⟩
  · skip
    have hb2 := hV.h hb hh
    first | refine r_aload_n (pc := 0) hC dX5_rightsOf_0 rfl ?_ | refine r_aload_nN (pc := 0) hC dX5_rightsOf_0 rfl ?_
    refine r_gf (pc := 1) (κ := 6) (j := 15) hC cls6 (by decide) kf_X5_41 hM.k6 (hM.a (j := 15) (by decide)) dX5_rightsOf_1 ?_
    refine r_iload_n (pc := 4) hC dX5_rightsOf_4 rfl ?_
    refine r_iald (pc := 5) hC dX5_rightsOf_5 (hM.kd (j := 15) (by decide)) (hM.r15s (by assumption) hh).1 (hM.r15s (by assumption) hh).2.1 (hM.r15s (by assumption) hh).2.2 ?_
    refine r_iconst (pc := 6) (-1) hC dX5_rightsOf_6 (by decide) ?_
    refine r_m1_neS (pc := 7) (tgt := 19) hC dX5_rightsOf_7 (by decide) (by omega) ?_
    first | refine r_aload_n (pc := 19) hC dX5_rightsOf_19 rfl ?_ | refine r_aload_nN (pc := 19) hC dX5_rightsOf_19 rfl ?_
    refine r_gf (pc := 20) (κ := 6) (j := 14) hC cls6 (by decide) kf_X5_38 hM.k6 (hM.a (j := 14) (by decide)) dX5_rightsOf_20 ?_
    first | refine r_aload_n (pc := 23) hC dX5_rightsOf_23 rfl ?_ | refine r_aload_nN (pc := 23) hC dX5_rightsOf_23 rfl ?_
    refine r_gf (pc := 24) (κ := 6) (j := 15) hC cls6 (by decide) kf_X5_41 hM.k6 (hM.a (j := 15) (by decide)) dX5_rightsOf_24 ?_
    refine r_iload_n (pc := 27) hC dX5_rightsOf_27 rfl ?_
    refine r_iald (pc := 28) hC dX5_rightsOf_28 (hM.kd (j := 15) (by decide)) (hM.r15s (by assumption) hh).1 (hM.r15s (by assumption) hh).2.1 (hM.r15s (by assumption) hh).2.2 ?_
    refine r_iald (pc := 29) hC dX5_rightsOf_29 (hM.kd (j := 14) (by decide)) (hM.r14 hb2).1 (hM.r14 hb2).2.1 (hM.r14 hb2).2.2 ?_
    refine r_iret (pc := 30) hC hR dX5_rightsOf_30 ?_ (by decide) (by decide)
    exact ⟨by unfold rgs; rw [if_neg hh], rfl⟩
abbrev rm_X5_told : Room := { frames := 1, cells := 0, slots := 0, locals := 21 }
set_option maxHeartbeats 4000000 in
set_option maxRecDepth 100000 in
theorem cm_told {l : Launch} {G : Ids} {S : Ps} {M : Nat → Nat} {σ : Sg} {m t : Nat} {b w : Nat} (hfl : l.stackTraces = false) (hM : RM S M σ m t) (hV : InvC σ) (hb : b < nb σ) (hw : w < 5) : Ct l (Cond.code yX5_told cX5_told 3 (some .int)) yX5_told rm_X5_told G [.ref m, .int (nI b), .int (nI w)] S (fun v S9 => v = some (.int (tel σ b w)) ∧ S = S9) (fun _ _ => False) := by
  refine Ct.of hfl (by decide) (Nat.le_of_ble_eq_true rfl) (fun Γ V hC hR hT hI => ?_)
  have hn := hV.n
  have hk1 := (hV.vb hb).2.2.2.2
  rcases (show w = 0 ∨ w = 1 ∨ w = 2 ∨ w = 3 ∨ w = 4 by omega) with rfl | rfl | rfl | rfl | rfl
  · skip
    refine r_iload_n (pc := 0) hC dX5_told_0 rfl ?_
    refine rn_if_ne (pc := 1) (tgt := 13) hC dX5_told_1 (by decide) (by omega) (fun c => absurd rfl c) (fun _ => ?_)
    first | refine r_aload_n (pc := 4) hC dX5_told_4 rfl ?_ | refine r_aload_nN (pc := 4) hC dX5_told_4 rfl ?_
    refine r_gf (pc := 5) (κ := 6) (j := 13) hC cls6 (by decide) kf_X5_35 hM.k6 (hM.a (j := 13) (by decide)) dX5_told_5 ?_
    refine r_iload_n (pc := 8) hC dX5_told_8 rfl ?_
    refine r_iald (pc := 9) hC dX5_told_9 (hM.kd (j := 13) (by decide)) (hM.r13 (by assumption)).1 (hM.r13 (by assumption)).2.1 (hM.r13 (by assumption)).2.2 ?_
    refine r_goto (pc := 10) (tgt := 68) hC dX5_told_10 (by decide) ?_
    refine r_iret (pc := 68) hC hR dX5_told_68 ?_ (by decide) (by decide)
    exact ⟨rfl, rfl⟩
  · skip
    refine r_iload_n (pc := 0) hC dX5_told_0 rfl ?_
    refine rn_if_ne (pc := 1) (tgt := 13) hC dX5_told_1 (by decide) (by omega) (fun _ => ?_) (fun c => absurd c (by omega))
    refine r_iload_n (pc := 13) hC dX5_told_13 rfl ?_
    refine r_iconst (pc := 14) (nI 1) hC dX5_told_14 (by decide) ?_
    refine rn_icmp_ne (pc := 15) (tgt := 26) hC dX5_told_15 (by decide) (by omega) (by omega) (fun c => absurd rfl c) (fun _ => ?_)
    first | refine r_aload_n (pc := 18) hC dX5_told_18 rfl ?_ | refine r_aload_nN (pc := 18) hC dX5_told_18 rfl ?_
    refine r_iload_n (pc := 19) hC dX5_told_19 rfl ?_
    refine r_callV (pc := 20) hC (cm_rights hC.fl hM hV hb) kv_X5_115 cls6 hM.k6 rfl rfl (Nat.le_of_ble_eq_true rfl) ⟨by decide, by decide, by decide, by decide⟩ dX5_told_20 (fun _ _ h => h.elim) (fun v20 S20 h20 => ?_)
    obtain ⟨rfl, rfl⟩ := h20
    refine r_goto (pc := 23) (tgt := 68) hC dX5_told_23 (by decide) ?_
    refine r_iret (pc := 68) hC hR dX5_told_68 ?_ (by decide) (by decide)
    exact ⟨rfl, rfl⟩
  · skip
    refine r_iload_n (pc := 0) hC dX5_told_0 rfl ?_
    refine rn_if_ne (pc := 1) (tgt := 13) hC dX5_told_1 (by decide) (by omega) (fun _ => ?_) (fun c => absurd c (by omega))
    refine r_iload_n (pc := 13) hC dX5_told_13 rfl ?_
    refine r_iconst (pc := 14) (nI 1) hC dX5_told_14 (by decide) ?_
    refine rn_icmp_ne (pc := 15) (tgt := 26) hC dX5_told_15 (by decide) (by omega) (by omega) (fun _ => ?_) (fun c => absurd c (by omega))
    refine r_iload_n (pc := 26) hC dX5_told_26 rfl ?_
    refine r_iconst (pc := 27) (nI 2) hC dX5_told_27 (by decide) ?_
    refine rn_icmp_ne (pc := 28) (tgt := 40) hC dX5_told_28 (by decide) (by omega) (by omega) (fun c => absurd rfl c) (fun _ => ?_)
    first | refine r_aload_n (pc := 31) hC dX5_told_31 rfl ?_ | refine r_aload_nN (pc := 31) hC dX5_told_31 rfl ?_
    refine r_gf (pc := 32) (κ := 6) (j := 15) hC cls6 (by decide) kf_X5_41 hM.k6 (hM.a (j := 15) (by decide)) dX5_told_32 ?_
    refine r_iload_n (pc := 35) hC dX5_told_35 rfl ?_
    refine r_iald (pc := 36) hC dX5_told_36 (hM.kd (j := 15) (by decide)) (hM.r15 hb).1 (hM.r15 hb).2.1 (hM.r15 hb).2.2 ?_
    refine r_goto (pc := 37) (tgt := 68) hC dX5_told_37 (by decide) ?_
    refine r_iret (pc := 68) hC hR dX5_told_68 ?_ (by decide) (by decide)
    exact ⟨rfl, rfl⟩
  · skip
    refine r_iload_n (pc := 0) hC dX5_told_0 rfl ?_
    refine rn_if_ne (pc := 1) (tgt := 13) hC dX5_told_1 (by decide) (by omega) (fun _ => ?_) (fun c => absurd c (by omega))
    refine r_iload_n (pc := 13) hC dX5_told_13 rfl ?_
    refine r_iconst (pc := 14) (nI 1) hC dX5_told_14 (by decide) ?_
    refine rn_icmp_ne (pc := 15) (tgt := 26) hC dX5_told_15 (by decide) (by omega) (by omega) (fun _ => ?_) (fun c => absurd c (by omega))
    refine r_iload_n (pc := 26) hC dX5_told_26 rfl ?_
    refine r_iconst (pc := 27) (nI 2) hC dX5_told_27 (by decide) ?_
    refine rn_icmp_ne (pc := 28) (tgt := 40) hC dX5_told_28 (by decide) (by omega) (by omega) (fun _ => ?_) (fun c => absurd c (by omega))
    refine r_iload_n (pc := 40) hC dX5_told_40 rfl ?_
    refine r_iconst (pc := 41) (nI 3) hC dX5_told_41 (by decide) ?_
    refine rn_icmp_ne (pc := 42) (tgt := 62) hC dX5_told_42 (by decide) (by omega) (by omega) (fun c => absurd rfl c) (fun _ => ?_)
    first | refine r_aload_n (pc := 45) hC dX5_told_45 rfl ?_ | refine r_aload_nN (pc := 45) hC dX5_told_45 rfl ?_
    refine r_gf (pc := 46) (κ := 6) (j := 16) hC cls6 (by decide) kf_X5_44 hM.k6 (hM.a (j := 16) (by decide)) dX5_told_46 ?_
    refine r_iload_n (pc := 49) hC dX5_told_49 rfl ?_
    refine r_zald (pc := 50) hC dX5_told_50 (hM.kd (j := 16) (by decide)) (hM.r16 (by assumption)).1 (hM.r16 (by assumption)).2.1 (hM.r16 (by assumption)).2.2 ?_
    first | refine rb_if_eq (pc := 51) (tgt := 58) hC dX5_told_51 (by decide) (fun c51 => ?_) (fun c51 => ?_) | refine rn_if_eq (pc := 51) (tgt := 58) hC dX5_told_51 (by decide) (by omega) (fun c51 => ?_) (fun c51 => ?_) | refine ri_if_eq (pc := 51) (tgt := 58) hC dX5_told_51 (by decide) (fun c51 => ?_) (fun c51 => ?_)
    · -- taken
      refine r_iconst (pc := 58) (nI 0) hC dX5_told_58 (by decide) ?_
      refine r_goto (pc := 59) (tgt := 68) hC dX5_told_59 (by decide) ?_
      refine r_iret (pc := 68) hC hR dX5_told_68 ?_ (by decide) (by decide)
      exact ⟨by show _ = some (Value.int (nI (blk σ b))); rw [c51], rfl⟩
    · -- not
      refine r_iconst (pc := 54) (nI 1) hC dX5_told_54 (by decide) ?_
      refine r_goto (pc := 55) (tgt := 68) hC dX5_told_55 (by decide) ?_
      refine r_iret (pc := 68) hC hR dX5_told_68 ?_ (by decide) (by decide)
      exact ⟨by show _ = some (Value.int (nI (blk σ b))); rw [show blk σ b = 1 by omega], rfl⟩
  · skip
    refine r_iload_n (pc := 0) hC dX5_told_0 rfl ?_
    refine rn_if_ne (pc := 1) (tgt := 13) hC dX5_told_1 (by decide) (by omega) (fun _ => ?_) (fun c => absurd c (by omega))
    refine r_iload_n (pc := 13) hC dX5_told_13 rfl ?_
    refine r_iconst (pc := 14) (nI 1) hC dX5_told_14 (by decide) ?_
    refine rn_icmp_ne (pc := 15) (tgt := 26) hC dX5_told_15 (by decide) (by omega) (by omega) (fun _ => ?_) (fun c => absurd c (by omega))
    refine r_iload_n (pc := 26) hC dX5_told_26 rfl ?_
    refine r_iconst (pc := 27) (nI 2) hC dX5_told_27 (by decide) ?_
    refine rn_icmp_ne (pc := 28) (tgt := 40) hC dX5_told_28 (by decide) (by omega) (by omega) (fun _ => ?_) (fun c => absurd c (by omega))
    refine r_iload_n (pc := 40) hC dX5_told_40 rfl ?_
    refine r_iconst (pc := 41) (nI 3) hC dX5_told_41 (by decide) ?_
    refine rn_icmp_ne (pc := 42) (tgt := 62) hC dX5_told_42 (by decide) (by omega) (by omega) (fun _ => ?_) (fun c => absurd c (by omega))
    first | refine r_aload_n (pc := 62) hC dX5_told_62 rfl ?_ | refine r_aload_nN (pc := 62) hC dX5_told_62 rfl ?_
    refine r_gf (pc := 63) (κ := 6) (j := 17) hC cls6 (by decide) kf_X5_48 hM.k6 (hM.a (j := 17) (by decide)) dX5_told_63 ?_
    refine r_iload_n (pc := 66) hC dX5_told_66 rfl ?_
    refine r_iald (pc := 67) hC dX5_told_67 (hM.kd (j := 17) (by decide)) (hM.r17 (by assumption)).1 (hM.r17 (by assumption)).2.1 (hM.r17 (by assumption)).2.2 ?_
    refine r_iret (pc := 68) hC hR dX5_told_68 ?_ (by decide) (by decide)
    exact ⟨rfl, rfl⟩
abbrev rm_X5_insideOf : Room := { frames := 0, cells := 0, slots := 0, locals := 0 }
set_option maxHeartbeats 4000000 in
set_option maxRecDepth 100000 in
theorem cm_inside {l : Launch} {G : Ids} {S : Ps} {M : Nat → Nat} {σ : Sg} {m t : Nat} {z : Nat} (hfl : l.stackTraces = false) (hM : RM S M σ m t) (hV : InvC σ) (hz : z < nz σ) : Ct l (Cond.code yX5_insideOf cX5_insideOf 4 (some .int)) yX5_insideOf rm_X5_insideOf G [.ref m, .int (nI z)] S (fun v S9 => v = some (.int (nI (insB σ z))) ∧ S = S9) (fun _ _ => False) := by
  refine Ct.of hfl (by decide) (Nat.le_of_ble_eq_true rfl) (fun Γ V hC hR hT hI => ?_)
  have hn := hV.n
  have hlp : ∀ n9 i, i + n9 = nb σ → At Γ G V 0 0 S [(0, .ref m), (1, .int (nI z)), (2, .int (nI (bset (fun b => decide (plc σ b = z)) (i)))), (3, .int (nI (i)))] 4 [] := by
    intro n9
    induction n9 with
    | zero =>
      intro i hi
      refine r_iload_n (pc := 4) hC dX5_insideOf_4 rfl ?_
      first | refine r_aload_n (pc := 5) hC dX5_insideOf_5 rfl ?_ | refine r_aload_nN (pc := 5) hC dX5_insideOf_5 rfl ?_
      refine r_gf (pc := 6) (κ := 6) (j := 12) hC cls6 (by decide) kf_X5_60 hM.k6 hM.s12 dX5_insideOf_6 ?_
      first | refine rn_icmp_ge (pc := 9) (tgt := 34) hC dX5_insideOf_9 (by decide) (by omega) (by omega) (fun c9 => ?_) (fun c9 => ?_) | refine ri_icmp_ge (pc := 9) (tgt := 34) hC dX5_insideOf_9 (by decide) (fun c9 => ?_) (fun c9 => ?_)
      · -- taken
        refine r_iload_n (pc := 34) hC dX5_insideOf_34 rfl ?_
        refine r_iret (pc := 35) hC hR dX5_insideOf_35 ?_ (by decide) (by decide)
        have e : i = nb σ := by omega
        subst e
        exact ⟨rfl, rfl⟩
      · -- not
        exfalso; omega
    | succ n9 ih =>
      intro i hi
      have hi2 : i < nb σ := by omega
      refine r_iload_n (pc := 4) hC dX5_insideOf_4 rfl ?_
      first | refine r_aload_n (pc := 5) hC dX5_insideOf_5 rfl ?_ | refine r_aload_nN (pc := 5) hC dX5_insideOf_5 rfl ?_
      refine r_gf (pc := 6) (κ := 6) (j := 12) hC cls6 (by decide) kf_X5_60 hM.k6 hM.s12 dX5_insideOf_6 ?_
      first | refine rn_icmp_ge (pc := 9) (tgt := 34) hC dX5_insideOf_9 (by decide) (by omega) (by omega) (fun c9 => ?_) (fun c9 => ?_) | refine ri_icmp_ge (pc := 9) (tgt := 34) hC dX5_insideOf_9 (by decide) (fun c9 => ?_) (fun c9 => ?_)
      · -- taken
        exfalso; omega
      · -- not
        have hp := (hV.vb hi2).1
        first | refine r_aload_n (pc := 12) hC dX5_insideOf_12 rfl ?_ | refine r_aload_nN (pc := 12) hC dX5_insideOf_12 rfl ?_
        refine r_gf (pc := 13) (κ := 6) (j := 13) hC cls6 (by decide) kf_X5_35 hM.k6 (hM.a (j := 13) (by decide)) dX5_insideOf_13 ?_
        refine r_iload_n (pc := 16) hC dX5_insideOf_16 rfl ?_
        refine r_iald (pc := 17) hC dX5_insideOf_17 (hM.kd (j := 13) (by decide)) (hM.r13 (by assumption)).1 (hM.r13 (by assumption)).2.1 (hM.r13 (by assumption)).2.2 ?_
        refine r_iload_n (pc := 18) hC dX5_insideOf_18 rfl ?_
        first | refine rn_icmp_ne (pc := 19) (tgt := 28) hC dX5_insideOf_19 (by decide) (by omega) (by omega) (fun c19 => ?_) (fun c19 => ?_) | refine ri_icmp_ne (pc := 19) (tgt := 28) hC dX5_insideOf_19 (by decide) (fun c19 => ?_) (fun c19 => ?_)
        · -- taken
          first | refine rn_iinc (pc := 28) (q := 1) hC dX5_insideOf_28 rfl (by decide) ?_ | refine r_iinc (pc := 28) _ hC dX5_insideOf_28 rfl rfl (by decide) ?_
          refine r_goto (pc := 31) (tgt := 4) hC dX5_insideOf_31 (by decide) ?_
          have e2 := bset_n (p := fun b => decide (plc σ b = z)) (i := i) (decide_eq_false c19)
          refine at_lv (lv' := [(0, .ref m), (1, .int (nI z)), (2, .int (nI (bset (fun b => decide (plc σ b = z)) (i + 1)))), (3, .int (nI (i + 1)))]) ⟨rfl, rfl, by rw [e2]; rfl, rfl, trivial⟩ ?_
          exact ih (i + 1) (by omega)
        · -- not
          refine r_iload_n (pc := 22) hC dX5_insideOf_22 rfl ?_
          refine r_iconst (pc := 23) (nI 1) hC dX5_insideOf_23 (by decide) ?_
          refine r_iload_n (pc := 24) hC dX5_insideOf_24 rfl ?_
          refine r_ishl (pc := 25) hC dX5_insideOf_25 ?_
          refine r_ior (pc := 26) hC dX5_insideOf_26 ?_
          rw [bit_or _ (by omega) _ (bset_lt _ _)]
          refine r_istore_n (pc := 27) hC dX5_insideOf_27 (by decide) ?_
          first | refine rn_iinc (pc := 28) (q := 1) hC dX5_insideOf_28 rfl (by decide) ?_ | refine r_iinc (pc := 28) _ hC dX5_insideOf_28 rfl rfl (by decide) ?_
          refine r_goto (pc := 31) (tgt := 4) hC dX5_insideOf_31 (by decide) ?_
          have e2 := bset_s (p := fun b => decide (plc σ b = z)) (i := i) (decide_eq_true c19)
          refine at_lv (lv' := [(0, .ref m), (1, .int (nI z)), (2, .int (nI (bset (fun b => decide (plc σ b = z)) (i + 1)))), (3, .int (nI (i + 1)))]) ⟨rfl, rfl, by rw [e2]; rfl, rfl, trivial⟩ ?_
          exact ih (i + 1) (by omega)
  refine r_iconst (pc := 0) (nI 0) hC dX5_insideOf_0 (by decide) ?_
  refine r_istore_n (pc := 1) hC dX5_insideOf_1 (by decide) ?_
  refine r_iconst (pc := 2) (nI 0) hC dX5_insideOf_2 (by decide) ?_
  refine r_istore_n (pc := 3) hC dX5_insideOf_3 (by decide) ?_
  refine at_lv (lv' := [(0, .ref m), (1, .int (nI z)), (2, .int (nI (bset (fun b => decide (plc σ b = z)) (0)))), (3, .int (nI (0)))]) ⟨rfl, rfl, rfl, rfl, trivial⟩ ?_
  exact hlp (nb σ) 0 (by omega)
abbrev rm_X5_isWithoutHost : Room := { frames := 0, cells := 0, slots := 0, locals := 0 }
set_option maxHeartbeats 4000000 in
set_option maxRecDepth 100000 in
theorem cm_nohost {l : Launch} {G : Ids} {S : Ps} {M : Nat → Nat} {σ : Sg} {m t : Nat} {b z : Nat} (hfl : l.stackTraces = false) (hM : RM S M σ m t) (hV : InvC σ) (hb : b < nb σ) (hz : z < nz σ) : Ct l (Cond.code yX5_isWithoutHost cX5_isWithoutHost 3 (some .boolean)) yX5_isWithoutHost rm_X5_isWithoutHost G [.ref m, .int (nI b), .int (nI z)] S (fun v S9 => v = some (.int (b2i (noHost σ b z))) ∧ S = S9) (fun _ _ => False) := by
  refine Ct.of hfl (by decide) (Nat.le_of_ble_eq_true rfl) (fun Γ V hC hR hT hI => ?_)
  have hn := hV.n
  by_cases hh : hst σ b = 0
  · skip
    have hp := (hV.vb hb).1
    first | refine r_aload_n (pc := 0) hC dX5_isWithoutHost_0 rfl ?_ | refine r_aload_nN (pc := 0) hC dX5_isWithoutHost_0 rfl ?_
    refine r_gf (pc := 1) (κ := 6) (j := 15) hC cls6 (by decide) kf_X5_41 hM.k6 (hM.a (j := 15) (by decide)) dX5_isWithoutHost_1 ?_
    refine r_iload_n (pc := 4) hC dX5_isWithoutHost_4 rfl ?_
    refine r_iald (pc := 5) hC dX5_isWithoutHost_5 (hM.kd (j := 15) (by decide)) (hM.r15n (by assumption) hh).1 (hM.r15n (by assumption) hh).2.1 (hM.r15n (by assumption) hh).2.2 ?_
    refine r_iconst (pc := 6) (-1) hC dX5_isWithoutHost_6 (by decide) ?_
    refine r_m1_eqN (pc := 7) (tgt := 53) hC dX5_isWithoutHost_7 (by decide) ?_
    refine r_iconst (pc := 53) (nI 0) hC dX5_isWithoutHost_53 (by decide) ?_
    refine r_zret (pc := 54) hC hR dX5_isWithoutHost_54 (by first | rfl | exact b2i_z _ | decide) ?_ (by decide) (by decide)
    exact ⟨ret_f (by unfold noHost; simp [hh]), rfl⟩
  · skip
    have hp := (hV.vb hb).1
    have hb2 := hV.h hb hh
    have hp2 := (hV.vb hb2).1
    first | refine r_aload_n (pc := 0) hC dX5_isWithoutHost_0 rfl ?_ | refine r_aload_nN (pc := 0) hC dX5_isWithoutHost_0 rfl ?_
    refine r_gf (pc := 1) (κ := 6) (j := 15) hC cls6 (by decide) kf_X5_41 hM.k6 (hM.a (j := 15) (by decide)) dX5_isWithoutHost_1 ?_
    refine r_iload_n (pc := 4) hC dX5_isWithoutHost_4 rfl ?_
    refine r_iald (pc := 5) hC dX5_isWithoutHost_5 (hM.kd (j := 15) (by decide)) (hM.r15s (by assumption) hh).1 (hM.r15s (by assumption) hh).2.1 (hM.r15s (by assumption) hh).2.2 ?_
    refine r_iconst (pc := 6) (-1) hC dX5_isWithoutHost_6 (by decide) ?_
    refine r_m1_eqS (pc := 7) (tgt := 53) hC dX5_isWithoutHost_7 (by decide) (by omega) ?_
    refine r_iload_n (pc := 10) hC dX5_isWithoutHost_10 rfl ?_
    first | refine rb_if_eq (pc := 11) (tgt := 53) hC dX5_isWithoutHost_11 (by decide) (fun c11 => ?_) (fun c11 => ?_) | refine rn_if_eq (pc := 11) (tgt := 53) hC dX5_isWithoutHost_11 (by decide) (by omega) (fun c11 => ?_) (fun c11 => ?_) | refine ri_if_eq (pc := 11) (tgt := 53) hC dX5_isWithoutHost_11 (by decide) (fun c11 => ?_) (fun c11 => ?_)
    · -- taken
      refine r_iconst (pc := 53) (nI 0) hC dX5_isWithoutHost_53 (by decide) ?_
      refine r_zret (pc := 54) hC hR dX5_isWithoutHost_54 (by first | rfl | exact b2i_z _ | decide) ?_ (by decide) (by decide)
      exact ⟨ret_f (by unfold noHost; simp [c11]), rfl⟩
    · -- not
      first | refine r_aload_n (pc := 14) hC dX5_isWithoutHost_14 rfl ?_ | refine r_aload_nN (pc := 14) hC dX5_isWithoutHost_14 rfl ?_
      refine r_gf (pc := 15) (κ := 6) (j := 13) hC cls6 (by decide) kf_X5_35 hM.k6 (hM.a (j := 13) (by decide)) dX5_isWithoutHost_15 ?_
      first | refine r_aload_n (pc := 18) hC dX5_isWithoutHost_18 rfl ?_ | refine r_aload_nN (pc := 18) hC dX5_isWithoutHost_18 rfl ?_
      refine r_gf (pc := 19) (κ := 6) (j := 15) hC cls6 (by decide) kf_X5_41 hM.k6 (hM.a (j := 15) (by decide)) dX5_isWithoutHost_19 ?_
      refine r_iload_n (pc := 22) hC dX5_isWithoutHost_22 rfl ?_
      refine r_iald (pc := 23) hC dX5_isWithoutHost_23 (hM.kd (j := 15) (by decide)) (hM.r15s (by assumption) hh).1 (hM.r15s (by assumption) hh).2.1 (hM.r15s (by assumption) hh).2.2 ?_
      refine r_iald (pc := 24) hC dX5_isWithoutHost_24 (hM.kd (j := 13) (by decide)) (hM.r13 hb2).1 (hM.r13 hb2).2.1 (hM.r13 hb2).2.2 ?_
      first | refine r_aload_n (pc := 25) hC dX5_isWithoutHost_25 rfl ?_ | refine r_aload_nN (pc := 25) hC dX5_isWithoutHost_25 rfl ?_
      refine r_gf (pc := 26) (κ := 6) (j := 13) hC cls6 (by decide) kf_X5_35 hM.k6 (hM.a (j := 13) (by decide)) dX5_isWithoutHost_26 ?_
      refine r_iload_n (pc := 29) hC dX5_isWithoutHost_29 rfl ?_
      refine r_iald (pc := 30) hC dX5_isWithoutHost_30 (hM.kd (j := 13) (by decide)) (hM.r13 (by assumption)).1 (hM.r13 (by assumption)).2.1 (hM.r13 (by assumption)).2.2 ?_
      first | refine rn_icmp_eq (pc := 31) (tgt := 53) hC dX5_isWithoutHost_31 (by decide) (by omega) (by omega) (fun c31 => ?_) (fun c31 => ?_) | refine ri_icmp_eq (pc := 31) (tgt := 53) hC dX5_isWithoutHost_31 (by decide) (fun c31 => ?_) (fun c31 => ?_)
      · -- taken
        refine r_iconst (pc := 53) (nI 0) hC dX5_isWithoutHost_53 (by decide) ?_
        refine r_zret (pc := 54) hC hR dX5_isWithoutHost_54 (by first | rfl | exact b2i_z _ | decide) ?_ (by decide) (by decide)
        exact ⟨ret_f (by unfold noHost; simp [c31]), rfl⟩
      · -- not
        first | refine r_aload_n (pc := 34) hC dX5_isWithoutHost_34 rfl ?_ | refine r_aload_nN (pc := 34) hC dX5_isWithoutHost_34 rfl ?_
        refine r_gf (pc := 35) (κ := 6) (j := 13) hC cls6 (by decide) kf_X5_35 hM.k6 (hM.a (j := 13) (by decide)) dX5_isWithoutHost_35 ?_
        first | refine r_aload_n (pc := 38) hC dX5_isWithoutHost_38 rfl ?_ | refine r_aload_nN (pc := 38) hC dX5_isWithoutHost_38 rfl ?_
        refine r_gf (pc := 39) (κ := 6) (j := 15) hC cls6 (by decide) kf_X5_41 hM.k6 (hM.a (j := 15) (by decide)) dX5_isWithoutHost_39 ?_
        refine r_iload_n (pc := 42) hC dX5_isWithoutHost_42 rfl ?_
        refine r_iald (pc := 43) hC dX5_isWithoutHost_43 (hM.kd (j := 15) (by decide)) (hM.r15s (by assumption) hh).1 (hM.r15s (by assumption) hh).2.1 (hM.r15s (by assumption) hh).2.2 ?_
        refine r_iald (pc := 44) hC dX5_isWithoutHost_44 (hM.kd (j := 13) (by decide)) (hM.r13 hb2).1 (hM.r13 hb2).2.1 (hM.r13 hb2).2.2 ?_
        refine r_iload_n (pc := 45) hC dX5_isWithoutHost_45 rfl ?_
        first | refine rn_icmp_eq (pc := 46) (tgt := 53) hC dX5_isWithoutHost_46 (by decide) (by omega) (by omega) (fun c46 => ?_) (fun c46 => ?_) | refine ri_icmp_eq (pc := 46) (tgt := 53) hC dX5_isWithoutHost_46 (by decide) (fun c46 => ?_) (fun c46 => ?_)
        · -- taken
          refine r_iconst (pc := 53) (nI 0) hC dX5_isWithoutHost_53 (by decide) ?_
          refine r_zret (pc := 54) hC hR dX5_isWithoutHost_54 (by first | rfl | exact b2i_z _ | decide) ?_ (by decide) (by decide)
          exact ⟨ret_f (by unfold noHost; simp [c46]), rfl⟩
        · -- not
          refine r_iconst (pc := 49) (nI 1) hC dX5_isWithoutHost_49 (by decide) ?_
          refine r_goto (pc := 50) (tgt := 54) hC dX5_isWithoutHost_50 (by decide) ?_
          refine r_zret (pc := 54) hC hR dX5_isWithoutHost_54 (by first | rfl | exact b2i_z _ | decide) ?_ (by decide) (by decide)
          exact ⟨ret_t (by unfold noHost; simp [hh, c11, c31, c46]), rfl⟩
