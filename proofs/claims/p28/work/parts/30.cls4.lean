theorem iN_nI {z : Nat} (h : z < 2 ^ 31) : iN (nI z) = z := by unfold iN; rw [nI_toInt h]; omega
theorem exF_t {p : Nat → Bool} {n i : Nat} (h : i < n) (hp : p i = true) : exF p n = true := (exF_iff p n).mpr ⟨i, h, hp⟩
theorem exF_f {p : Nat → Bool} {n : Nat} (h : ∀ i, i < n → p i = false) : exF p n = false := by
  rw [← Bool.not_eq_true, exF_iff]
  rintro ⟨i, h1, h2⟩
  rw [h i h1] at h2
  exact absurd h2 (by decide)
/-- no earlier one -/
theorem ex_step {p : Nat → Bool} {i : Nat} (h : ∀ j, j < i → p j = false) (hi : p i = false) : ∀ j, j < i + 1 → p j = false := fun j hj => by
  by_cases c : j = i
  · rw [c]; exact hi
  · exact h j (by omega)
theorem bset_s {p : Nat → Bool} {i : Nat} (h : p i = true) : bset p (i + 1) = bset p i + 2 ^ i := by show bset p i + (if p i then 2 ^ i else 0) = _; rw [if_pos h]
theorem bset_n {p : Nat → Bool} {i : Nat} (h : p i = false) : bset p (i + 1) = bset p i := by show bset p i + (if p i then 2 ^ i else 0) = _; rw [h]; rfl
abbrev rm_X4_isWithin : Room := { frames := 0, cells := 0, slots := 0, locals := 0 }
set_option maxHeartbeats 4000000 in
set_option maxRecDepth 100000 in
theorem ct_within {l : Launch} {G : Ids} {S : Ps} {p : Int32} {a b : Nat} (hfl : l.stackTraces = false) (ha : a < 2 ^ 31) (hb : b < 2 ^ 31) : Ct l (Cond.code yX4_isWithin cX4_isWithin 3 (some .boolean)) yX4_isWithin rm_X4_isWithin G [.int p, .int (nI a), .int (nI b)] S (fun v S9 => v = some (.int (b2i (wi a b p))) ∧ S = S9) (fun _ _ => False) := by
  refine Ct.of hfl (by decide) (Nat.le_of_ble_eq_true rfl) (fun Γ V hC hR hT hI => ?_)
  have q1 := nI_toInt ha
  have q2 := nI_toInt hb
  refine r_iload_n (pc := 0) hC dX4_isWithin_0 rfl ?_
  refine r_iload_n (pc := 1) hC dX4_isWithin_1 rfl ?_
  first | refine rn_icmp_lt (pc := 2) (tgt := 14) hC dX4_isWithin_2 (by decide) (by omega) (by omega) (fun c2 => ?_) (fun c2 => ?_) | refine ri_icmp_lt (pc := 2) (tgt := 14) hC dX4_isWithin_2 (by decide) (fun c2 => ?_) (fun c2 => ?_)
  · -- taken
    refine r_iconst (pc := 14) (nI 0) hC dX4_isWithin_14 (by decide) ?_
    refine r_zret (pc := 15) hC hR dX4_isWithin_15 (by first | rfl | exact b2i_z _ | decide) ?_ (by decide) (by decide)
    exact ⟨ret_f (decide_eq_false (by omega)), rfl⟩
  · -- not
    refine r_iload_n (pc := 5) hC dX4_isWithin_5 rfl ?_
    refine r_iload_n (pc := 6) hC dX4_isWithin_6 rfl ?_
    first | refine rn_icmp_gt (pc := 7) (tgt := 14) hC dX4_isWithin_7 (by decide) (by omega) (by omega) (fun c7 => ?_) (fun c7 => ?_) | refine ri_icmp_gt (pc := 7) (tgt := 14) hC dX4_isWithin_7 (by decide) (fun c7 => ?_) (fun c7 => ?_)
    · -- taken
      refine r_iconst (pc := 14) (nI 0) hC dX4_isWithin_14 (by decide) ?_
      refine r_zret (pc := 15) hC hR dX4_isWithin_15 (by first | rfl | exact b2i_z _ | decide) ?_ (by decide) (by decide)
      exact ⟨ret_f (decide_eq_false (by omega)), rfl⟩
    · -- not
      refine r_iconst (pc := 10) (nI 1) hC dX4_isWithin_10 (by decide) ?_
      refine r_goto (pc := 11) (tgt := 15) hC dX4_isWithin_11 (by decide) ?_
      refine r_zret (pc := 15) hC hR dX4_isWithin_15 (by first | rfl | exact b2i_z _ | decide) ?_ (by decide) (by decide)
      exact ⟨ret_t (decide_eq_true (by omega)), rfl⟩
abbrev rm_X4_zoneAt : Room := { frames := 6, cells := 1, slots := 6, locals := 86 }
set_option maxHeartbeats 4000000 in
set_option maxRecDepth 100000 in
theorem ct_zoneOf {l : Launch} {G : Ids} {S : Ps} {Y : Lay} {σ : Sg} {x : Nat} {p : Int32} (hfl : l.stackTraces = false) (hZ : RC G S Y σ x) (hV : InvC σ) : Ct l (Cond.code yX4_zoneAt cX4_zoneAt 2 (some (.object "BadgeZones$Zone"))) yX4_zoneAt rm_X4_zoneAt G [.ref x, .int p] S (fun v S9 => inZ σ p = true ∧ v = some (.ref (Y 0 (iN p))) ∧ S = S9) (fun E S9 => E = eIOB ∧ inZ σ p = false ∧ S = S9) := by
  refine Ct.of hfl (by decide) (Nat.le_of_ble_eq_true rfl) (fun Γ V hC hR hT hI => ?_)
  have hn := hV.n
  have q1 := nI_toInt (n := nz σ) (by omega)
  refine r_iload_n (pc := 0) hC dX4_zoneAt_0 rfl ?_
  refine ri_if_lt (pc := 1) (tgt := 15) hC dX4_zoneAt_1 (by decide) (fun c1 => ?_) (fun c1 => ?_)
  · -- taken
    refine r_throw (pc := 15) hC hR hT (cls := "java/lang/IndexOutOfBoundsException") (text := "no such zone") (by decide +kernel) ats_IOB kc_X4_62 kini_IOB (by decide) dX4_zoneAt_15 dX4_zoneAt_18 dX4_zoneAt_19 dX4_zoneAt_21 dX4_zoneAt_24 (by decide) (Nat.le_of_ble_eq_true rfl) (by decide) (by decide) ?_
    exact ⟨rfl, decide_eq_false (by omega), rfl⟩
  · -- not
    refine r_iload_n (pc := 4) hC dX4_zoneAt_4 rfl ?_
    first | refine r_aload_n (pc := 5) hC dX4_zoneAt_5 rfl ?_ | refine r_aload_nN (pc := 5) hC dX4_zoneAt_5 rfl ?_
    refine r_gf (pc := 6) (κ := 5) (j := 1) hC cls5 (by decide) kf_X4_21 hZ.kx hZ.x1 dX4_zoneAt_6 ?_
    refine r_callV (pc := 9) hC (ct_size hC.fl hZ.lz) kv_X4_47 cls0 hZ.lz.1 rfl rfl (Nat.le_of_ble_eq_true rfl) ⟨by decide, by decide, by decide, by decide⟩ dX4_zoneAt_9 (fun _ _ h => h.elim) (fun v9 S9 h9 => ?_)
    obtain ⟨rfl, rfl⟩ := h9
    first | refine rn_icmp_lt (pc := 12) (tgt := 25) hC dX4_zoneAt_12 (by decide) (by omega) (by omega) (fun c12 => ?_) (fun c12 => ?_) | refine ri_icmp_lt (pc := 12) (tgt := 25) hC dX4_zoneAt_12 (by decide) (fun c12 => ?_) (fun c12 => ?_)
    · -- taken
      obtain ⟨z, hz, rfl⟩ : ∃ z, z < nz σ ∧ p = nI z := ⟨iN p, by unfold iN; omega, (nI_iN (by omega)).symm⟩
      have q3 := nI_toInt (n := z) (by omega)
      first | refine r_aload_n (pc := 25) hC dX4_zoneAt_25 rfl ?_ | refine r_aload_nN (pc := 25) hC dX4_zoneAt_25 rfl ?_
      refine r_gf (pc := 26) (κ := 5) (j := 1) hC cls5 (by decide) kf_X4_21 hZ.kx hZ.x1 dX4_zoneAt_26 ?_
      refine r_iload_n (pc := 29) hC dX4_zoneAt_29 rfl ?_
      refine r_callV (pc := 30) hC (ct_get hC.fl hZ.lz hz) kv_X4_169 cls0 hZ.lz.1 rfl rfl (Nat.le_of_ble_eq_true rfl) ⟨by decide, by decide, by decide, by decide⟩ dX4_zoneAt_30 (fun _ _ h => h.elim) (fun v30 S30 h30 => ?_)
      obtain ⟨rfl, rfl⟩ := h30
      refine r_cast (pc := 33) (κ := 4) hC cls4 kc_X4_9 (hZ.kz hz) dX4_zoneAt_33 ?_
      refine r_aret (pc := 36) hC hR dX4_zoneAt_36 (by first | exact Or.inl ⟨_, rfl⟩ | exact Or.inr ⟨_, rfl⟩) (by first | exact Or.inl rfl | exact Or.inr ⟨_, rfl⟩) ?_ (by decide) (by decide)
      exact ⟨decide_eq_true (by omega), by rw [iN_nI (by omega)], rfl⟩
    · -- not
      refine r_throw (pc := 15) hC hR hT (cls := "java/lang/IndexOutOfBoundsException") (text := "no such zone") (by decide +kernel) ats_IOB kc_X4_62 kini_IOB (by decide) dX4_zoneAt_15 dX4_zoneAt_18 dX4_zoneAt_19 dX4_zoneAt_21 dX4_zoneAt_24 (by decide) (Nat.le_of_ble_eq_true rfl) (by decide) (by decide) ?_
      exact ⟨rfl, decide_eq_false (by omega), rfl⟩
abbrev rm_X4_doorAt : Room := { frames := 6, cells := 1, slots := 6, locals := 86 }
set_option maxHeartbeats 4000000 in
set_option maxRecDepth 100000 in
theorem ct_doorOf {l : Launch} {G : Ids} {S : Ps} {Y : Lay} {σ : Sg} {x : Nat} {p : Int32} (hfl : l.stackTraces = false) (hZ : RC G S Y σ x) (hV : InvC σ) : Ct l (Cond.code yX4_doorAt cX4_doorAt 2 (some (.object "BadgeZones$Door"))) yX4_doorAt rm_X4_doorAt G [.ref x, .int p] S (fun v S9 => inD σ p = true ∧ v = some (.ref (Y 1 (iN p))) ∧ S = S9) (fun E S9 => E = eIOB ∧ inD σ p = false ∧ S = S9) := by
  refine Ct.of hfl (by decide) (Nat.le_of_ble_eq_true rfl) (fun Γ V hC hR hT hI => ?_)
  have hn := hV.n
  have q1 := nI_toInt (n := nd σ) (by omega)
  refine r_iload_n (pc := 0) hC dX4_doorAt_0 rfl ?_
  refine ri_if_lt (pc := 1) (tgt := 15) hC dX4_doorAt_1 (by decide) (fun c1 => ?_) (fun c1 => ?_)
  · -- taken
    refine r_throw (pc := 15) hC hR hT (cls := "java/lang/IndexOutOfBoundsException") (text := "no such door") (by decide +kernel) ats_IOB kc_X4_62 kini_IOB (by decide) dX4_doorAt_15 dX4_doorAt_18 dX4_doorAt_19 dX4_doorAt_21 dX4_doorAt_24 (by decide) (Nat.le_of_ble_eq_true rfl) (by decide) (by decide) ?_
    exact ⟨rfl, decide_eq_false (by omega), rfl⟩
  · -- not
    refine r_iload_n (pc := 4) hC dX4_doorAt_4 rfl ?_
    first | refine r_aload_n (pc := 5) hC dX4_doorAt_5 rfl ?_ | refine r_aload_nN (pc := 5) hC dX4_doorAt_5 rfl ?_
    refine r_gf (pc := 6) (κ := 5) (j := 2) hC cls5 (by decide) kf_X4_25 hZ.kx hZ.x2 dX4_doorAt_6 ?_
    refine r_callV (pc := 9) hC (ct_size hC.fl hZ.ld) kv_X4_47 cls0 hZ.ld.1 rfl rfl (Nat.le_of_ble_eq_true rfl) ⟨by decide, by decide, by decide, by decide⟩ dX4_doorAt_9 (fun _ _ h => h.elim) (fun v9 S9 h9 => ?_)
    obtain ⟨rfl, rfl⟩ := h9
    first | refine rn_icmp_lt (pc := 12) (tgt := 25) hC dX4_doorAt_12 (by decide) (by omega) (by omega) (fun c12 => ?_) (fun c12 => ?_) | refine ri_icmp_lt (pc := 12) (tgt := 25) hC dX4_doorAt_12 (by decide) (fun c12 => ?_) (fun c12 => ?_)
    · -- taken
      obtain ⟨z, hz, rfl⟩ : ∃ z, z < nd σ ∧ p = nI z := ⟨iN p, by unfold iN; omega, (nI_iN (by omega)).symm⟩
      have q3 := nI_toInt (n := z) (by omega)
      first | refine r_aload_n (pc := 25) hC dX4_doorAt_25 rfl ?_ | refine r_aload_nN (pc := 25) hC dX4_doorAt_25 rfl ?_
      refine r_gf (pc := 26) (κ := 5) (j := 2) hC cls5 (by decide) kf_X4_25 hZ.kx hZ.x2 dX4_doorAt_26 ?_
      refine r_iload_n (pc := 29) hC dX4_doorAt_29 rfl ?_
      refine r_callV (pc := 30) hC (ct_get hC.fl hZ.ld hz) kv_X4_169 cls0 hZ.ld.1 rfl rfl (Nat.le_of_ble_eq_true rfl) ⟨by decide, by decide, by decide, by decide⟩ dX4_doorAt_30 (fun _ _ h => h.elim) (fun v30 S30 h30 => ?_)
      obtain ⟨rfl, rfl⟩ := h30
      refine r_cast (pc := 33) (κ := 2) hC cls2 kc_X4_91 (hZ.kd hz) dX4_doorAt_33 ?_
      refine r_aret (pc := 36) hC hR dX4_doorAt_36 (by first | exact Or.inl ⟨_, rfl⟩ | exact Or.inr ⟨_, rfl⟩) (by first | exact Or.inl rfl | exact Or.inr ⟨_, rfl⟩) ?_ (by decide) (by decide)
      exact ⟨decide_eq_true (by omega), by rw [iN_nI (by omega)], rfl⟩
    · -- not
      refine r_throw (pc := 15) hC hR hT (cls := "java/lang/IndexOutOfBoundsException") (text := "no such door") (by decide +kernel) ats_IOB kc_X4_62 kini_IOB (by decide) dX4_doorAt_15 dX4_doorAt_18 dX4_doorAt_19 dX4_doorAt_21 dX4_doorAt_24 (by decide) (Nat.le_of_ble_eq_true rfl) (by decide) (by decide) ?_
      exact ⟨rfl, decide_eq_false (by omega), rfl⟩
abbrev rm_X4_badgeAt : Room := { frames := 6, cells := 1, slots := 6, locals := 86 }
set_option maxHeartbeats 4000000 in
set_option maxRecDepth 100000 in
theorem ct_badgeOf {l : Launch} {G : Ids} {S : Ps} {Y : Lay} {σ : Sg} {x : Nat} {p : Int32} (hfl : l.stackTraces = false) (hZ : RC G S Y σ x) (hV : InvC σ) : Ct l (Cond.code yX4_badgeAt cX4_badgeAt 2 (some (.object "BadgeZones$Badge"))) yX4_badgeAt rm_X4_badgeAt G [.ref x, .int p] S (fun v S9 => inB σ p = true ∧ v = some (.ref (Y 2 (iN p))) ∧ S = S9) (fun E S9 => E = eIOB ∧ inB σ p = false ∧ S = S9) := by
  refine Ct.of hfl (by decide) (Nat.le_of_ble_eq_true rfl) (fun Γ V hC hR hT hI => ?_)
  have hn := hV.n
  have q1 := nI_toInt (n := nb σ) (by omega)
  refine r_iload_n (pc := 0) hC dX4_badgeAt_0 rfl ?_
  refine ri_if_lt (pc := 1) (tgt := 15) hC dX4_badgeAt_1 (by decide) (fun c1 => ?_) (fun c1 => ?_)
  · -- taken
    refine r_throw (pc := 15) hC hR hT (cls := "java/lang/IndexOutOfBoundsException") (text := "no such badge") (by decide +kernel) ats_IOB kc_X4_62 kini_IOB (by decide) dX4_badgeAt_15 dX4_badgeAt_18 dX4_badgeAt_19 dX4_badgeAt_21 dX4_badgeAt_24 (by decide) (Nat.le_of_ble_eq_true rfl) (by decide) (by decide) ?_
    exact ⟨rfl, decide_eq_false (by omega), rfl⟩
  · -- not
    refine r_iload_n (pc := 4) hC dX4_badgeAt_4 rfl ?_
    first | refine r_aload_n (pc := 5) hC dX4_badgeAt_5 rfl ?_ | refine r_aload_nN (pc := 5) hC dX4_badgeAt_5 rfl ?_
    refine r_gf (pc := 6) (κ := 5) (j := 3) hC cls5 (by decide) kf_X4_28 hZ.kx hZ.x3 dX4_badgeAt_6 ?_
    refine r_callV (pc := 9) hC (ct_size hC.fl hZ.lb) kv_X4_47 cls0 hZ.lb.1 rfl rfl (Nat.le_of_ble_eq_true rfl) ⟨by decide, by decide, by decide, by decide⟩ dX4_badgeAt_9 (fun _ _ h => h.elim) (fun v9 S9 h9 => ?_)
    obtain ⟨rfl, rfl⟩ := h9
    first | refine rn_icmp_lt (pc := 12) (tgt := 25) hC dX4_badgeAt_12 (by decide) (by omega) (by omega) (fun c12 => ?_) (fun c12 => ?_) | refine ri_icmp_lt (pc := 12) (tgt := 25) hC dX4_badgeAt_12 (by decide) (fun c12 => ?_) (fun c12 => ?_)
    · -- taken
      obtain ⟨z, hz, rfl⟩ : ∃ z, z < nb σ ∧ p = nI z := ⟨iN p, by unfold iN; omega, (nI_iN (by omega)).symm⟩
      have q3 := nI_toInt (n := z) (by omega)
      first | refine r_aload_n (pc := 25) hC dX4_badgeAt_25 rfl ?_ | refine r_aload_nN (pc := 25) hC dX4_badgeAt_25 rfl ?_
      refine r_gf (pc := 26) (κ := 5) (j := 3) hC cls5 (by decide) kf_X4_28 hZ.kx hZ.x3 dX4_badgeAt_26 ?_
      refine r_iload_n (pc := 29) hC dX4_badgeAt_29 rfl ?_
      refine r_callV (pc := 30) hC (ct_get hC.fl hZ.lb hz) kv_X4_169 cls0 hZ.lb.1 rfl rfl (Nat.le_of_ble_eq_true rfl) ⟨by decide, by decide, by decide, by decide⟩ dX4_badgeAt_30 (fun _ _ h => h.elim) (fun v30 S30 h30 => ?_)
      obtain ⟨rfl, rfl⟩ := h30
      refine r_cast (pc := 33) (κ := 1) hC cls1 kc_X4_127 (hZ.kb hz) dX4_badgeAt_33 ?_
      refine r_aret (pc := 36) hC hR dX4_badgeAt_36 (by first | exact Or.inl ⟨_, rfl⟩ | exact Or.inr ⟨_, rfl⟩) (by first | exact Or.inl rfl | exact Or.inr ⟨_, rfl⟩) ?_ (by decide) (by decide)
      exact ⟨decide_eq_true (by omega), by rw [iN_nI (by omega)], rfl⟩
    · -- not
      refine r_throw (pc := 15) hC hR hT (cls := "java/lang/IndexOutOfBoundsException") (text := "no such badge") (by decide +kernel) ats_IOB kc_X4_62 kini_IOB (by decide) dX4_badgeAt_15 dX4_badgeAt_18 dX4_badgeAt_19 dX4_badgeAt_21 dX4_badgeAt_24 (by decide) (Nat.le_of_ble_eq_true rfl) (by decide) (by decide) ?_
      exact ⟨rfl, decide_eq_false (by omega), rfl⟩
abbrev rm_X4_checkZone : Room := { frames := 6, cells := 2, slots := 12, locals := 86 }
set_option maxHeartbeats 4000000 in
set_option maxRecDepth 100000 in
theorem ct_checkZ {l : Launch} {G : Ids} {S : Ps} {p q r : Int32} (hfl : l.stackTraces = false)  : Ct l (Cond.code yX4_checkZone cX4_checkZone 3 none) yX4_checkZone rm_X4_checkZone G [.int p, .int q, .int r] S (fun v S9 => v = none ∧ inH p q r = true ∧ S = S9) (fun E S9 => E = eIAE ∧ inH p q r = false ∧ S = S9) := by
  refine Ct.of hfl (by decide) (Nat.le_of_ble_eq_true rfl) (fun Γ V hC hR hT hI => ?_)
  refine r_iload_n (pc := 0) hC dX4_checkZone_0 rfl ?_
  refine r_iconst (pc := 1) (nI 1) hC dX4_checkZone_1 (by decide) ?_
  refine r_bipush (pc := 2) (nI 20) hC dX4_checkZone_2 (by decide) ?_
  refine r_callS (pc := 4) hC (ct_within hC.fl (p := p) (a := 1) (b := 20) (by decide) (by decide)) ks_X4_80 rfl rfl (Nat.le_of_ble_eq_true rfl) ⟨by decide, by decide, by decide, by decide⟩ dX4_checkZone_4 (fun _ _ h => h.elim) (fun v4 S4 h4 => ?_)
  obtain ⟨rfl, rfl⟩ := h4
  first | refine rb_if_ne (pc := 7) (tgt := 20) hC dX4_checkZone_7 (by decide) (fun c7 => ?_) (fun c7 => ?_) | refine rn_if_ne (pc := 7) (tgt := 20) hC dX4_checkZone_7 (by decide) (by omega) (fun c7 => ?_) (fun c7 => ?_) | refine ri_if_ne (pc := 7) (tgt := 20) hC dX4_checkZone_7 (by decide) (fun c7 => ?_) (fun c7 => ?_)
  · -- taken
    refine r_iload_n (pc := 20) hC dX4_checkZone_20 rfl ?_
    refine r_iconst (pc := 21) (nI 0) hC dX4_checkZone_21 (by decide) ?_
    refine r_sipush (pc := 22) (nI 1439) hC dX4_checkZone_22 (by decide) ?_
    refine r_callS (pc := 25) hC (ct_within hC.fl (p := q) (a := 0) (b := 1439) (by decide) (by decide)) ks_X4_80 rfl rfl (Nat.le_of_ble_eq_true rfl) ⟨by decide, by decide, by decide, by decide⟩ dX4_checkZone_25 (fun _ _ h => h.elim) (fun v25 S25 h25 => ?_)
    obtain ⟨rfl, rfl⟩ := h25
    first | refine rb_if_eq (pc := 28) (tgt := 47) hC dX4_checkZone_28 (by decide) (fun c28 => ?_) (fun c28 => ?_) | refine rn_if_eq (pc := 28) (tgt := 47) hC dX4_checkZone_28 (by decide) (by omega) (fun c28 => ?_) (fun c28 => ?_) | refine ri_if_eq (pc := 28) (tgt := 47) hC dX4_checkZone_28 (by decide) (fun c28 => ?_) (fun c28 => ?_)
    · -- taken
      refine r_throw (pc := 47) hC hR hT (cls := "java/lang/IllegalArgumentException") (text := "not hours of a day") (by decide +kernel) ats_IAE kc_X4_84 kini_IAE (by decide) dX4_checkZone_47 dX4_checkZone_50 dX4_checkZone_51 dX4_checkZone_53 dX4_checkZone_56 (by decide) (Nat.le_of_ble_eq_true rfl) (by decide) (by decide) ?_
      have e7 := wi_d c7
      have e28 := wi_f c28
      exact ⟨rfl, decide_eq_false (by omega), rfl⟩
    · -- not
      refine r_iload_n (pc := 31) hC dX4_checkZone_31 rfl ?_
      refine r_iconst (pc := 32) (nI 0) hC dX4_checkZone_32 (by decide) ?_
      refine r_sipush (pc := 33) (nI 1440) hC dX4_checkZone_33 (by decide) ?_
      refine r_callS (pc := 36) hC (ct_within hC.fl (p := r) (a := 0) (b := 1440) (by decide) (by decide)) ks_X4_80 rfl rfl (Nat.le_of_ble_eq_true rfl) ⟨by decide, by decide, by decide, by decide⟩ dX4_checkZone_36 (fun _ _ h => h.elim) (fun v36 S36 h36 => ?_)
      obtain ⟨rfl, rfl⟩ := h36
      first | refine rb_if_eq (pc := 39) (tgt := 47) hC dX4_checkZone_39 (by decide) (fun c39 => ?_) (fun c39 => ?_) | refine rn_if_eq (pc := 39) (tgt := 47) hC dX4_checkZone_39 (by decide) (by omega) (fun c39 => ?_) (fun c39 => ?_) | refine ri_if_eq (pc := 39) (tgt := 47) hC dX4_checkZone_39 (by decide) (fun c39 => ?_) (fun c39 => ?_)
      · -- taken
        refine r_throw (pc := 47) hC hR hT (cls := "java/lang/IllegalArgumentException") (text := "not hours of a day") (by decide +kernel) ats_IAE kc_X4_84 kini_IAE (by decide) dX4_checkZone_47 dX4_checkZone_50 dX4_checkZone_51 dX4_checkZone_53 dX4_checkZone_56 (by decide) (Nat.le_of_ble_eq_true rfl) (by decide) (by decide) ?_
        have e7 := wi_d c7
        have e28 := wi_d c28
        have e39 := wi_f c39
        exact ⟨rfl, decide_eq_false (by omega), rfl⟩
      · -- not
        refine r_iload_n (pc := 42) hC dX4_checkZone_42 rfl ?_
        refine r_iload_n (pc := 43) hC dX4_checkZone_43 rfl ?_
        first | refine rn_icmp_ne (pc := 44) (tgt := 57) hC dX4_checkZone_44 (by decide) (by omega) (by omega) (fun c44 => ?_) (fun c44 => ?_) | refine ri_icmp_ne (pc := 44) (tgt := 57) hC dX4_checkZone_44 (by decide) (fun c44 => ?_) (fun c44 => ?_)
        · -- taken
          refine r_vret (pc := 57) hC hR dX4_checkZone_57 ?_ (by decide) (by decide)
          have e7 := wi_d c7
          have e28 := wi_d c28
          have e39 := wi_d c39
          exact ⟨rfl, decide_eq_true (by omega), rfl⟩
        · -- not
          refine r_throw (pc := 47) hC hR hT (cls := "java/lang/IllegalArgumentException") (text := "not hours of a day") (by decide +kernel) ats_IAE kc_X4_84 kini_IAE (by decide) dX4_checkZone_47 dX4_checkZone_50 dX4_checkZone_51 dX4_checkZone_53 dX4_checkZone_56 (by decide) (Nat.le_of_ble_eq_true rfl) (by decide) (by decide) ?_
          have e7 := wi_d c7
          have e28 := wi_d c28
          have e39 := wi_d c39
          exact ⟨rfl, decide_eq_false (by omega), rfl⟩
  · -- not
    refine r_throw (pc := 10) hC hR hT (cls := "java/lang/IllegalArgumentException") (text := "capacity is not 1 to 20") (by decide +kernel) ats_IAE kc_X4_84 kini_IAE (by decide) dX4_checkZone_10 dX4_checkZone_13 dX4_checkZone_14 dX4_checkZone_16 dX4_checkZone_19 (by decide) (Nat.le_of_ble_eq_true rfl) (by decide) (by decide) ?_
    have e7 := wi_f c7
    exact ⟨rfl, decide_eq_false (by omega), rfl⟩
abbrev rm_X4_checkRights : Room := { frames := 6, cells := 1, slots := 6, locals := 86 }
set_option maxHeartbeats 4000000 in
set_option maxRecDepth 100000 in
theorem ct_checkR {l : Launch} {G : Ids} {S : Ps} {p : Int32} (hfl : l.stackTraces = false)  : Ct l (Cond.code yX4_checkRights cX4_checkRights 1 none) yX4_checkRights rm_X4_checkRights G [.int p] S (fun v S9 => v = none ∧ wi 0 255 p = true ∧ S = S9) (fun E S9 => E = eIAE ∧ wi 0 255 p = false ∧ S = S9) := by
  refine Ct.of hfl (by decide) (Nat.le_of_ble_eq_true rfl) (fun Γ V hC hR hT hI => ?_)
  refine r_iload_n (pc := 0) hC dX4_checkRights_0 rfl ?_
  refine r_iconst (pc := 1) (nI 0) hC dX4_checkRights_1 (by decide) ?_
  refine r_sipush (pc := 2) (nI 255) hC dX4_checkRights_2 (by decide) ?_
  refine r_callS (pc := 5) hC (ct_within hC.fl (p := p) (a := 0) (b := 255) (by decide) (by decide)) ks_X4_80 rfl rfl (Nat.le_of_ble_eq_true rfl) ⟨by decide, by decide, by decide, by decide⟩ dX4_checkRights_5 (fun _ _ h => h.elim) (fun v5 S5 h5 => ?_)
  obtain ⟨rfl, rfl⟩ := h5
  first | refine rb_if_ne (pc := 8) (tgt := 21) hC dX4_checkRights_8 (by decide) (fun c8 => ?_) (fun c8 => ?_) | refine rn_if_ne (pc := 8) (tgt := 21) hC dX4_checkRights_8 (by decide) (by omega) (fun c8 => ?_) (fun c8 => ?_) | refine ri_if_ne (pc := 8) (tgt := 21) hC dX4_checkRights_8 (by decide) (fun c8 => ?_) (fun c8 => ?_)
  · -- taken
    refine r_vret (pc := 21) hC hR dX4_checkRights_21 ?_ (by decide) (by decide)
    exact ⟨rfl, c8, rfl⟩
  · -- not
    refine r_throw (pc := 11) hC hR hT (cls := "java/lang/IllegalArgumentException") (text := "rights are not 0 to 255") (by decide +kernel) ats_IAE kc_X4_84 kini_IAE (by decide) dX4_checkRights_11 dX4_checkRights_14 dX4_checkRights_15 dX4_checkRights_17 dX4_checkRights_20 (by decide) (Nat.le_of_ble_eq_true rfl) (by decide) (by decide) ?_
    exact ⟨rfl, c8, rfl⟩
abbrev rm_X4_addTo : Room := { frames := 0, cells := 0, slots := 0, locals := 0 }
abbrev rm_X4_badgesIn : Room := { frames := 3, cells := 0, slots := 0, locals := 64 }
set_option maxHeartbeats 4000000 in
set_option maxRecDepth 100000 in
theorem ct_badgesIn {l : Launch} {G : Ids} {S : Ps} {Y : Lay} {σ : Sg} {x z : Nat} (hfl : l.stackTraces = false) (hZ : RC G S Y σ x) (hV : InvC σ) (hz : z < nz σ) : Ct l (Cond.code yX4_badgesIn cX4_badgesIn 4 (some .int)) yX4_badgesIn rm_X4_badgesIn G [.ref x, .ref (Y 0 z)] S (fun v S9 => v = some (.int (nI (insB σ z))) ∧ S = S9) (fun _ _ => False) := by
  refine Ct.of hfl (by decide) (Nat.le_of_ble_eq_true rfl) (fun Γ V hC hR hT hI => ?_)
  have hn := hV.n
  have hlp : ∀ m i, i + m = nb σ → At Γ G V 0 0 S [(0, .ref x), (1, .ref (Y 0 z)), (2, .int (nI (bset (fun b => decide (plc σ b = z)) (i)))), (3, .int (nI (i)))] 4 [] := by
    intro m
    induction m with
    | zero =>
      intro i hi
      refine r_iload_n (pc := 4) hC dX4_badgesIn_4 rfl ?_
      first | refine r_aload_n (pc := 5) hC dX4_badgesIn_5 rfl ?_ | refine r_aload_nN (pc := 5) hC dX4_badgesIn_5 rfl ?_
      refine r_gf (pc := 6) (κ := 5) (j := 3) hC cls5 (by decide) kf_X4_28 hZ.kx hZ.x3 dX4_badgesIn_6 ?_
      refine r_callV (pc := 9) hC (ct_size hC.fl hZ.lb) kv_X4_47 cls0 hZ.lb.1 rfl rfl (Nat.le_of_ble_eq_true rfl) ⟨by decide, by decide, by decide, by decide⟩ dX4_badgesIn_9 (fun _ _ h => h.elim) (fun v9 S9 h9 => ?_)
      obtain ⟨rfl, rfl⟩ := h9
      first | refine rn_icmp_ge (pc := 12) (tgt := 48) hC dX4_badgesIn_12 (by decide) (by omega) (by omega) (fun c12 => ?_) (fun c12 => ?_) | refine ri_icmp_ge (pc := 12) (tgt := 48) hC dX4_badgesIn_12 (by decide) (fun c12 => ?_) (fun c12 => ?_)
      · -- taken
        refine r_iload_n (pc := 48) hC dX4_badgesIn_48 rfl ?_
        refine r_iret (pc := 49) hC hR dX4_badgesIn_49 ?_ (by decide) (by decide)
        have e : i = nb σ := by omega
        subst e
        exact ⟨rfl, rfl⟩
      · -- not
        exfalso; omega
    | succ m ih =>
      intro i hi
      have hi2 : i < nb σ := by omega
      refine r_iload_n (pc := 4) hC dX4_badgesIn_4 rfl ?_
      first | refine r_aload_n (pc := 5) hC dX4_badgesIn_5 rfl ?_ | refine r_aload_nN (pc := 5) hC dX4_badgesIn_5 rfl ?_
      refine r_gf (pc := 6) (κ := 5) (j := 3) hC cls5 (by decide) kf_X4_28 hZ.kx hZ.x3 dX4_badgesIn_6 ?_
      refine r_callV (pc := 9) hC (ct_size hC.fl hZ.lb) kv_X4_47 cls0 hZ.lb.1 rfl rfl (Nat.le_of_ble_eq_true rfl) ⟨by decide, by decide, by decide, by decide⟩ dX4_badgesIn_9 (fun _ _ h => h.elim) (fun v9 S9 h9 => ?_)
      obtain ⟨rfl, rfl⟩ := h9
      first | refine rn_icmp_ge (pc := 12) (tgt := 48) hC dX4_badgesIn_12 (by decide) (by omega) (by omega) (fun c12 => ?_) (fun c12 => ?_) | refine ri_icmp_ge (pc := 12) (tgt := 48) hC dX4_badgesIn_12 (by decide) (fun c12 => ?_) (fun c12 => ?_)
      · -- taken
        exfalso; omega
      · -- not
        first | refine r_aload_n (pc := 15) hC dX4_badgesIn_15 rfl ?_ | refine r_aload_nN (pc := 15) hC dX4_badgesIn_15 rfl ?_
        refine r_gf (pc := 16) (κ := 5) (j := 3) hC cls5 (by decide) kf_X4_28 hZ.kx hZ.x3 dX4_badgesIn_16 ?_
        refine r_iload_n (pc := 19) hC dX4_badgesIn_19 rfl ?_
        refine r_callV (pc := 20) hC (ct_get hC.fl hZ.lb hi2) kv_X4_169 cls0 hZ.lb.1 rfl rfl (Nat.le_of_ble_eq_true rfl) ⟨by decide, by decide, by decide, by decide⟩ dX4_badgesIn_20 (fun _ _ h => h.elim) (fun v20 S20 h20 => ?_)
        obtain ⟨rfl, rfl⟩ := h20
        refine r_cast (pc := 23) (κ := 1) hC cls1 kc_X4_127 (hZ.kb hi2) dX4_badgesIn_23 ?_
        refine r_gf (pc := 26) (κ := 1) (j := 3) hC cls1 (by decide) kf_X4_193 (hZ.kb hi2) (hZ.b3 hi2) dX4_badgesIn_26 ?_
        refine r_gf (pc := 29) (κ := 3) (j := 0) hC cls3 (by decide) kf_X4_197 (hZ.c hi2) (hZ.c0 hi2) dX4_badgesIn_29 ?_
        first | refine r_aload_n (pc := 32) hC dX4_badgesIn_32 rfl ?_ | refine r_aload_nN (pc := 32) hC dX4_badgesIn_32 rfl ?_
        refine r_acmp_ne (pc := 33) (tgt := 42) hC dX4_badgesIn_33 (by decide) (fun c33 => ?_) (fun c33 => ?_)
        · -- taken
          first | refine rn_iinc (pc := 42) (q := 1) hC dX4_badgesIn_42 rfl (by decide) ?_ | refine r_iinc (pc := 42) _ hC dX4_badgesIn_42 rfl rfl (by decide) ?_
          refine r_goto (pc := 45) (tgt := 4) hC dX4_badgesIn_45 (by decide) ?_
          have e : ¬ plc σ i = z := fun q => c33 ((hZ.zi (hV.vb hi2).1 hz).mpr q)
          have e2 := bset_n (p := fun b => decide (plc σ b = z)) (i := i) (decide_eq_false e)
          refine at_lv (lv' := [(0, .ref x), (1, .ref (Y 0 z)), (2, .int (nI (bset (fun b => decide (plc σ b = z)) (i + 1)))), (3, .int (nI (i + 1)))]) ⟨rfl, rfl, by rw [e2]; rfl, rfl, trivial⟩ ?_
          exact ih (i + 1) (by omega)
        · -- not
          refine r_iload_n (pc := 36) hC dX4_badgesIn_36 rfl ?_
          refine r_iconst (pc := 37) (nI 1) hC dX4_badgesIn_37 (by decide) ?_
          refine r_iload_n (pc := 38) hC dX4_badgesIn_38 rfl ?_
          refine r_ishl (pc := 39) hC dX4_badgesIn_39 ?_
          refine r_ior (pc := 40) hC dX4_badgesIn_40 ?_
          rw [bit_or _ (by omega) _ (bset_lt _ _)]
          refine r_istore_n (pc := 41) hC dX4_badgesIn_41 (by decide) ?_
          first | refine rn_iinc (pc := 42) (q := 1) hC dX4_badgesIn_42 rfl (by decide) ?_ | refine r_iinc (pc := 42) _ hC dX4_badgesIn_42 rfl rfl (by decide) ?_
          refine r_goto (pc := 45) (tgt := 4) hC dX4_badgesIn_45 (by decide) ?_
          have e := (hZ.zi (hV.vb hi2).1 hz).mp c33
          have e2 := bset_s (p := fun b => decide (plc σ b = z)) (i := i) (decide_eq_true e)
          refine at_lv (lv' := [(0, .ref x), (1, .ref (Y 0 z)), (2, .int (nI (bset (fun b => decide (plc σ b = z)) (i + 1)))), (3, .int (nI (i + 1)))]) ⟨rfl, rfl, by rw [e2]; rfl, rfl, trivial⟩ ?_
          exact ih (i + 1) (by omega)
  refine r_iconst (pc := 0) (nI 0) hC dX4_badgesIn_0 (by decide) ?_
  refine r_istore_n (pc := 1) hC dX4_badgesIn_1 (by decide) ?_
  refine r_iconst (pc := 2) (nI 0) hC dX4_badgesIn_2 (by decide) ?_
  refine r_istore_n (pc := 3) hC dX4_badgesIn_3 (by decide) ?_
  refine at_lv (lv' := [(0, .ref x), (1, .ref (Y 0 z)), (2, .int (nI (bset (fun b => decide (plc σ b = z)) (0)))), (3, .int (nI (0)))]) ⟨rfl, rfl, rfl, rfl, trivial⟩ ?_
  exact hlp (nb σ) 0 (by omega)
abbrev rm_X4_countIn : Room := { frames := 4, cells := 0, slots := 0, locals := 87 }
set_option maxHeartbeats 4000000 in
set_option maxRecDepth 100000 in
theorem ct_countIn {l : Launch} {G : Ids} {S : Ps} {Y : Lay} {σ : Sg} {x z : Nat} (hfl : l.stackTraces = false) (hZ : RC G S Y σ x) (hV : InvC σ) (hz : z < nz σ) : Ct l (Cond.code yX4_countIn cX4_countIn 2 (some .int)) yX4_countIn rm_X4_countIn G [.ref x, .ref (Y 0 z)] S (fun v S9 => v = some (.int (nI (popc (insB σ z)))) ∧ S = S9) (fun _ _ => False) := by
  refine Ct.of hfl (by decide) (Nat.le_of_ble_eq_true rfl) (fun Γ V hC hR hT hI => ?_)
  first | refine r_aload_n (pc := 0) hC dX4_countIn_0 rfl ?_ | refine r_aload_nN (pc := 0) hC dX4_countIn_0 rfl ?_
  first | refine r_aload_n (pc := 1) hC dX4_countIn_1 rfl ?_ | refine r_aload_nN (pc := 1) hC dX4_countIn_1 rfl ?_
  refine r_callV (pc := 2) hC (ct_badgesIn hC.fl hZ hV hz) kv_X4_166 cls5 hZ.kx rfl rfl (Nat.le_of_ble_eq_true rfl) ⟨by decide, by decide, by decide, by decide⟩ dX4_countIn_2 (fun _ _ h => h.elim) (fun v2 S2 h2 => ?_)
  obtain ⟨rfl, rfl⟩ := h2
  refine r_callS (pc := 5) hC (ct_bitc hC.fl (insB_lt hV.n.2.2.2.1 z)) ks_X4_230 rfl rfl (Nat.le_of_ble_eq_true rfl) ⟨by decide, by decide, by decide, by decide⟩ dX4_countIn_5 (fun _ _ h => h.elim) (fun v5 S5 h5 => ?_)
  obtain ⟨rfl, rfl⟩ := h5
  refine r_iret (pc := 8) hC hR dX4_countIn_8 ?_ (by decide) (by decide)
  exact ⟨rfl, rfl⟩
abbrev rm_X4_isExcluded : Room := { frames := 3, cells := 0, slots := 0, locals := 64 }
set_option maxHeartbeats 4000000 in
set_option maxRecDepth 100000 in
theorem ct_isExcl {l : Launch} {G : Ids} {S : Ps} {Y : Lay} {σ : Sg} {x d : Nat} (hfl : l.stackTraces = false) (hZ : RC G S Y σ x) (hV : InvC σ) (hd : d < nd σ) : Ct l (Cond.code yX4_isExcluded cX4_isExcluded 4 (some .boolean)) yX4_isExcluded rm_X4_isExcluded G [.ref x, .ref (Y 1 d)] S (fun v S9 => v = some (.int (b2i (excl σ d))) ∧ S = S9) (fun _ _ => False) := by
  refine Ct.of hfl (by decide) (Nat.le_of_ble_eq_true rfl) (fun Γ V hC hR hT hI => ?_)
  have hn := hV.n
  have hlp : ∀ m i, i + m = nd σ → (∀ j, j < i → (fun e => decide (e ≠ d) && (decide (lock σ e ≠ 0) && (decide (lock σ e = lock σ d) && decide (0 < lft σ e)))) j = false) → At Γ G V 0 0 S [(0, .ref x), (1, .ref (Y 1 d)), (2, .int (nI (i)))] 2 [] := by
    intro m
    induction m with
    | zero =>
      intro i hi hno
      refine r_iload_n (pc := 2) hC dX4_isExcluded_2 rfl ?_
      first | refine r_aload_n (pc := 3) hC dX4_isExcluded_3 rfl ?_ | refine r_aload_nN (pc := 3) hC dX4_isExcluded_3 rfl ?_
      refine r_gf (pc := 4) (κ := 5) (j := 2) hC cls5 (by decide) kf_X4_25 hZ.kx hZ.x2 dX4_isExcluded_4 ?_
      refine r_callV (pc := 7) hC (ct_size hC.fl hZ.ld) kv_X4_47 cls0 hZ.ld.1 rfl rfl (Nat.le_of_ble_eq_true rfl) ⟨by decide, by decide, by decide, by decide⟩ dX4_isExcluded_7 (fun _ _ h => h.elim) (fun v7 S7 h7 => ?_)
      obtain ⟨rfl, rfl⟩ := h7
      first | refine rn_icmp_ge (pc := 10) (tgt := 52) hC dX4_isExcluded_10 (by decide) (by omega) (by omega) (fun c10 => ?_) (fun c10 => ?_) | refine ri_icmp_ge (pc := 10) (tgt := 52) hC dX4_isExcluded_10 (by decide) (fun c10 => ?_) (fun c10 => ?_)
      · -- taken
        refine r_iconst (pc := 52) (nI 0) hC dX4_isExcluded_52 (by decide) ?_
        refine r_zret (pc := 53) hC hR dX4_isExcluded_53 (by first | rfl | exact b2i_z _ | decide) ?_ (by decide) (by decide)
        have e : i = nd σ := by omega
        subst e
        exact ⟨ret_f (exF_f hno), rfl⟩
      · -- not
        exfalso; omega
    | succ m ih =>
      intro i hi hno
      have hi2 : i < nd σ := by omega
      refine r_iload_n (pc := 2) hC dX4_isExcluded_2 rfl ?_
      first | refine r_aload_n (pc := 3) hC dX4_isExcluded_3 rfl ?_ | refine r_aload_nN (pc := 3) hC dX4_isExcluded_3 rfl ?_
      refine r_gf (pc := 4) (κ := 5) (j := 2) hC cls5 (by decide) kf_X4_25 hZ.kx hZ.x2 dX4_isExcluded_4 ?_
      refine r_callV (pc := 7) hC (ct_size hC.fl hZ.ld) kv_X4_47 cls0 hZ.ld.1 rfl rfl (Nat.le_of_ble_eq_true rfl) ⟨by decide, by decide, by decide, by decide⟩ dX4_isExcluded_7 (fun _ _ h => h.elim) (fun v7 S7 h7 => ?_)
      obtain ⟨rfl, rfl⟩ := h7
      first | refine rn_icmp_ge (pc := 10) (tgt := 52) hC dX4_isExcluded_10 (by decide) (by omega) (by omega) (fun c10 => ?_) (fun c10 => ?_) | refine ri_icmp_ge (pc := 10) (tgt := 52) hC dX4_isExcluded_10 (by decide) (fun c10 => ?_) (fun c10 => ?_)
      · -- taken
        exfalso; omega
      · -- not
        first | refine r_aload_n (pc := 13) hC dX4_isExcluded_13 rfl ?_ | refine r_aload_nN (pc := 13) hC dX4_isExcluded_13 rfl ?_
        refine r_gf (pc := 14) (κ := 5) (j := 2) hC cls5 (by decide) kf_X4_25 hZ.kx hZ.x2 dX4_isExcluded_14 ?_
        refine r_iload_n (pc := 17) hC dX4_isExcluded_17 rfl ?_
        refine r_callV (pc := 18) hC (ct_get hC.fl hZ.ld hi2) kv_X4_169 cls0 hZ.ld.1 rfl rfl (Nat.le_of_ble_eq_true rfl) ⟨by decide, by decide, by decide, by decide⟩ dX4_isExcluded_18 (fun _ _ h => h.elim) (fun v18 S18 h18 => ?_)
        obtain ⟨rfl, rfl⟩ := h18
        refine r_cast (pc := 21) (κ := 2) hC cls2 kc_X4_91 (hZ.kd hi2) dX4_isExcluded_21 ?_
        first | refine r_astore_n (pc := 24) hC dX4_isExcluded_24 (by decide) ?_ | refine r_astore_nN (pc := 24) hC dX4_isExcluded_24 (by decide) ?_
        first | refine r_aload_n (pc := 25) hC dX4_isExcluded_25 rfl ?_ | refine r_aload_nN (pc := 25) hC dX4_isExcluded_25 rfl ?_
        first | refine r_aload_n (pc := 26) hC dX4_isExcluded_26 rfl ?_ | refine r_aload_nN (pc := 26) hC dX4_isExcluded_26 rfl ?_
        refine r_callV (pc := 27) hC (ct_excludes hC.fl hZ hV hi2 hd) kv_X4_262 cls2 (hZ.kd hi2) rfl rfl (Nat.le_of_ble_eq_true rfl) ⟨by decide, by decide, by decide, by decide⟩ dX4_isExcluded_27 (fun _ _ h => h.elim) (fun v27 S27 h27 => ?_)
        obtain ⟨rfl, rfl⟩ := h27
        first | refine rb_if_eq (pc := 30) (tgt := 46) hC dX4_isExcluded_30 (by decide) (fun c30 => ?_) (fun c30 => ?_) | refine rn_if_eq (pc := 30) (tgt := 46) hC dX4_isExcluded_30 (by decide) (by omega) (fun c30 => ?_) (fun c30 => ?_) | refine ri_if_eq (pc := 30) (tgt := 46) hC dX4_isExcluded_30 (by decide) (fun c30 => ?_) (fun c30 => ?_)
        · -- taken
          first | refine rn_iinc (pc := 46) (q := 1) hC dX4_isExcluded_46 rfl (by decide) ?_ | refine r_iinc (pc := 46) _ hC dX4_isExcluded_46 rfl rfl (by decide) ?_
          refine r_goto (pc := 49) (tgt := 2) hC dX4_isExcluded_49 (by decide) ?_
          refine at_lv (lv' := [(0, .ref x), (1, .ref (Y 1 d)), (2, .int (nI (i + 1)))]) ⟨rfl, rfl, rfl, trivial⟩ ?_
          refine ih (i + 1) (by omega) (ex_step hno ?_)
          show (fun e => decide (e ≠ d) && (decide (lock σ e ≠ 0) && (decide (lock σ e = lock σ d) && decide (0 < lft σ e)))) i = false
          cases e1 : decide (i ≠ d) <;> cases e2 : decide (lock σ i ≠ 0) <;> cases e3 : decide (lock σ i = lock σ d) <;> simp_all
        · -- not
          first | refine r_aload_n (pc := 33) hC dX4_isExcluded_33 rfl ?_ | refine r_aload_nN (pc := 33) hC dX4_isExcluded_33 rfl ?_
          first | refine r_aload_n (pc := 34) hC dX4_isExcluded_34 rfl ?_ | refine r_aload_nN (pc := 34) hC dX4_isExcluded_34 rfl ?_
          refine r_gf (pc := 35) (κ := 5) (j := 4) hC cls5 (by decide) kf_X4_31 hZ.kx hZ.x4 dX4_isExcluded_35 ?_
          refine r_callV (pc := 38) hC (ct_left hC.fl hZ hV hi2) kv_X4_110 cls2 (hZ.kd hi2) rfl rfl (Nat.le_of_ble_eq_true rfl) ⟨by decide, by decide, by decide, by decide⟩ dX4_isExcluded_38 (fun _ _ h => h.elim) (fun v38 S38 h38 => ?_)
          obtain ⟨rfl, rfl⟩ := h38
          have hlf : lft σ i < 2 ^ 31 := by have := (hV.vd hi2).2.2.2.2.2; show shut σ i - mi σ < _; omega
          first | refine rn_if_le (pc := 41) (tgt := 46) hC dX4_isExcluded_41 (by decide) (by omega) (fun c41 => ?_) (fun c41 => ?_) | refine ri_if_le (pc := 41) (tgt := 46) hC dX4_isExcluded_41 (by decide) (fun c41 => ?_) (fun c41 => ?_)
          · -- taken
            first | refine rn_iinc (pc := 46) (q := 1) hC dX4_isExcluded_46 rfl (by decide) ?_ | refine r_iinc (pc := 46) _ hC dX4_isExcluded_46 rfl rfl (by decide) ?_
            refine r_goto (pc := 49) (tgt := 2) hC dX4_isExcluded_49 (by decide) ?_
            refine at_lv (lv' := [(0, .ref x), (1, .ref (Y 1 d)), (2, .int (nI (i + 1)))]) ⟨rfl, rfl, rfl, trivial⟩ ?_
            refine ih (i + 1) (by omega) (ex_step hno ?_)
            show (fun e => decide (e ≠ d) && (decide (lock σ e ≠ 0) && (decide (lock σ e = lock σ d) && decide (0 < lft σ e)))) i = false
            have e9 : decide (0 < lft σ i) = false := decide_eq_false (by omega)
            simp [e9]
          · -- not
            refine r_iconst (pc := 44) (nI 1) hC dX4_isExcluded_44 (by decide) ?_
            refine r_zret (pc := 45) hC hR dX4_isExcluded_45 (by first | rfl | exact b2i_z _ | decide) ?_ (by decide) (by decide)
            refine ⟨ret_t (exF_t hi2 ?_), rfl⟩
            show (fun e => decide (e ≠ d) && (decide (lock σ e ≠ 0) && (decide (lock σ e = lock σ d) && decide (0 < lft σ e)))) i = true
            simp only [Bool.and_eq_true, decide_eq_true_eq] at c30 ⊢
            exact ⟨c30.1, c30.2.1, c30.2.2, by omega⟩
  refine r_iconst (pc := 0) (nI 0) hC dX4_isExcluded_0 (by decide) ?_
  refine r_istore_n (pc := 1) hC dX4_isExcluded_1 (by decide) ?_
  refine at_lv (lv' := [(0, .ref x), (1, .ref (Y 1 d)), (2, .int (nI (0)))]) ⟨rfl, rfl, rfl, trivial⟩ ?_
  exact hlp (nd σ) 0 (by omega) (fun j hj => absurd hj (by omega))
