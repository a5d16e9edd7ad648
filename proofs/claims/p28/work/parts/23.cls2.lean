theorem sh_bit {r z : Nat} (hr : r ≤ 255) (hz : z ≤ 8) : (nI r >>> (nI z &&& 31)) &&& nI 1 = nI (r / 2 ^ z % 2) := bit_at (by omega) (by omega)
/-- minutes in z by the stays' first c, the last of them till u -/
def msS (σ : Sg) (b z : Nat) : Nat → Nat → Nat
  | 0, _ => 0
  | c + 1, u => (if syz σ b c = z then u - sys σ b c else 0) + msS σ b z c (sys σ b c)
theorem InvS.mono {σ : Sg} {n b : Nat} (h : InvS σ n) (hb : b < nb σ) : ∀ i j, i ≤ j → j < ns σ b → sys σ b i ≤ sys σ b j := by
  intro i j
  induction j with
  | zero => intro h1 _; rw [show i = 0 by omega]; exact Nat.le_refl _
  | succ j ih =>
    intro h1 h2
    rcases Nat.lt_or_ge j i with q | q
    · rw [show i = j + 1 by omega]; exact Nat.le_refl _
    · have h3 := (h b hb).2.2.2.1 j h2
      have h4 := ih q (by omega)
      omega
theorem InvS.le {σ : Sg} {n b i : Nat} (h : InvS σ n) (hb : b < nb σ) (hi : i < ns σ b) : sys σ b i ≤ mi σ := Nat.le_trans (h.mono hb i (ns σ b - 1) (by omega) (by omega)) (h b hb).2.2.2.2.1
set_option maxHeartbeats 4000000 in
set_option maxRecDepth 100000 in
theorem ct_rights {l : Launch} {G : Ids} {S : Ps} {Y : Lay} {σ : Sg} {x b : Nat} (hfl : l.stackTraces = false) (hZ : RC G S Y σ x) (hV : InvC σ) (hb : b < nb σ) : Ct l (Cond.code yX0_rightsNow cX0_rightsNow 1 (some .int)) yX0_rightsNow rm_X0_rightsNow G [.ref (Y 2 b)] S (fun v S9 => v = some (.int (nI (rgs σ b))) ∧ S = S9) (fun _ _ => False) := by
  refine Ct.of hfl (by decide) (Nat.le_of_ble_eq_true rfl) (fun Γ V hC hR hT hI => ?_)
  by_cases hh : hst σ b = 0
  · skip
    first | refine r_aload_n (pc := 0) hC dX0_rightsNow_0 rfl ?_ | refine r_aload_nN (pc := 0) hC dX0_rightsNow_0 rfl ?_
    refine r_gf (pc := 1) (κ := 1) (j := 1) hC cls1 (by decide) kf_X0_29 (hZ.kb (by assumption)) (hZ.b1n hb hh) dX0_rightsNow_1 ?_
    refine r_ifnonnullN (pc := 4) hC dX0_rightsNow_4 ?_
    first | refine r_aload_n (pc := 7) hC dX0_rightsNow_7 rfl ?_ | refine r_aload_nN (pc := 7) hC dX0_rightsNow_7 rfl ?_
    refine r_gf (pc := 8) (κ := 1) (j := 4) hC cls1 (by decide) kf_X0_33 (hZ.kb (by assumption)) (hZ.b4 (by assumption)) dX0_rightsNow_8 ?_
    refine r_goto (pc := 11) (tgt := 21) hC dX0_rightsNow_11 (by decide) ?_
    refine r_iret (pc := 21) hC hR dX0_rightsNow_21 ?_ (by decide) (by decide)
    exact ⟨by unfold rgs; rw [if_pos hh], rfl⟩
  · skip
    first | refine r_aload_n (pc := 0) hC dX0_rightsNow_0 rfl ?_ | refine r_aload_nN (pc := 0) hC dX0_rightsNow_0 rfl ?_
    refine r_gf (pc := 1) (κ := 1) (j := 1) hC cls1 (by decide) kf_X0_29 (hZ.kb (by assumption)) (hZ.b1s hb hh) dX0_rightsNow_1 ?_
    refine r_ifnonnull (pc := 4) (tgt := 14) hC dX0_rightsNow_4 (by decide) ?_
    first | refine r_aload_n (pc := 14) hC dX0_rightsNow_14 rfl ?_ | refine r_aload_nN (pc := 14) hC dX0_rightsNow_14 rfl ?_
    refine r_gf (pc := 15) (κ := 1) (j := 1) hC cls1 (by decide) kf_X0_29 (hZ.kb (by assumption)) (hZ.b1s hb hh) dX0_rightsNow_15 ?_
    refine r_gf (pc := 18) (κ := 1) (j := 4) hC cls1 (by decide) kf_X0_33 (hZ.kb (hV.h hb hh)) (hZ.b4 (hV.h hb hh)) dX0_rightsNow_18 ?_
    refine r_iret (pc := 21) hC hR dX0_rightsNow_21 ?_ (by decide) (by decide)
    exact ⟨by unfold rgs; rw [if_neg hh], rfl⟩
set_option maxHeartbeats 4000000 in
set_option maxRecDepth 100000 in
theorem ct_hasR {l : Launch} {G : Ids} {S : Ps} {Y : Lay} {σ : Sg} {x b z : Nat} (hfl : l.stackTraces = false) (hZ : RC G S Y σ x) (hV : InvC σ) (hb : b < nb σ) (hz : z < nz σ) : Ct l (Cond.code yX0_hasRightFor cX0_hasRightFor 2 (some .boolean)) yX0_hasRightFor rm_X0_hasRightFor G [.ref (Y 2 b), .ref (Y 0 z)] S (fun v S9 => v = some (.int (b2i (hasR σ b z))) ∧ S = S9) (fun _ _ => False) := by
  refine Ct.of hfl (by decide) (Nat.le_of_ble_eq_true rfl) (fun Γ V hC hR hT hI => ?_)
  have hn := hV.n
  have hr8 := hV.r hb
  first | refine r_aload_n (pc := 0) hC dX0_hasRightFor_0 rfl ?_ | refine r_aload_nN (pc := 0) hC dX0_hasRightFor_0 rfl ?_
  refine r_gf (pc := 1) (κ := 4) (j := 0) hC cls4 (by decide) kf_X0_49 (hZ.kz (by assumption)) (hZ.z0 (by assumption)) dX0_hasRightFor_1 ?_
  first | refine rb_if_eq (pc := 4) (tgt := 22) hC dX0_hasRightFor_4 (by decide) (fun c4 => ?_) (fun c4 => ?_) | refine rn_if_eq (pc := 4) (tgt := 22) hC dX0_hasRightFor_4 (by decide) (by omega) (fun c4 => ?_) (fun c4 => ?_) | refine ri_if_eq (pc := 4) (tgt := 22) hC dX0_hasRightFor_4 (by decide) (fun c4 => ?_) (fun c4 => ?_)
  · -- taken
    refine r_iconst (pc := 22) (nI 1) hC dX0_hasRightFor_22 (by decide) ?_
    refine r_goto (pc := 23) (tgt := 27) hC dX0_hasRightFor_23 (by decide) ?_
    refine r_zret (pc := 27) hC hR dX0_hasRightFor_27 (by first | rfl | exact b2i_z _ | decide) ?_ (by decide) (by decide)
    exact ⟨ret_t (hasR_iff.mpr (Or.inl c4)), rfl⟩
  · -- not
    first | refine r_aload_n (pc := 7) hC dX0_hasRightFor_7 rfl ?_ | refine r_aload_nN (pc := 7) hC dX0_hasRightFor_7 rfl ?_
    refine r_callV (pc := 8) hC (ct_rights hC.fl hZ hV hb) kv_X0_52 cls1 (hZ.kb (by assumption)) rfl rfl (Nat.le_of_ble_eq_true rfl) ⟨by decide, by decide, by decide, by decide⟩ dX0_hasRightFor_8 (fun _ _ h => h.elim) (fun v8 S8 h8 => ?_)
    obtain ⟨rfl, rfl⟩ := h8
    first | refine r_aload_n (pc := 11) hC dX0_hasRightFor_11 rfl ?_ | refine r_aload_nN (pc := 11) hC dX0_hasRightFor_11 rfl ?_
    refine r_gf (pc := 12) (κ := 4) (j := 0) hC cls4 (by decide) kf_X0_49 (hZ.kz (by assumption)) (hZ.z0 (by assumption)) dX0_hasRightFor_12 ?_
    refine r_ishr (pc := 15) hC dX0_hasRightFor_15 ?_
    refine r_iconst (pc := 16) (nI 1) hC dX0_hasRightFor_16 (by decide) ?_
    refine r_iand (pc := 17) hC dX0_hasRightFor_17 ?_
    rw [sh_bit hr8 (by omega)]
    refine r_iconst (pc := 18) (nI 1) hC dX0_hasRightFor_18 (by decide) ?_
    first | refine rn_icmp_ne (pc := 19) (tgt := 26) hC dX0_hasRightFor_19 (by decide) (by omega) (by omega) (fun c19 => ?_) (fun c19 => ?_) | refine ri_icmp_ne (pc := 19) (tgt := 26) hC dX0_hasRightFor_19 (by decide) (fun c19 => ?_) (fun c19 => ?_)
    · -- taken
      refine r_iconst (pc := 26) (nI 0) hC dX0_hasRightFor_26 (by decide) ?_
      refine r_zret (pc := 27) hC hR dX0_hasRightFor_27 (by first | rfl | exact b2i_z _ | decide) ?_ (by decide) (by decide)
      exact ⟨ret_f (by rw [← Bool.not_eq_true, hasR_iff]; omega), rfl⟩
    · -- not
      refine r_iconst (pc := 22) (nI 1) hC dX0_hasRightFor_22 (by decide) ?_
      refine r_goto (pc := 23) (tgt := 27) hC dX0_hasRightFor_23 (by decide) ?_
      refine r_zret (pc := 27) hC hR dX0_hasRightFor_27 (by first | rfl | exact b2i_z _ | decide) ?_ (by decide) (by decide)
      exact ⟨ret_t (hasR_iff.mpr (Or.inr c19)), rfl⟩
set_option maxHeartbeats 4000000 in
set_option maxRecDepth 100000 in
theorem ct_tell {l : Launch} {G : Ids} {S : Ps} {Y : Lay} {σ : Sg} {x b w : Nat} (hfl : l.stackTraces = false) (hZ : RC G S Y σ x) (hV : InvC σ) (hb : b < nb σ) (hw : w < 5) : Ct l (Cond.code yX0_tell cX0_tell 2 (some .int)) yX0_tell rm_X0_tell G [.ref (Y 2 b), .int (nI w)] S (fun v S9 => v = some (.int (tel σ b w)) ∧ S = S9) (fun _ _ => False) := by
  refine Ct.of hfl (by decide) (Nat.le_of_ble_eq_true rfl) (fun Γ V hC hR hT hI => ?_)
  have hp := (hV.vb hb).1
  have hk1 := (hV.vb hb).2.2.2.2
  rcases (show w = 0 ∨ w = 1 ∨ w = 2 ∨ w = 3 ∨ w = 4 by omega) with rfl | rfl | rfl | rfl | rfl
  · skip
    refine r_iload_n (pc := 0) hC dX0_tell_0 rfl ?_
    refine r_tableIn (pc := 1) (off := 31) (tgt := 32) hC dX0_tell_1 (by decide) (by decide) (by decide) (by decide) ?_
    first | refine r_aload_n (pc := 32) hC dX0_tell_32 rfl ?_ | refine r_aload_nN (pc := 32) hC dX0_tell_32 rfl ?_
    refine r_gf (pc := 33) (κ := 1) (j := 3) hC cls1 (by decide) kf_X0_41 (hZ.kb (by assumption)) (hZ.b3 (by assumption)) dX0_tell_33 ?_
    refine r_gf (pc := 36) (κ := 3) (j := 0) hC cls3 (by decide) kf_X0_56 (hZ.c hb) (hZ.c0 hb) dX0_tell_36 ?_
    refine r_gf (pc := 39) (κ := 4) (j := 0) hC cls4 (by decide) kf_X0_49 (hZ.kz (by assumption)) (hZ.z0 (by assumption)) dX0_tell_39 ?_
    refine r_iret (pc := 42) hC hR dX0_tell_42 ?_ (by decide) (by decide)
    exact ⟨rfl, rfl⟩
  · skip
    refine r_iload_n (pc := 0) hC dX0_tell_0 rfl ?_
    refine r_tableIn (pc := 1) (off := 42) (tgt := 43) hC dX0_tell_1 (by decide) (by decide) (by decide) (by decide) ?_
    first | refine r_aload_n (pc := 43) hC dX0_tell_43 rfl ?_ | refine r_aload_nN (pc := 43) hC dX0_tell_43 rfl ?_
    refine r_callV (pc := 44) hC (ct_rights hC.fl hZ hV hb) kv_X0_52 cls1 (hZ.kb (by assumption)) rfl rfl (Nat.le_of_ble_eq_true rfl) ⟨by decide, by decide, by decide, by decide⟩ dX0_tell_44 (fun _ _ h => h.elim) (fun v44 S44 h44 => ?_)
    obtain ⟨rfl, rfl⟩ := h44
    refine r_iret (pc := 47) hC hR dX0_tell_47 ?_ (by decide) (by decide)
    exact ⟨rfl, rfl⟩
  · skip
    by_cases hh : hst σ b = 0
    · skip
      refine r_iload_n (pc := 0) hC dX0_tell_0 rfl ?_
      refine r_tableIn (pc := 1) (off := 47) (tgt := 48) hC dX0_tell_1 (by decide) (by decide) (by decide) (by decide) ?_
      first | refine r_aload_n (pc := 48) hC dX0_tell_48 rfl ?_ | refine r_aload_nN (pc := 48) hC dX0_tell_48 rfl ?_
      refine r_gf (pc := 49) (κ := 1) (j := 1) hC cls1 (by decide) kf_X0_29 (hZ.kb (by assumption)) (hZ.b1n hb hh) dX0_tell_49 ?_
      refine r_ifnonnullN (pc := 52) hC dX0_tell_52 ?_
      refine r_iconst (pc := 55) (-1) hC dX0_tell_55 (by decide) ?_
      refine r_goto (pc := 56) (tgt := 66) hC dX0_tell_56 (by decide) ?_
      refine r_iret (pc := 66) hC hR dX0_tell_66 ?_ (by decide) (by decide)
      exact ⟨by show _ = some (Value.int (if hst σ b = 0 then -1 else nI (hst σ b - 1))); rw [if_pos hh], rfl⟩
    · skip
      refine r_iload_n (pc := 0) hC dX0_tell_0 rfl ?_
      refine r_tableIn (pc := 1) (off := 47) (tgt := 48) hC dX0_tell_1 (by decide) (by decide) (by decide) (by decide) ?_
      first | refine r_aload_n (pc := 48) hC dX0_tell_48 rfl ?_ | refine r_aload_nN (pc := 48) hC dX0_tell_48 rfl ?_
      refine r_gf (pc := 49) (κ := 1) (j := 1) hC cls1 (by decide) kf_X0_29 (hZ.kb (by assumption)) (hZ.b1s hb hh) dX0_tell_49 ?_
      refine r_ifnonnull (pc := 52) (tgt := 59) hC dX0_tell_52 (by decide) ?_
      first | refine r_aload_n (pc := 59) hC dX0_tell_59 rfl ?_ | refine r_aload_nN (pc := 59) hC dX0_tell_59 rfl ?_
      refine r_gf (pc := 60) (κ := 1) (j := 1) hC cls1 (by decide) kf_X0_29 (hZ.kb (by assumption)) (hZ.b1s hb hh) dX0_tell_60 ?_
      refine r_gf (pc := 63) (κ := 1) (j := 0) hC cls1 (by decide) kf_X0_26 (hZ.kb (hV.h hb hh)) (hZ.b0 (hV.h hb hh)) dX0_tell_63 ?_
      refine r_iret (pc := 66) hC hR dX0_tell_66 ?_ (by decide) (by decide)
      exact ⟨by show _ = some (Value.int (if hst σ b = 0 then -1 else nI (hst σ b - 1))); rw [if_neg hh], rfl⟩
  · skip
    refine r_iload_n (pc := 0) hC dX0_tell_0 rfl ?_
    refine r_tableIn (pc := 1) (off := 66) (tgt := 67) hC dX0_tell_1 (by decide) (by decide) (by decide) (by decide) ?_
    first | refine r_aload_n (pc := 67) hC dX0_tell_67 rfl ?_ | refine r_aload_nN (pc := 67) hC dX0_tell_67 rfl ?_
    refine r_gf (pc := 68) (κ := 1) (j := 5) hC cls1 (by decide) kf_X0_18 (hZ.kb (by assumption)) (hZ.b5 (by assumption)) dX0_tell_68 ?_
    first | refine rb_if_eq (pc := 71) (tgt := 78) hC dX0_tell_71 (by decide) (fun c71 => ?_) (fun c71 => ?_) | refine rn_if_eq (pc := 71) (tgt := 78) hC dX0_tell_71 (by decide) (by omega) (fun c71 => ?_) (fun c71 => ?_) | refine ri_if_eq (pc := 71) (tgt := 78) hC dX0_tell_71 (by decide) (fun c71 => ?_) (fun c71 => ?_)
    · -- taken
      refine r_iconst (pc := 78) (nI 0) hC dX0_tell_78 (by decide) ?_
      refine r_iret (pc := 79) hC hR dX0_tell_79 ?_ (by decide) (by decide)
      exact ⟨by show _ = some (Value.int (nI (blk σ b))); rw [c71], rfl⟩
    · -- not
      refine r_iconst (pc := 74) (nI 1) hC dX0_tell_74 (by decide) ?_
      refine r_goto (pc := 75) (tgt := 79) hC dX0_tell_75 (by decide) ?_
      refine r_iret (pc := 79) hC hR dX0_tell_79 ?_ (by decide) (by decide)
      exact ⟨by show _ = some (Value.int (nI (blk σ b))); rw [show blk σ b = 1 by omega], rfl⟩
  · skip
    refine r_iload_n (pc := 0) hC dX0_tell_0 rfl ?_
    refine r_tableOut (pc := 1) (tgt := 80) hC dX0_tell_1 (by decide) (by decide) ?_
    first | refine r_aload_n (pc := 80) hC dX0_tell_80 rfl ?_ | refine r_aload_nN (pc := 80) hC dX0_tell_80 rfl ?_
    refine r_gf (pc := 81) (κ := 1) (j := 6) hC cls1 (by decide) kf_X0_22 (hZ.kb (by assumption)) (hZ.b6 (by assumption)) dX0_tell_81 ?_
    refine r_iret (pc := 84) hC hR dX0_tell_84 ?_ (by decide) (by decide)
    exact ⟨rfl, rfl⟩
set_option maxHeartbeats 4000000 in
set_option maxRecDepth 100000 in
theorem ct_nohost {l : Launch} {G : Ids} {S : Ps} {Y : Lay} {σ : Sg} {x b z : Nat} (hfl : l.stackTraces = false) (hZ : RC G S Y σ x) (hV : InvC σ) (hb : b < nb σ) (hz : z < nz σ) : Ct l (Cond.code yX0_wouldLackHost cX0_wouldLackHost 4 (some .boolean)) yX0_wouldLackHost rm_X0_wouldLackHost G [.ref (Y 2 b), .ref (Y 0 z), .ref (Y 0 0)] S (fun v S9 => v = some (.int (b2i (noHost σ b z))) ∧ S = S9) (fun _ _ => False) := by
  refine Ct.of hfl (by decide) (Nat.le_of_ble_eq_true rfl) (fun Γ V hC hR hT hI => ?_)
  by_cases hh : hst σ b = 0
  · skip
    have hn := hV.n
    have hp := (hV.vb hb).1
    first | refine r_aload_n (pc := 0) hC dX0_wouldLackHost_0 rfl ?_ | refine r_aload_nN (pc := 0) hC dX0_wouldLackHost_0 rfl ?_
    refine r_gf (pc := 1) (κ := 1) (j := 1) hC cls1 (by decide) kf_X0_29 (hZ.kb (by assumption)) (hZ.b1n hb hh) dX0_wouldLackHost_1 ?_
    refine r_ifnullN (pc := 4) (tgt := 12) hC dX0_wouldLackHost_4 (by decide) ?_
    refine r_iconst (pc := 12) (nI 0) hC dX0_wouldLackHost_12 (by decide) ?_
    refine r_zret (pc := 13) hC hR dX0_wouldLackHost_13 (by first | rfl | exact b2i_z _ | decide) ?_ (by decide) (by decide)
    exact ⟨ret_f (by unfold noHost; simp [hh]), rfl⟩
  · skip
    have hn := hV.n
    have hp := (hV.vb hb).1
    have hp2 := (hV.vb (hV.h hb hh)).1
    first | refine r_aload_n (pc := 0) hC dX0_wouldLackHost_0 rfl ?_ | refine r_aload_nN (pc := 0) hC dX0_wouldLackHost_0 rfl ?_
    refine r_gf (pc := 1) (κ := 1) (j := 1) hC cls1 (by decide) kf_X0_29 (hZ.kb (by assumption)) (hZ.b1s hb hh) dX0_wouldLackHost_1 ?_
    refine r_ifnull (pc := 4) hC dX0_wouldLackHost_4 ?_
    first | refine r_aload_n (pc := 7) hC dX0_wouldLackHost_7 rfl ?_ | refine r_aload_nN (pc := 7) hC dX0_wouldLackHost_7 rfl ?_
    first | refine r_aload_n (pc := 8) hC dX0_wouldLackHost_8 rfl ?_ | refine r_aload_nN (pc := 8) hC dX0_wouldLackHost_8 rfl ?_
    refine r_acmp_ne (pc := 9) (tgt := 14) hC dX0_wouldLackHost_9 (by decide) (fun c9 => ?_) (fun c9 => ?_)
    · -- taken
      first | refine r_aload_n (pc := 14) hC dX0_wouldLackHost_14 rfl ?_ | refine r_aload_nN (pc := 14) hC dX0_wouldLackHost_14 rfl ?_
      refine r_gf (pc := 15) (κ := 1) (j := 1) hC cls1 (by decide) kf_X0_29 (hZ.kb (by assumption)) (hZ.b1s hb hh) dX0_wouldLackHost_15 ?_
      refine r_gf (pc := 18) (κ := 1) (j := 3) hC cls1 (by decide) kf_X0_41 (hZ.kb (hV.h hb hh)) (hZ.b3 (hV.h hb hh)) dX0_wouldLackHost_18 ?_
      refine r_gf (pc := 21) (κ := 3) (j := 0) hC cls3 (by decide) kf_X0_56 (hZ.c (hV.h hb hh)) (hZ.c0 (hV.h hb hh)) dX0_wouldLackHost_21 ?_
      first | refine r_astore_n (pc := 24) hC dX0_wouldLackHost_24 (by decide) ?_ | refine r_astore_nN (pc := 24) hC dX0_wouldLackHost_24 (by decide) ?_
      first | refine r_aload_n (pc := 25) hC dX0_wouldLackHost_25 rfl ?_ | refine r_aload_nN (pc := 25) hC dX0_wouldLackHost_25 rfl ?_
      first | refine r_aload_n (pc := 26) hC dX0_wouldLackHost_26 rfl ?_ | refine r_aload_nN (pc := 26) hC dX0_wouldLackHost_26 rfl ?_
      refine r_gf (pc := 27) (κ := 1) (j := 3) hC cls1 (by decide) kf_X0_41 (hZ.kb (by assumption)) (hZ.b3 (by assumption)) dX0_wouldLackHost_27 ?_
      refine r_gf (pc := 30) (κ := 3) (j := 0) hC cls3 (by decide) kf_X0_56 (hZ.c hb) (hZ.c0 hb) dX0_wouldLackHost_30 ?_
      refine r_acmp_eq (pc := 33) (tgt := 45) hC dX0_wouldLackHost_33 (by decide) (fun c33 => ?_) (fun c33 => ?_)
      · -- taken
        refine r_iconst (pc := 45) (nI 0) hC dX0_wouldLackHost_45 (by decide) ?_
        refine r_zret (pc := 46) hC hR dX0_wouldLackHost_46 (by first | rfl | exact b2i_z _ | decide) ?_ (by decide) (by decide)
        have e1 := (hZ.zi hp2 hp).mp c33
        exact ⟨ret_f (by unfold noHost; simp [e1]), rfl⟩
      · -- not
        first | refine r_aload_n (pc := 36) hC dX0_wouldLackHost_36 rfl ?_ | refine r_aload_nN (pc := 36) hC dX0_wouldLackHost_36 rfl ?_
        first | refine r_aload_n (pc := 37) hC dX0_wouldLackHost_37 rfl ?_ | refine r_aload_nN (pc := 37) hC dX0_wouldLackHost_37 rfl ?_
        refine r_acmp_eq (pc := 38) (tgt := 45) hC dX0_wouldLackHost_38 (by decide) (fun c38 => ?_) (fun c38 => ?_)
        · -- taken
          refine r_iconst (pc := 45) (nI 0) hC dX0_wouldLackHost_45 (by decide) ?_
          refine r_zret (pc := 46) hC hR dX0_wouldLackHost_46 (by first | rfl | exact b2i_z _ | decide) ?_ (by decide) (by decide)
          have e1 := (hZ.zi hp2 hz).mp c38
          exact ⟨ret_f (by unfold noHost; simp [e1]), rfl⟩
        · -- not
          refine r_iconst (pc := 41) (nI 1) hC dX0_wouldLackHost_41 (by decide) ?_
          refine r_goto (pc := 42) (tgt := 46) hC dX0_wouldLackHost_42 (by decide) ?_
          refine r_zret (pc := 46) hC hR dX0_wouldLackHost_46 (by first | rfl | exact b2i_z _ | decide) ?_ (by decide) (by decide)
          have e0 : ¬ z = 0 := fun q => c9 ((hZ.zi hz hn.1).mpr q)
          have e1 : ¬ plc σ (hst σ b - 1) = plc σ b := fun q => c33 ((hZ.zi hp2 hp).mpr q)
          have e2 : ¬ plc σ (hst σ b - 1) = z := fun q => c38 ((hZ.zi hp2 hz).mpr q)
          exact ⟨ret_t (by unfold noHost; simp [hh, e0, e1, e2]), rfl⟩
    · -- not
      refine r_iconst (pc := 12) (nI 0) hC dX0_wouldLackHost_12 (by decide) ?_
      refine r_zret (pc := 13) hC hR dX0_wouldLackHost_13 (by first | rfl | exact b2i_z _ | decide) ?_ (by decide) (by decide)
      have e1 := (hZ.zi hz hn.1).mp c9
      exact ⟨ret_f (by unfold noHost; simp [e1]), rfl⟩
set_option maxHeartbeats 4000000 in
set_option maxRecDepth 100000 in
theorem ct_zoneAt {l : Launch} {G : Ids} {S : Ps} {Y : Lay} {σ : Sg} {x b t n : Nat} (hfl : l.stackTraces = false) (hZ : RC G S Y σ x) (hV : InvC σ) (hb : b < nb σ) (hS : InvS σ n) (hn5 : n ≤ 512) (ht : t ≤ 100000) : Ct l (Cond.code yX0_zoneAtEndOf cX0_zoneAtEndOf 4 (some (.object "BadgeZones$Zone"))) yX0_zoneAtEndOf rm_X0_zoneAtEndOf G [.ref (Y 2 b), .int (nI t)] S (fun v S9 => v = some (.ref (Y 0 (lkS σ b t (ns σ b)))) ∧ S = S9) (fun _ _ => False) := by
  refine Ct.of hfl (by decide) (Nat.le_of_ble_eq_true rfl) (fun Γ V hC hR hT hI => ?_)
  have hS0 := hS b hb
  suffices hlp : ∀ c, 1 ≤ c → c ≤ ns σ b → lkS σ b t (ns σ b) = lkS σ b t c → At Γ G V 0 0 S [(0, .ref (Y 2 b)), (1, .int (nI t)), (2, .int (dn c))] 10 [] by
    first | refine r_aload_n (pc := 0) hC dX0_zoneAtEndOf_0 rfl ?_ | refine r_aload_nN (pc := 0) hC dX0_zoneAtEndOf_0 rfl ?_
    refine r_gf (pc := 1) (κ := 1) (j := 2) hC cls1 (by decide) kf_X0_12 (hZ.kb (by assumption)) (hZ.b2 (by assumption)) dX0_zoneAtEndOf_1 ?_
    refine r_callV (pc := 4) hC (ct_size hC.fl (hZ.lst hb)) kv_X0_63 cls0 (hZ.lst hb).1 rfl rfl (Nat.le_of_ble_eq_true rfl) ⟨by decide, by decide, by decide, by decide⟩ dX0_zoneAtEndOf_4 (fun _ _ h => h.elim) (fun v4 S4 h4 => ?_)
    obtain ⟨rfl, rfl⟩ := h4
    refine r_iconst (pc := 7) (nI 1) hC dX0_zoneAtEndOf_7 (by decide) ?_
    refine r_isub (pc := 8) hC dX0_zoneAtEndOf_8 ?_
    rw [dn_of]
    refine r_istore_n (pc := 9) hC dX0_zoneAtEndOf_9 (by decide) ?_
    refine at_lv (lv' := [(0, .ref (Y 2 b)), (1, .int (nI t)), (2, .int (dn (ns σ b)))]) ⟨rfl, rfl, rfl, trivial⟩ ?_
    exact hlp (ns σ b) (hZ.n1 hb) (Nat.le_refl _) rfl
  intro c
  induction c with
  | zero => intro h; omega
  | succ c ih =>
    intro h1 h2 h3
    have hc : c < ns σ b := h2
    have hbd := hS.le hb hc
    have hmm := hV.n
    refine r_iload_n (pc := 10) hC dX0_zoneAtEndOf_10 rfl ?_
    refine ri_if_lt (pc := 11) (tgt := 45) hC dX0_zoneAtEndOf_11 (by decide) (fun c11 => absurd c11 (by rw [show dn (c + 1) = nI c from rfl, nI_toInt (by omega)]; omega)) (fun c11 => ?_)
    first | refine r_aload_n (pc := 14) hC dX0_zoneAtEndOf_14 rfl ?_ | refine r_aload_nN (pc := 14) hC dX0_zoneAtEndOf_14 rfl ?_
    refine r_gf (pc := 15) (κ := 1) (j := 2) hC cls1 (by decide) kf_X0_12 (hZ.kb (by assumption)) (hZ.b2 (by assumption)) dX0_zoneAtEndOf_15 ?_
    refine r_iload_n (pc := 18) hC dX0_zoneAtEndOf_18 rfl ?_
    refine r_callV (pc := 19) hC (ct_get hC.fl (hZ.lst hb) hc) kv_X0_66 cls0 (hZ.lst hb).1 rfl rfl (Nat.le_of_ble_eq_true rfl) ⟨by decide, by decide, by decide, by decide⟩ dX0_zoneAtEndOf_19 (fun _ _ h => h.elim) (fun v19 S19 h19 => ?_)
    obtain ⟨rfl, rfl⟩ := h19
    refine r_cast (pc := 22) (κ := 3) hC cls3 kc_X0_36 (hZ.s hb hc) dX0_zoneAtEndOf_22 ?_
    first | refine r_astore_n (pc := 25) hC dX0_zoneAtEndOf_25 (by decide) ?_ | refine r_astore_nN (pc := 25) hC dX0_zoneAtEndOf_25 (by decide) ?_
    first | refine r_aload_n (pc := 26) hC dX0_zoneAtEndOf_26 rfl ?_ | refine r_aload_nN (pc := 26) hC dX0_zoneAtEndOf_26 rfl ?_
    refine r_gf (pc := 27) (κ := 3) (j := 1) hC cls3 (by decide) kf_X0_60 (hZ.s hb hc) (hZ.s1 hb hc) dX0_zoneAtEndOf_27 ?_
    refine r_iload_n (pc := 30) hC dX0_zoneAtEndOf_30 rfl ?_
    first | refine rn_icmp_gt (pc := 31) (tgt := 39) hC dX0_zoneAtEndOf_31 (by decide) (by omega) (by omega) (fun c31 => ?_) (fun c31 => ?_) | refine ri_icmp_gt (pc := 31) (tgt := 39) hC dX0_zoneAtEndOf_31 (by decide) (fun c31 => ?_) (fun c31 => ?_)
    · -- taken
      refine r_iinc (pc := 39) (dn c) hC dX0_zoneAtEndOf_39 rfl (dn_step c) (by decide) ?_
      refine r_goto (pc := 42) (tgt := 10) hC dX0_zoneAtEndOf_42 (by decide) ?_
      refine at_lv (lv' := [(0, .ref (Y 2 b)), (1, .int (nI t)), (2, .int (dn c))]) ⟨rfl, rfl, rfl, trivial⟩ ?_
      refine ih ?_ (by omega) (by rw [h3]; conv => lhs; unfold lkS; rw [if_neg (by omega)])
      rcases Nat.eq_zero_or_pos c with q | q
      · subst q; exact absurd hS0.2.2.1 (by omega)
      · exact q
    · -- not
      first | refine r_aload_n (pc := 34) hC dX0_zoneAtEndOf_34 rfl ?_ | refine r_aload_nN (pc := 34) hC dX0_zoneAtEndOf_34 rfl ?_
      refine r_gf (pc := 35) (κ := 3) (j := 0) hC cls3 (by decide) kf_X0_56 (hZ.s hb hc) (hZ.s0 hb hc) dX0_zoneAtEndOf_35 ?_
      refine r_aret (pc := 38) hC hR dX0_zoneAtEndOf_38 (by first | exact Or.inl ⟨_, rfl⟩ | exact Or.inr ⟨_, rfl⟩) (by first | exact Or.inl rfl | exact Or.inr ⟨_, rfl⟩) ?_ (by decide) (by decide)
      exact ⟨by rw [h3]; unfold lkS; rw [if_pos (by omega)], rfl⟩
set_option maxHeartbeats 4000000 in
set_option maxRecDepth 100000 in
theorem ct_minutes {l : Launch} {G : Ids} {S : Ps} {Y : Lay} {σ : Sg} {x b z n : Nat} (hfl : l.stackTraces = false) (hZ : RC G S Y σ x) (hV : InvC σ) (hb : b < nb σ) (hz : z < nz σ) (hS : InvS σ n) (hn5 : n ≤ 512) : Ct l (Cond.code yX0_minutesSpent cX0_minutesSpent 7 (some .int)) yX0_minutesSpent rm_X0_minutesSpent G [.ref (Y 2 b), .ref (Y 0 z), .int (nI (mi σ))] S (fun v S9 => v = some (.int (nI (msS σ b z (ns σ b) (mi σ)))) ∧ S = S9) (fun _ _ => False) := by
  refine Ct.of hfl (by decide) (Nat.le_of_ble_eq_true rfl) (fun Γ V hC hR hT hI => ?_)
  have hS0 := hS b hb
  suffices hlp : ∀ c a u, c ≤ ns σ b → (∀ i, i < c → sys σ b i ≤ u) → a + msS σ b z c u = msS σ b z (ns σ b) (mi σ) → At Γ G V 0 0 S [(0, .ref (Y 2 b)), (1, .ref (Y 0 z)), (3, .int (nI (a))), (4, .int (nI (u))), (5, .int (dn c))] 16 [] by
    refine r_iconst (pc := 0) (nI 0) hC dX0_minutesSpent_0 (by decide) ?_
    refine r_istore_n (pc := 1) hC dX0_minutesSpent_1 (by decide) ?_
    refine r_iload_n (pc := 2) hC dX0_minutesSpent_2 rfl ?_
    refine r_istore (pc := 3) hC dX0_minutesSpent_3 (by decide) ?_
    first | refine r_aload_n (pc := 5) hC dX0_minutesSpent_5 rfl ?_ | refine r_aload_nN (pc := 5) hC dX0_minutesSpent_5 rfl ?_
    refine r_gf (pc := 6) (κ := 1) (j := 2) hC cls1 (by decide) kf_X0_12 (hZ.kb (by assumption)) (hZ.b2 (by assumption)) dX0_minutesSpent_6 ?_
    refine r_callV (pc := 9) hC (ct_size hC.fl (hZ.lst hb)) kv_X0_63 cls0 (hZ.lst hb).1 rfl rfl (Nat.le_of_ble_eq_true rfl) ⟨by decide, by decide, by decide, by decide⟩ dX0_minutesSpent_9 (fun _ _ h => h.elim) (fun v9 S9 h9 => ?_)
    obtain ⟨rfl, rfl⟩ := h9
    refine r_iconst (pc := 12) (nI 1) hC dX0_minutesSpent_12 (by decide) ?_
    refine r_isub (pc := 13) hC dX0_minutesSpent_13 ?_
    rw [dn_of]
    refine r_istore (pc := 14) hC dX0_minutesSpent_14 (by decide) ?_
    refine at_lv (lv' := [(0, .ref (Y 2 b)), (1, .ref (Y 0 z)), (3, .int (nI (0))), (4, .int (nI (mi σ))), (5, .int (dn (ns σ b)))]) ⟨rfl, rfl, rfl, rfl, rfl, trivial⟩ ?_
    refine hlp (ns σ b) 0 (mi σ) (Nat.le_refl _) (fun i hi => hS.le hb (by omega)) (by rw [Nat.zero_add])
  intro c
  induction c with
  | zero =>
    intro a u _ _ h3
    refine r_iload (pc := 16) hC dX0_minutesSpent_16 rfl ?_
    refine ri_if_lt (pc := 18) (tgt := 68) hC dX0_minutesSpent_18 (by decide) (fun c18 => ?_) (fun c18 => absurd (show (dn 0).toInt < 0 by decide) c18)
    refine r_iload_n (pc := 68) hC dX0_minutesSpent_68 rfl ?_
    refine r_iret (pc := 69) hC hR dX0_minutesSpent_69 ?_ (by decide) (by decide)
    exact ⟨by rw [← h3]; rfl, rfl⟩
  | succ c ih =>
    intro a u h1 h2 h3
    have hc : c < ns σ b := h1
    have hu := h2 c (by omega)
    have hbd := hS.le hb hc
    have hmm := hV.n
    have hzz := hS0.2.2.2.2.2.1 c hc
    refine r_iload (pc := 16) hC dX0_minutesSpent_16 rfl ?_
    refine ri_if_lt (pc := 18) (tgt := 68) hC dX0_minutesSpent_18 (by decide) (fun c18 => absurd c18 (by rw [show dn (c + 1) = nI c from rfl, nI_toInt (by omega)]; omega)) (fun c18 => ?_)
    first | refine r_aload_n (pc := 21) hC dX0_minutesSpent_21 rfl ?_ | refine r_aload_nN (pc := 21) hC dX0_minutesSpent_21 rfl ?_
    refine r_gf (pc := 22) (κ := 1) (j := 2) hC cls1 (by decide) kf_X0_12 (hZ.kb (by assumption)) (hZ.b2 (by assumption)) dX0_minutesSpent_22 ?_
    refine r_iload (pc := 25) hC dX0_minutesSpent_25 rfl ?_
    refine r_callV (pc := 27) hC (ct_get hC.fl (hZ.lst hb) hc) kv_X0_66 cls0 (hZ.lst hb).1 rfl rfl (Nat.le_of_ble_eq_true rfl) ⟨by decide, by decide, by decide, by decide⟩ dX0_minutesSpent_27 (fun _ _ h => h.elim) (fun v27 S27 h27 => ?_)
    obtain ⟨rfl, rfl⟩ := h27
    refine r_cast (pc := 30) (κ := 3) hC cls3 kc_X0_36 (hZ.s hb hc) dX0_minutesSpent_30 ?_
    first | refine r_astore (pc := 33) hC dX0_minutesSpent_33 (by decide) ?_ | refine r_astoreN (pc := 33) hC dX0_minutesSpent_33 (by decide) ?_
    first | refine r_aload (pc := 35) hC dX0_minutesSpent_35 rfl ?_ | refine r_aloadN (pc := 35) hC dX0_minutesSpent_35 rfl ?_
    refine r_gf (pc := 37) (κ := 3) (j := 0) hC cls3 (by decide) kf_X0_56 (hZ.s hb hc) (hZ.s0 hb hc) dX0_minutesSpent_37 ?_
    first | refine r_aload_n (pc := 40) hC dX0_minutesSpent_40 rfl ?_ | refine r_aload_nN (pc := 40) hC dX0_minutesSpent_40 rfl ?_
    refine r_acmp_ne (pc := 41) (tgt := 55) hC dX0_minutesSpent_41 (by decide) (fun c41 => ?_) (fun c41 => ?_)
    · -- taken
      first | refine r_aload (pc := 55) hC dX0_minutesSpent_55 rfl ?_ | refine r_aloadN (pc := 55) hC dX0_minutesSpent_55 rfl ?_
      refine r_gf (pc := 57) (κ := 3) (j := 1) hC cls3 (by decide) kf_X0_60 (hZ.s hb hc) (hZ.s1 hb hc) dX0_minutesSpent_57 ?_
      refine r_istore (pc := 60) hC dX0_minutesSpent_60 (by decide) ?_
      refine r_iinc (pc := 62) (dn c) hC dX0_minutesSpent_62 rfl (dn_step c) (by decide) ?_
      refine r_goto (pc := 65) (tgt := 16) hC dX0_minutesSpent_65 (by decide) ?_
      have e1 : ¬ syz σ b c = z := fun q => c41 ((hZ.zi hzz hz).mpr q)
      refine at_lv (lv' := [(0, .ref (Y 2 b)), (1, .ref (Y 0 z)), (3, .int (nI (a))), (4, .int (nI (sys σ b c))), (5, .int (dn c))]) ⟨rfl, rfl, rfl, rfl, rfl, trivial⟩ ?_
      refine ih _ _ (by omega) (fun i hi => hS.mono hb i c (by omega) hc) ?_
      rw [← h3]
      conv => rhs; unfold msS; rw [if_neg e1]
      omega
    · -- not
      refine r_iload_n (pc := 44) hC dX0_minutesSpent_44 rfl ?_
      refine r_iload (pc := 45) hC dX0_minutesSpent_45 rfl ?_
      first | refine r_aload (pc := 47) hC dX0_minutesSpent_47 rfl ?_ | refine r_aloadN (pc := 47) hC dX0_minutesSpent_47 rfl ?_
      refine r_gf (pc := 49) (κ := 3) (j := 1) hC cls3 (by decide) kf_X0_60 (hZ.s hb hc) (hZ.s1 hb hc) dX0_minutesSpent_49 ?_
      first | refine rn_isub (pc := 52) hC dX0_minutesSpent_52 (by omega) ?_ | refine r_isub (pc := 52) hC dX0_minutesSpent_52 ?_
      first | refine rn_iadd (pc := 53) hC dX0_minutesSpent_53 ?_ | refine r_iadd (pc := 53) hC dX0_minutesSpent_53 ?_
      refine r_istore_n (pc := 54) hC dX0_minutesSpent_54 (by decide) ?_
      first | refine r_aload (pc := 55) hC dX0_minutesSpent_55 rfl ?_ | refine r_aloadN (pc := 55) hC dX0_minutesSpent_55 rfl ?_
      refine r_gf (pc := 57) (κ := 3) (j := 1) hC cls3 (by decide) kf_X0_60 (hZ.s hb hc) (hZ.s1 hb hc) dX0_minutesSpent_57 ?_
      refine r_istore (pc := 60) hC dX0_minutesSpent_60 (by decide) ?_
      refine r_iinc (pc := 62) (dn c) hC dX0_minutesSpent_62 rfl (dn_step c) (by decide) ?_
      refine r_goto (pc := 65) (tgt := 16) hC dX0_minutesSpent_65 (by decide) ?_
      have e1 := (hZ.zi hzz hz).mp c41
      refine at_lv (lv' := [(0, .ref (Y 2 b)), (1, .ref (Y 0 z)), (3, .int (nI (a + (u - sys σ b c)))), (4, .int (nI (sys σ b c))), (5, .int (dn c))]) ⟨rfl, rfl, rfl, rfl, rfl, trivial⟩ ?_
      refine ih _ _ (by omega) (fun i hi => hS.mono hb i c (by omega) hc) ?_
      rw [← h3]
      conv => rhs; unfold msS; rw [if_pos e1]
      omega
