theorem MS.dst {S : Ps} {Y : Lay} {σ : Sg} {w : Nat → Bool} {t : Nat} (h : MS S Y σ w (mlS σ w t (nz σ))) (hV : InvC σ) : MS S Y σ w (fun z => dst σ w z t) := fun z hz => by
  have h1 := h z hz
  rw [ml_dst hV hz] at h1
  exact h1
theorem oth_stp {σ : Sg} {d a b : Nat} (hd : d < nd σ) (h : oth σ d a = b + 1) : stp σ okA a b ∧ stp σ okA b a := by
  unfold oth at h
  split at h
  · exact ⟨⟨d, hd, Or.inl ⟨by assumption, by omega⟩, rfl⟩, ⟨d, hd, Or.inr ⟨by omega, by assumption⟩, rfl⟩⟩
  · split at h
    · exact ⟨⟨d, hd, Or.inr ⟨by assumption, by omega⟩, rfl⟩, ⟨d, hd, Or.inl ⟨by omega, by assumption⟩, rfl⟩⟩
    · exact absurd h (by omega)
theorem dI_lt {σ : Sg} {g p : Nat} (hV : InvC σ) (hg : g < nz σ) (hp : p < nz σ) (h : stp σ okA p g ∧ stp σ okA g p) : (dI (dst σ okA g 0)).toInt < (dI (dst σ okA p 0)).toInt ↔ dst σ okA g 0 < dst σ okA p 0 := by
  rw [dI_tI dst_le, dI_tI dst_le]
  have h1 := dst_adj (w := okA) (t := 0) hV hg h.1
  have h2 := dst_adj (w := okA) (t := 0) hV hp h.2
  have l1 := dst_le (σ := σ) (w := okA) (z := g) (t := 0)
  have l2 := dst_le (σ := σ) (w := okA) (z := p) (t := 0)
  by_cases c : dst σ okA g 0 = 9
  · by_cases c2 : dst σ okA p 0 = 9
    · rw [if_pos c, if_pos c2]; omega
    · exact absurd c (h2 c2).1
  · have := (h1 c).1
    rw [if_neg c, if_neg this]; omega
theorem at_gen {Γ : Cx} {G : Ids} {V : Vx} {k n : Nat} {S : Ps} {lv : List (Nat × Value)} {pc : Nat} {st : List Value} (P : Ps → Prop) (h : P S) (kk : ∀ S', P S' → At Γ G V k n S' lv pc st) : At Γ G V k n S lv pc st := kk S h
def lstI (G : Ids) (S : Ps) (a : Nat) : Ps := sF (sF (nwO S a 0) 0 a (.int (nI 0))) 1 a (.ref G.2.2.1)
theorem lstI_fr {G : Ids} {S : Ps} {a : Nat} (ha : a ∉ pL S) : Fr (fun _ => False) S (lstI G S a) := fr_newO ((Fr.sF (P := fun q => q = a) (fun _ => Eq.refl _)).trans (Fr.sF (P := fun q => q = a) (fun _ => Eq.refl _))) ha
theorem lstI_ok {G : Ids} {S : Ps} {a κ : Nat} {f : Nat → Nat} : LsOK G (lstI G S a) κ a G.2.2.1 0 f := by
  refine ⟨isK_sF.mpr (isK_sF.mpr isK_nwO'), ?_, pF_sF_eq _ _ _ _, ⟨nI 0, ?_⟩, by decide, Or.inl ⟨rfl, rfl⟩⟩
  · unfold lstI; rw [pF_sF_j _ _ _ _ (by decide), pF_sF_j _ _ _ _ (by decide), pF_nwO, if_pos rfl]; rfl
  · unfold lstI; rw [pF_sF_j _ _ _ _ (by decide)]; exact pF_sF_eq _ _ _ _
abbrev rm_X4_answerInPeace : Room := { frames := 5, cells := 0, slots := 0, locals := 108 }
set_option maxHeartbeats 4000000 in
set_option maxRecDepth 100000 in
theorem ct_ansP {l : Launch} {G : Ids} {S : Ps} {Y : Lay} {σ : Sg} {x b d z : Nat} (hfl : l.stackTraces = false) (hZ : RC G S Y σ x) (hV : InvC σ) (hb : b < nb σ) (hd : d < nd σ) (hz : z < nz σ) : Ct l (Cond.code yX4_answerInPeace cX4_answerInPeace 4 (some .int)) yX4_answerInPeace rm_X4_answerInPeace G [.ref x, .ref (Y 2 b), .ref (Y 1 d), .ref (Y 0 z)] S (fun v S9 => v = some (.int (nI (ansP σ b d z))) ∧ S = S9) (fun _ _ => False) := by
  refine Ct.of hfl (by decide) (Nat.le_of_ble_eq_true rfl) (fun Γ V hC hR hT hI => ?_)
  have hz2 := hV.vz hz
  have hp10 := popc_le _ (insB_lt hV.n.2.2.2.1 z)
  first | refine r_aload_n (pc := 0) hC dX4_answerInPeace_0 rfl ?_ | refine r_aload_nN (pc := 0) hC dX4_answerInPeace_0 rfl ?_
  first | refine r_aload_n (pc := 1) hC dX4_answerInPeace_1 rfl ?_ | refine r_aload_nN (pc := 1) hC dX4_answerInPeace_1 rfl ?_
  refine r_callV (pc := 2) hC (ct_hasR hC.fl hZ hV hb hz) kv_X4_247 cls1 (hZ.kb (by assumption)) rfl rfl (Nat.le_of_ble_eq_true rfl) ⟨by decide, by decide, by decide, by decide⟩ dX4_answerInPeace_2 (fun _ _ h => h.elim) (fun v2 S2 h2 => ?_)
  obtain ⟨rfl, rfl⟩ := h2
  first | refine rb_if_ne (pc := 5) (tgt := 10) hC dX4_answerInPeace_5 (by decide) (fun c5 => ?_) (fun c5 => ?_) | refine rn_if_ne (pc := 5) (tgt := 10) hC dX4_answerInPeace_5 (by decide) (by omega) (fun c5 => ?_) (fun c5 => ?_) | refine ri_if_ne (pc := 5) (tgt := 10) hC dX4_answerInPeace_5 (by decide) (fun c5 => ?_) (fun c5 => ?_)
  · -- taken
    first | refine r_aload_n (pc := 10) hC dX4_answerInPeace_10 rfl ?_ | refine r_aload_nN (pc := 10) hC dX4_answerInPeace_10 rfl ?_
    first | refine r_aload_n (pc := 11) hC dX4_answerInPeace_11 rfl ?_ | refine r_aload_nN (pc := 11) hC dX4_answerInPeace_11 rfl ?_
    refine r_gf (pc := 12) (κ := 5) (j := 4) hC cls5 (by decide) kf_X4_31 hZ.kx hZ.x4 dX4_answerInPeace_12 ?_
    refine r_callV (pc := 15) hC (ct_hours hC.fl hZ hV hz) kv_X4_102 cls4 (hZ.kz (by assumption)) rfl rfl (Nat.le_of_ble_eq_true rfl) ⟨by decide, by decide, by decide, by decide⟩ dX4_answerInPeace_15 (fun _ _ h => h.elim) (fun v15 S15 h15 => ?_)
    obtain ⟨rfl, rfl⟩ := h15
    first | refine rb_if_ne (pc := 18) (tgt := 23) hC dX4_answerInPeace_18 (by decide) (fun c18 => ?_) (fun c18 => ?_) | refine rn_if_ne (pc := 18) (tgt := 23) hC dX4_answerInPeace_18 (by decide) (by omega) (fun c18 => ?_) (fun c18 => ?_) | refine ri_if_ne (pc := 18) (tgt := 23) hC dX4_answerInPeace_18 (by decide) (fun c18 => ?_) (fun c18 => ?_)
    · -- taken
      first | refine r_aload_n (pc := 23) hC dX4_answerInPeace_23 rfl ?_ | refine r_aload_nN (pc := 23) hC dX4_answerInPeace_23 rfl ?_
      first | refine r_aload_n (pc := 24) hC dX4_answerInPeace_24 rfl ?_ | refine r_aload_nN (pc := 24) hC dX4_answerInPeace_24 rfl ?_
      refine r_callV (pc := 25) hC (ct_countIn hC.fl hZ hV hz) kv_X4_76 cls5 hZ.kx rfl rfl (Nat.le_of_ble_eq_true rfl) ⟨by decide, by decide, by decide, by decide⟩ dX4_answerInPeace_25 (fun _ _ h => h.elim) (fun v25 S25 h25 => ?_)
      obtain ⟨rfl, rfl⟩ := h25
      first | refine r_aload_n (pc := 28) hC dX4_answerInPeace_28 rfl ?_ | refine r_aload_nN (pc := 28) hC dX4_answerInPeace_28 rfl ?_
      refine r_gf (pc := 29) (κ := 4) (j := 1) hC cls4 (by decide) kf_X4_67 (hZ.kz (by assumption)) (hZ.z1 (by assumption)) dX4_answerInPeace_29 ?_
      first | refine rn_icmp_lt (pc := 32) (tgt := 37) hC dX4_answerInPeace_32 (by decide) (by omega) (by omega) (fun c32 => ?_) (fun c32 => ?_) | refine ri_icmp_lt (pc := 32) (tgt := 37) hC dX4_answerInPeace_32 (by decide) (fun c32 => ?_) (fun c32 => ?_)
      · -- taken
        first | refine r_aload_n (pc := 37) hC dX4_answerInPeace_37 rfl ?_ | refine r_aload_nN (pc := 37) hC dX4_answerInPeace_37 rfl ?_
        first | refine r_aload_n (pc := 38) hC dX4_answerInPeace_38 rfl ?_ | refine r_aload_nN (pc := 38) hC dX4_answerInPeace_38 rfl ?_
        refine r_callV (pc := 39) hC (ct_isExcl hC.fl hZ hV hd) kv_X4_250 cls5 hZ.kx rfl rfl (Nat.le_of_ble_eq_true rfl) ⟨by decide, by decide, by decide, by decide⟩ dX4_answerInPeace_39 (fun _ _ h => h.elim) (fun v39 S39 h39 => ?_)
        obtain ⟨rfl, rfl⟩ := h39
        first | refine rb_if_eq (pc := 42) (tgt := 47) hC dX4_answerInPeace_42 (by decide) (fun c42 => ?_) (fun c42 => ?_) | refine rn_if_eq (pc := 42) (tgt := 47) hC dX4_answerInPeace_42 (by decide) (by omega) (fun c42 => ?_) (fun c42 => ?_) | refine ri_if_eq (pc := 42) (tgt := 47) hC dX4_answerInPeace_42 (by decide) (fun c42 => ?_) (fun c42 => ?_)
        · -- taken
          first | refine r_aload_n (pc := 47) hC dX4_answerInPeace_47 rfl ?_ | refine r_aload_nN (pc := 47) hC dX4_answerInPeace_47 rfl ?_
          first | refine r_aload_n (pc := 48) hC dX4_answerInPeace_48 rfl ?_ | refine r_aload_nN (pc := 48) hC dX4_answerInPeace_48 rfl ?_
          first | refine r_aload_n (pc := 49) hC dX4_answerInPeace_49 rfl ?_ | refine r_aload_nN (pc := 49) hC dX4_answerInPeace_49 rfl ?_
          refine r_gf (pc := 50) (κ := 5) (j := 0) hC cls5 (by decide) kf_X4_14 hZ.kx hZ.x0 dX4_answerInPeace_50 ?_
          refine r_callV (pc := 53) hC (ct_nohost hC.fl hZ hV hb hz) kv_X4_254 cls1 (hZ.kb (by assumption)) rfl rfl (Nat.le_of_ble_eq_true rfl) ⟨by decide, by decide, by decide, by decide⟩ dX4_answerInPeace_53 (fun _ _ h => h.elim) (fun v53 S53 h53 => ?_)
          obtain ⟨rfl, rfl⟩ := h53
          first | refine rb_if_eq (pc := 56) (tgt := 62) hC dX4_answerInPeace_56 (by decide) (fun c56 => ?_) (fun c56 => ?_) | refine rn_if_eq (pc := 56) (tgt := 62) hC dX4_answerInPeace_56 (by decide) (by omega) (fun c56 => ?_) (fun c56 => ?_) | refine ri_if_eq (pc := 56) (tgt := 62) hC dX4_answerInPeace_56 (by decide) (fun c56 => ?_) (fun c56 => ?_)
          · -- taken
            first | refine r_aload_n (pc := 62) hC dX4_answerInPeace_62 rfl ?_ | refine r_aload_nN (pc := 62) hC dX4_answerInPeace_62 rfl ?_
            first | refine r_aload_n (pc := 63) hC dX4_answerInPeace_63 rfl ?_ | refine r_aload_nN (pc := 63) hC dX4_answerInPeace_63 rfl ?_
            refine r_callV (pc := 64) hC (ct_leaves hC.fl hZ hV hb) kv_X4_258 cls5 hZ.kx rfl rfl (Nat.le_of_ble_eq_true rfl) ⟨by decide, by decide, by decide, by decide⟩ dX4_answerInPeace_64 (fun _ _ h => h.elim) (fun v64 S64 h64 => ?_)
            obtain ⟨rfl, rfl⟩ := h64
            first | refine rb_if_eq (pc := 67) (tgt := 73) hC dX4_answerInPeace_67 (by decide) (fun c67 => ?_) (fun c67 => ?_) | refine rn_if_eq (pc := 67) (tgt := 73) hC dX4_answerInPeace_67 (by decide) (by omega) (fun c67 => ?_) (fun c67 => ?_) | refine ri_if_eq (pc := 67) (tgt := 73) hC dX4_answerInPeace_67 (by decide) (fun c67 => ?_) (fun c67 => ?_)
            · -- taken
              refine r_iconst (pc := 73) (nI 0) hC dX4_answerInPeace_73 (by decide) ?_
              refine r_iret (pc := 74) hC hR dX4_answerInPeace_74 ?_ (by decide) (by decide)
              exact ⟨by unfold ansP; rw [if_neg (by rw [c5]; decide), if_neg (by rw [c18]; decide), if_neg (by omega), if_neg (by rw [c42]; decide), if_neg (by rw [c56]; decide), if_neg (by rw [c67]; decide)], rfl⟩
            · -- not
              refine r_bipush (pc := 70) (nI 7) hC dX4_answerInPeace_70 (by decide) ?_
              refine r_iret (pc := 72) hC hR dX4_answerInPeace_72 ?_ (by decide) (by decide)
              exact ⟨by unfold ansP; rw [if_neg (by rw [c5]; decide), if_neg (by rw [c18]; decide), if_neg (by omega), if_neg (by rw [c42]; decide), if_neg (by rw [c56]; decide), if_pos c67], rfl⟩
          · -- not
            refine r_bipush (pc := 59) (nI 6) hC dX4_answerInPeace_59 (by decide) ?_
            refine r_iret (pc := 61) hC hR dX4_answerInPeace_61 ?_ (by decide) (by decide)
            exact ⟨by unfold ansP; rw [if_neg (by rw [c5]; decide), if_neg (by rw [c18]; decide), if_neg (by omega), if_neg (by rw [c42]; decide), if_pos c56], rfl⟩
        · -- not
          refine r_iconst (pc := 45) (nI 5) hC dX4_answerInPeace_45 (by decide) ?_
          refine r_iret (pc := 46) hC hR dX4_answerInPeace_46 ?_ (by decide) (by decide)
          exact ⟨by unfold ansP; rw [if_neg (by rw [c5]; decide), if_neg (by rw [c18]; decide), if_neg (by omega), if_pos c42], rfl⟩
      · -- not
        refine r_iconst (pc := 35) (nI 4) hC dX4_answerInPeace_35 (by decide) ?_
        refine r_iret (pc := 36) hC hR dX4_answerInPeace_36 ?_ (by decide) (by decide)
        exact ⟨by unfold ansP; rw [if_neg (by rw [c5]; decide), if_neg (by rw [c18]; decide), if_pos (by omega)], rfl⟩
    · -- not
      refine r_iconst (pc := 21) (nI 3) hC dX4_answerInPeace_21 (by decide) ?_
      refine r_iret (pc := 22) hC hR dX4_answerInPeace_22 ?_ (by decide) (by decide)
      exact ⟨by unfold ansP; rw [if_neg (by rw [c5]; decide), if_pos c18], rfl⟩
  · -- not
    refine r_iconst (pc := 8) (nI 2) hC dX4_answerInPeace_8 (by decide) ?_
    refine r_iret (pc := 9) hC hR dX4_answerInPeace_9 ?_ (by decide) (by decide)
    exact ⟨by unfold ansP; rw [if_pos c5], rfl⟩
abbrev rm_X4_answerInAlarm : Room := { frames := 5, cells := 0, slots := 0, locals := 108 }
set_option maxHeartbeats 4000000 in
set_option maxRecDepth 100000 in
theorem ct_ansA {l : Launch} {G : Ids} {S : Ps} {Y : Lay} {σ : Sg} {x b d z : Nat} (hfl : l.stackTraces = false) (hZ : RC G S Y σ x) (hV : InvC σ) (hb : b < nb σ) (hd : d < nd σ) (hz : z < nz σ) (ho : oth σ d (plc σ b) = z + 1) : Ct l (Cond.code yX4_answerInAlarm cX4_answerInAlarm 3 (some .int)) yX4_answerInAlarm rm_X4_answerInAlarm G [.ref x, .ref (Y 2 b), .ref (Y 0 z)] S (fun v S9 => v = some (.int (nI (ansA σ b z))) ∧ Wy S S9) (fun _ _ => False) := by
  refine Ct.of hfl (by decide) (Nat.le_of_ble_eq_true rfl) (fun Γ V hC hR hT hI => ?_)
  have hp := (hV.vb hb).1
  have hlt := dI_lt hV hz hp (oth_stp hd ho)
  first | refine r_aload_n (pc := 0) hC dX4_answerInAlarm_0 rfl ?_ | refine r_aload_nN (pc := 0) hC dX4_answerInAlarm_0 rfl ?_
  refine r_callV (pc := 1) hC (ct_mdist hC.fl hZ hV) kv_X4_96 cls5 hZ.kx rfl rfl (Nat.le_of_ble_eq_true rfl) ⟨by decide, by decide, by decide, by decide⟩ dX4_answerInAlarm_1 (fun _ _ h => h.elim) (fun v1 S1 h1 => ?_)
  obtain ⟨rfl, hW, hM0⟩ := h1
  have hM := MS.dst (w := okA) hM0 hV
  have hZ1 := hZ.wy hW
  first | refine r_aload_n (pc := 4) hC dX4_answerInAlarm_4 rfl ?_ | refine r_aload_nN (pc := 4) hC dX4_answerInAlarm_4 rfl ?_
  refine r_gf (pc := 5) (κ := 4) (j := 5) hC cls4 (by decide) kf_X4_99 (hZ1.kz hz) (hM _ hz).2.1 dX4_answerInAlarm_5 ?_
  first | refine r_aload_n (pc := 8) hC dX4_answerInAlarm_8 rfl ?_ | refine r_aload_nN (pc := 8) hC dX4_answerInAlarm_8 rfl ?_
  refine r_gf (pc := 9) (κ := 1) (j := 3) hC cls1 (by decide) kf_X4_193 (hZ1.kb hb) (hZ1.b3 hb) dX4_answerInAlarm_9 ?_
  refine r_gf (pc := 12) (κ := 3) (j := 0) hC cls3 (by decide) kf_X4_197 (hZ1.c hb) (hZ1.c0 hb) dX4_answerInAlarm_12 ?_
  refine r_gf (pc := 15) (κ := 4) (j := 5) hC cls4 (by decide) kf_X4_99 (hZ1.kz hp) (hM _ hp).2.1 dX4_answerInAlarm_15 ?_
  first | refine rn_icmp_lt (pc := 18) (tgt := 24) hC dX4_answerInAlarm_18 (by decide) (by omega) (by omega) (fun c18 => ?_) (fun c18 => ?_) | refine ri_icmp_lt (pc := 18) (tgt := 24) hC dX4_answerInAlarm_18 (by decide) (fun c18 => ?_) (fun c18 => ?_)
  · -- taken
    first | refine r_aload_n (pc := 24) hC dX4_answerInAlarm_24 rfl ?_ | refine r_aload_nN (pc := 24) hC dX4_answerInAlarm_24 rfl ?_
    first | refine r_aload_n (pc := 25) hC dX4_answerInAlarm_25 rfl ?_ | refine r_aload_nN (pc := 25) hC dX4_answerInAlarm_25 rfl ?_
    first | refine r_aload_n (pc := 26) hC dX4_answerInAlarm_26 rfl ?_ | refine r_aload_nN (pc := 26) hC dX4_answerInAlarm_26 rfl ?_
    refine r_gf (pc := 27) (κ := 5) (j := 0) hC cls5 (by decide) kf_X4_14 hZ1.kx hZ1.x0 dX4_answerInAlarm_27 ?_
    refine r_callV (pc := 30) hC (ct_nohost hC.fl hZ1 hV hb hz) kv_X4_254 cls1 (hZ1.kb hb) rfl rfl (Nat.le_of_ble_eq_true rfl) ⟨by decide, by decide, by decide, by decide⟩ dX4_answerInAlarm_30 (fun _ _ h => h.elim) (fun v30 S30 h30 => ?_)
    obtain ⟨rfl, rfl⟩ := h30
    first | refine rb_if_eq (pc := 33) (tgt := 39) hC dX4_answerInAlarm_33 (by decide) (fun c33 => ?_) (fun c33 => ?_) | refine rn_if_eq (pc := 33) (tgt := 39) hC dX4_answerInAlarm_33 (by decide) (by omega) (fun c33 => ?_) (fun c33 => ?_) | refine ri_if_eq (pc := 33) (tgt := 39) hC dX4_answerInAlarm_33 (by decide) (fun c33 => ?_) (fun c33 => ?_)
    · -- taken
      refine r_iconst (pc := 39) (nI 0) hC dX4_answerInAlarm_39 (by decide) ?_
      refine r_iret (pc := 40) hC hR dX4_answerInAlarm_40 ?_ (by decide) (by decide)
      exact ⟨by unfold ansA; rw [if_pos (hlt.mp c18), if_neg (by rw [c33]; decide)], hW⟩
    · -- not
      refine r_bipush (pc := 36) (nI 6) hC dX4_answerInAlarm_36 (by decide) ?_
      refine r_iret (pc := 38) hC hR dX4_answerInAlarm_38 ?_ (by decide) (by decide)
      exact ⟨by unfold ansA; rw [if_pos (hlt.mp c18), if_pos c33], hW⟩
  · -- not
    refine r_bipush (pc := 21) (nI 9) hC dX4_answerInAlarm_21 (by decide) ?_
    refine r_iret (pc := 23) hC hR dX4_answerInAlarm_23 ?_ (by decide) (by decide)
    exact ⟨by unfold ansA; rw [if_neg (fun q => c18 (hlt.mpr q))], hW⟩
abbrev rm_X4_answerTo : Room := { frames := 6, cells := 0, slots := 0, locals := 131 }
set_option maxHeartbeats 4000000 in
set_option maxRecDepth 100000 in
theorem ct_ans {l : Launch} {G : Ids} {S : Ps} {Y : Lay} {σ : Sg} {x b d : Nat} (hfl : l.stackTraces = false) (hZ : RC G S Y σ x) (hV : InvC σ) (hb : b < nb σ) (hd : d < nd σ) : Ct l (Cond.code yX4_answerTo cX4_answerTo 4 (some .int)) yX4_answerTo rm_X4_answerTo G [.ref x, .ref (Y 2 b), .ref (Y 1 d)] S (fun v S9 => v = some (.int (nI (ans σ b d))) ∧ Wy S S9) (fun _ _ => False) := by
  refine Ct.of hfl (by decide) (Nat.le_of_ble_eq_true rfl) (fun Γ V hC hR hT hI => ?_)
  have hb2 := hV.vb hb
  have hp := hb2.1
  have hn := hV.n
  by_cases hh : oth σ d (plc σ b) = 0
  · skip
    first | refine r_aload_n (pc := 0) hC dX4_answerTo_0 rfl ?_ | refine r_aload_nN (pc := 0) hC dX4_answerTo_0 rfl ?_
    refine r_gf (pc := 1) (κ := 1) (j := 5) hC cls1 (by decide) kf_X4_139 (hZ.kb hb) (hZ.b5 hb) dX4_answerTo_1 ?_
    first | refine rb_if_eq (pc := 4) (tgt := 10) hC dX4_answerTo_4 (by decide) (fun c4 => ?_) (fun c4 => ?_) | refine rn_if_eq (pc := 4) (tgt := 10) hC dX4_answerTo_4 (by decide) (by omega) (fun c4 => ?_) (fun c4 => ?_) | refine ri_if_eq (pc := 4) (tgt := 10) hC dX4_answerTo_4 (by decide) (fun c4 => ?_) (fun c4 => ?_)
    · -- taken
      first | refine r_aload_n (pc := 10) hC dX4_answerTo_10 rfl ?_ | refine r_aload_nN (pc := 10) hC dX4_answerTo_10 rfl ?_
      first | refine r_aload_n (pc := 11) hC dX4_answerTo_11 rfl ?_ | refine r_aload_nN (pc := 11) hC dX4_answerTo_11 rfl ?_
      refine r_gf (pc := 12) (κ := 1) (j := 3) hC cls1 (by decide) kf_X4_193 (hZ.kb hb) (hZ.b3 hb) dX4_answerTo_12 ?_
      refine r_gf (pc := 15) (κ := 3) (j := 0) hC cls3 (by decide) kf_X4_197 (hZ.c hb) (hZ.c0 hb) dX4_answerTo_15 ?_
      refine r_callV (pc := 18) hC (ct_other hC.fl hZ hV hd hp) kv_X4_235 cls2 (hZ.kd (by assumption)) rfl rfl (Nat.le_of_ble_eq_true rfl) ⟨by decide, by decide, by decide, by decide⟩ dX4_answerTo_18 (fun _ _ h => h.elim) (fun v18 S18 h18 => ?_)
      obtain ⟨rfl, rfl⟩ := h18
      rw [oV_n hh]
      first | refine r_astore_n (pc := 21) hC dX4_answerTo_21 (by decide) ?_ | refine r_astore_nN (pc := 21) hC dX4_answerTo_21 (by decide) ?_
      first | refine r_aload_n (pc := 22) hC dX4_answerTo_22 rfl ?_ | refine r_aload_nN (pc := 22) hC dX4_answerTo_22 rfl ?_
      refine r_ifnonnullN (pc := 23) hC dX4_answerTo_23 ?_
      refine r_iconst (pc := 26) (nI 1) hC dX4_answerTo_26 (by decide) ?_
      refine r_iret (pc := 27) hC hR dX4_answerTo_27 ?_ (by decide) (by decide)
      exact ⟨by unfold ans; rw [if_neg (by omega), if_pos hh], Wy.rfl⟩
    · -- not
      refine r_bipush (pc := 7) (nI 8) hC dX4_answerTo_7 (by decide) ?_
      refine r_iret (pc := 9) hC hR dX4_answerTo_9 ?_ (by decide) (by decide)
      exact ⟨by unfold ans; rw [if_pos (by omega)], Wy.rfl⟩
  · skip
    first | refine r_aload_n (pc := 0) hC dX4_answerTo_0 rfl ?_ | refine r_aload_nN (pc := 0) hC dX4_answerTo_0 rfl ?_
    refine r_gf (pc := 1) (κ := 1) (j := 5) hC cls1 (by decide) kf_X4_139 (hZ.kb hb) (hZ.b5 hb) dX4_answerTo_1 ?_
    first | refine rb_if_eq (pc := 4) (tgt := 10) hC dX4_answerTo_4 (by decide) (fun c4 => ?_) (fun c4 => ?_) | refine rn_if_eq (pc := 4) (tgt := 10) hC dX4_answerTo_4 (by decide) (by omega) (fun c4 => ?_) (fun c4 => ?_) | refine ri_if_eq (pc := 4) (tgt := 10) hC dX4_answerTo_4 (by decide) (fun c4 => ?_) (fun c4 => ?_)
    · -- taken
      have ho := oth_lt hV hd hh
      first | refine r_aload_n (pc := 10) hC dX4_answerTo_10 rfl ?_ | refine r_aload_nN (pc := 10) hC dX4_answerTo_10 rfl ?_
      first | refine r_aload_n (pc := 11) hC dX4_answerTo_11 rfl ?_ | refine r_aload_nN (pc := 11) hC dX4_answerTo_11 rfl ?_
      refine r_gf (pc := 12) (κ := 1) (j := 3) hC cls1 (by decide) kf_X4_193 (hZ.kb hb) (hZ.b3 hb) dX4_answerTo_12 ?_
      refine r_gf (pc := 15) (κ := 3) (j := 0) hC cls3 (by decide) kf_X4_197 (hZ.c hb) (hZ.c0 hb) dX4_answerTo_15 ?_
      refine r_callV (pc := 18) hC (ct_other hC.fl hZ hV hd hp) kv_X4_235 cls2 (hZ.kd (by assumption)) rfl rfl (Nat.le_of_ble_eq_true rfl) ⟨by decide, by decide, by decide, by decide⟩ dX4_answerTo_18 (fun _ _ h => h.elim) (fun v18 S18 h18 => ?_)
      obtain ⟨rfl, rfl⟩ := h18
      rw [oV_s hh]
      first | refine r_astore_n (pc := 21) hC dX4_answerTo_21 (by decide) ?_ | refine r_astore_nN (pc := 21) hC dX4_answerTo_21 (by decide) ?_
      first | refine r_aload_n (pc := 22) hC dX4_answerTo_22 rfl ?_ | refine r_aload_nN (pc := 22) hC dX4_answerTo_22 rfl ?_
      refine r_ifnonnull (pc := 23) (tgt := 28) hC dX4_answerTo_23 (by decide) ?_
      first | refine r_aload_n (pc := 28) hC dX4_answerTo_28 rfl ?_ | refine r_aload_nN (pc := 28) hC dX4_answerTo_28 rfl ?_
      refine r_gf (pc := 29) (κ := 5) (j := 5) hC cls5 (by decide) kf_X4_35 hZ.kx hZ.x5 dX4_answerTo_29 ?_
      first | refine rb_if_eq (pc := 32) (tgt := 44) hC dX4_answerTo_32 (by decide) (fun c32 => ?_) (fun c32 => ?_) | refine rn_if_eq (pc := 32) (tgt := 44) hC dX4_answerTo_32 (by decide) (by omega) (fun c32 => ?_) (fun c32 => ?_) | refine ri_if_eq (pc := 32) (tgt := 44) hC dX4_answerTo_32 (by decide) (fun c32 => ?_) (fun c32 => ?_)
      · -- taken
        first | refine r_aload_n (pc := 44) hC dX4_answerTo_44 rfl ?_ | refine r_aload_nN (pc := 44) hC dX4_answerTo_44 rfl ?_
        first | refine r_aload_n (pc := 45) hC dX4_answerTo_45 rfl ?_ | refine r_aload_nN (pc := 45) hC dX4_answerTo_45 rfl ?_
        first | refine r_aload_n (pc := 46) hC dX4_answerTo_46 rfl ?_ | refine r_aload_nN (pc := 46) hC dX4_answerTo_46 rfl ?_
        first | refine r_aload_n (pc := 47) hC dX4_answerTo_47 rfl ?_ | refine r_aload_nN (pc := 47) hC dX4_answerTo_47 rfl ?_
        refine r_callV (pc := 48) hC (ct_ansP hC.fl hZ hV hb hd ho) kv_X4_243 cls5 hZ.kx rfl rfl (Nat.le_of_ble_eq_true rfl) ⟨by decide, by decide, by decide, by decide⟩ dX4_answerTo_48 (fun _ _ h => h.elim) (fun v48 S48 h48 => ?_)
        obtain ⟨rfl, rfl⟩ := h48
        refine r_iret (pc := 51) hC hR dX4_answerTo_51 ?_ (by decide) (by decide)
        exact ⟨by unfold ans; rw [if_neg (by omega), if_neg hh, if_neg (by omega)], Wy.rfl⟩
      · -- not
        first | refine r_aload_n (pc := 35) hC dX4_answerTo_35 rfl ?_ | refine r_aload_nN (pc := 35) hC dX4_answerTo_35 rfl ?_
        first | refine r_aload_n (pc := 36) hC dX4_answerTo_36 rfl ?_ | refine r_aload_nN (pc := 36) hC dX4_answerTo_36 rfl ?_
        first | refine r_aload_n (pc := 37) hC dX4_answerTo_37 rfl ?_ | refine r_aload_nN (pc := 37) hC dX4_answerTo_37 rfl ?_
        refine r_callV (pc := 38) hC (ct_ansA hC.fl hZ hV hb hd ho (by omega)) kv_X4_239 cls5 hZ.kx rfl rfl (Nat.le_of_ble_eq_true rfl) ⟨by decide, by decide, by decide, by decide⟩ dX4_answerTo_38 (fun _ _ h => h.elim) (fun v38 S38 h38 => ?_)
        obtain ⟨rfl, hW⟩ := h38
        refine r_goto (pc := 41) (tgt := 51) hC dX4_answerTo_41 (by decide) ?_
        refine r_iret (pc := 51) hC hR dX4_answerTo_51 ?_ (by decide) (by decide)
        exact ⟨by unfold ans; rw [if_neg (by omega), if_neg hh, if_pos (by omega)], hW⟩
    · -- not
      refine r_bipush (pc := 7) (nI 8) hC dX4_answerTo_7 (by decide) ?_
      refine r_iret (pc := 9) hC hR dX4_answerTo_9 ?_ (by decide) (by decide)
      exact ⟨by unfold ans; rw [if_pos (by omega)], Wy.rfl⟩
abbrev rm_X4_pass : Room := { frames := 8, cells := 3, slots := 812, locals := 193 }
