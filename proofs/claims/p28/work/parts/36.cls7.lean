theorem RC.lg {G : Ids} {S : Ps} {Y : Lay} {σ : Sg} {x b m z : Nat} (h : RC G S Y σ x) : RC G S Y (lgS σ b m z) x := by
  refine ⟨h.1, h.2.1, h.2.2.1, h.2.2.2.1, h.2.2.2.2.1, fun b' hb' => ?_, h.2.2.2.2.2.2⟩
  obtain ⟨c1, c2, c3⟩ := h.2.2.2.2.2.1 b' hb'
  have e1 : syz (lgS σ b m z) b' = syz σ b' := by show lgS σ b m z (20 + b') = σ (20 + b'); unfold lgS; rw [up_ff _ (by omega), up_ff _ (by omega), up_ff _ (by omega), up_ff _ (by omega)]
  have e2 : sys (lgS σ b m z) b' = sys σ b' := by show lgS σ b m z (40 + b') = σ (40 + b'); unfold lgS; rw [up_ff _ (by omega), up_ff _ (by omega), up_ff _ (by omega), up_ff _ (by omega)]
  rw [e1, e2]
  exact ⟨c1, c2, c3⟩
theorem pd_eq {σ : Sg} {b d z : Nat} : up (up (psS σ b z) 14 b 0) 9 d (mi (up (psS σ b z) 14 b 0) + hold (up (psS σ b z) 14 b 0) d) = pdS σ b d z := by
  have e1 : mi (up (psS σ b z) 14 b 0) = mi σ := congrFun (ps_g (σ := σ) (b := b) (z := z) (g := 1) (by omega) (by omega) (by omega) (by omega)) 0
  have e2 : hold (up (psS σ b z) 14 b 0) d = hold σ d := congrFun (ps_g (σ := σ) (b := b) (z := z) (g := 7) (by omega) (by omega) (by omega) (by omega)) d
  rw [e1, e2]; rfl
theorem fr_sF {P : Nat → Prop} {S S' : Ps} {a j : Nat} {v : Value} (h : Fr P S S') (ha : P a) : Fr P S (sF S' j a v) := h.trans (Fr.sF (fun _ => ha))
set_option maxHeartbeats 4000000 in
set_option maxRecDepth 100000 in
theorem ct_pass {l : Launch} {G : Ids} {S : Ps} {Y : Lay} {σ : Sg} {x b d n : Nat} (hfl : l.stackTraces = false) (hZ : RC G S Y σ x) (hV : InvC σ) (hb : b < nb σ) (hd : d < nd σ) (hh : ¬ oth σ d (plc σ b) = 0) (hS : InvS σ n) (hn5 : n ≤ 511) : Ct l (Cond.code yX4_pass cX4_pass 4 none) yX4_pass rm_X4_pass G [.ref x, .ref (Y 2 b), .ref (Y 1 d)] S (fun v S9 => v = none ∧ CO G S S9 (pdS σ b d (oth σ d (plc σ b) - 1)) x) (fun _ _ => False) := by
  refine Ct.of hfl (by decide) (Nat.le_of_ble_eq_true rfl) (fun Γ V hC hR hT hI => ?_)
  have hz9 := oth_lt hV hd hh
  first | refine r_aload_n (pc := 0) hC dX4_pass_0 rfl ?_ | refine r_aload_nN (pc := 0) hC dX4_pass_0 rfl ?_
  first | refine r_aload_n (pc := 1) hC dX4_pass_1 rfl ?_ | refine r_aload_nN (pc := 1) hC dX4_pass_1 rfl ?_
  refine r_gf (pc := 2) (κ := 1) (j := 3) hC cls1 (by decide) kf_X4_193 (hZ.kb hb) (hZ.b3 hb) dX4_pass_2 ?_
  refine r_gf (pc := 5) (κ := 3) (j := 0) hC cls3 (by decide) kf_X4_197 (hZ.c hb) (hZ.c0 hb) dX4_pass_5 ?_
  refine r_callV (pc := 8) hC (ct_other hC.fl hZ hV hd (hV.vb hb).1) kv_X4_235 cls2 (hZ.kd hd) rfl rfl (Nat.le_of_ble_eq_true rfl) ⟨by decide, by decide, by decide, by decide⟩ dX4_pass_8 (fun _ _ h => h.elim) (fun v8 S8 h8 => ?_)
  obtain ⟨rfl, rfl⟩ := h8
  rw [oV_s hh]
  first | refine r_astore_n (pc := 11) hC dX4_pass_11 (by decide) ?_ | refine r_astore_nN (pc := 11) hC dX4_pass_11 (by decide) ?_
  first | refine r_aload_n (pc := 12) hC dX4_pass_12 rfl ?_ | refine r_aload_nN (pc := 12) hC dX4_pass_12 rfl ?_
  refine r_ifnonnull (pc := 13) (tgt := 17) hC dX4_pass_13 (by decide) ?_
  first | refine r_aload_n (pc := 17) hC dX4_pass_17 rfl ?_ | refine r_aload_nN (pc := 17) hC dX4_pass_17 rfl ?_
  first | refine r_aload_n (pc := 18) hC dX4_pass_18 rfl ?_ | refine r_aload_nN (pc := 18) hC dX4_pass_18 rfl ?_
  first | refine r_aload_n (pc := 19) hC dX4_pass_19 rfl ?_ | refine r_aload_nN (pc := 19) hC dX4_pass_19 rfl ?_
  refine r_gf (pc := 20) (κ := 5) (j := 4) hC cls5 (by decide) kf_X4_31 hZ.kx hZ.x4 dX4_pass_20 ?_
  refine r_callV (pc := 23) hC (ct_enter hC.fl hZ hV hb hz9 hS hn5) kv_X4_265 cls1 (hZ.kb hb) rfl rfl (Nat.le_of_ble_eq_true rfl) ⟨by decide, by decide, by decide, by decide⟩ dX4_pass_23 (fun _ _ h => h.elim) (fun v23 S23 h23 => ?_)
  obtain ⟨rfl, hF2, Y2, hZ2, y0, y1, y2⟩ := h23
  rw [← y2, ← y1]
  have hb2 : b < nb (psS σ b (oth σ d (plc σ b) - 1)) := by rw [show nb (psS σ b (oth σ d (plc σ b) - 1)) = nb σ from ps_0 (by omega)]; exact hb
  first | refine r_aload_n (pc := 26) hC dX4_pass_26 rfl ?_ | refine r_aload_nN (pc := 26) hC dX4_pass_26 rfl ?_
  refine r_iconst (pc := 27) (nI 0) hC dX4_pass_27 (by decide) ?_
  refine r_pf (pc := 28) (κ := 1) (j := 6) hC cls1 (by decide) kf_X4_142 (hZ2.kb hb2) rfl rfl rfl dX4_pass_28 ?_
  have hZ3 := hZ2.uB6 (v := 0) hb2
  have hV3 := (hV.ps (b := b) hz9).u14 (b := b)
  have hd3 : d < nd (up (psS σ b (oth σ d (plc σ b) - 1)) 14 b 0) := by rw [show nd (up (psS σ b (oth σ d (plc σ b) - 1)) 14 b 0) = nd σ from ps_0 (σ := σ) (b := b) (z := oth σ d (plc σ b) - 1) (j := 1) (by omega)]; exact hd
  first | refine r_aload_n (pc := 31) hC dX4_pass_31 rfl ?_ | refine r_aload_nN (pc := 31) hC dX4_pass_31 rfl ?_
  first | refine r_aload_n (pc := 32) hC dX4_pass_32 rfl ?_ | refine r_aload_nN (pc := 32) hC dX4_pass_32 rfl ?_
  refine r_gf (pc := 33) (κ := 5) (j := 4) hC cls5 (by decide) kf_X4_31 hZ3.kx hZ3.x4 dX4_pass_33 ?_
  refine r_callV (pc := 36) hC (ct_openAt hC.fl hZ3 hV3 hd3) kv_X4_269 cls2 (hZ3.kd hd3) rfl rfl (Nat.le_of_ble_eq_true rfl) ⟨by decide, by decide, by decide, by decide⟩ dX4_pass_36 (fun _ _ h => h.elim) (fun v36 S36 h36 => ?_)
  obtain ⟨rfl, hZ4, hF4⟩ := h36
  refine r_vret (pc := 39) hC hR dX4_pass_39 ?_ (by decide) (by decide)
  refine ⟨rfl, FrC.trans hF2 (FrC.trans (Fr.sF (fun _ => Or.inl (by rw [(hZ2.kb hb2).2]; decide))) hF4), Y2, ?_⟩
  rw [← pd_eq]
  exact hZ4
abbrev rm_X0_init : Room := { frames := 7, cells := 4, slots := 815, locals := 171 }
set_option maxHeartbeats 4000000 in
set_option maxRecDepth 100000 in
theorem ct_binitN {l : Launch} {G : Ids} {S : Ps} {a z0 : Nat} {v0 v2 : Int32} (hfl : l.stackTraces = false) (ha : isK S 1 a) : Ct l (Cond.code yX0_init cX0_init 5 none) yX0_init rm_X0_init G [.ref a, .int v0, .null, .int v2, .ref z0] S (fun v S9 => v = none ∧ ∃ a1 s r1, a1 ∉ pL S ∧ s ∉ pL S ∧ r1 ∉ pL S ∧ r1 ≠ G.2.2.1 ∧ Fr (fun q => q = a) S S9 ∧ isK S9 1 a ∧ pF S9 0 a = .int v0 ∧ pF S9 1 a = .null ∧ pF S9 2 a = .ref a1 ∧ pF S9 3 a = .ref s ∧ pF S9 4 a = .int v2 ∧ pF S9 5 a = .int (nI 0) ∧ pF S9 6 a = .int (nI 0) ∧ LsOK G S9 3 a1 r1 1 (fun _ => s) ∧ isK S9 3 s ∧ pF S9 0 s = .ref z0 ∧ pF S9 1 s = .int (nI 0)) (fun _ _ => False) := by
  refine Ct.of hfl (by decide) (Nat.le_of_ble_eq_true rfl) (fun Γ V hC hR hT hI => ?_)
  first | refine r_aload_n (pc := 0) hC dX0_init_0 rfl ?_ | refine r_aload_nN (pc := 0) hC dX0_init_0 rfl ?_
  refine r_objInit (pc := 1) hC ko_X0_3 (Nat.le_of_ble_eq_true rfl) (by decide) dX0_init_1 ?_
  first | refine r_aload_n (pc := 4) hC dX0_init_4 rfl ?_ | refine r_aload_nN (pc := 4) hC dX0_init_4 rfl ?_
  refine r_new (pc := 5) hC cls0 kc_X0_9 kn_Jx4a65c (by decide) (by decide) (by decide) dX0_init_5 (fun a5 hf5 => ?_)
  refine r_dup (pc := 8) hC dX0_init_8 rfl ?_
  refine r_callI (pc := 9) hC (ct_listinit hC.fl isK_nwO') ki_X0_11 rfl rfl (Nat.le_of_ble_eq_true rfl) ⟨by decide, by decide, by decide, by decide⟩ dX0_init_9 (fun _ _ h => h.elim) (fun v9 S9 h9 => ?_)
  obtain ⟨rfl, rfl⟩ := h9
  have FL := lstI_fr (G := G) hf5
  have hk := FL.K ha
  have nea : a ≠ a5 := isK_fr ha hf5
  refine r_pfF (pc := 12) (κ := 1) (j := 2) hC cls1 (by decide) kf_X0_12 hk rfl hI rfl rfl rfl dX0_init_12 ?_
  first | refine r_aload_n (pc := 15) hC dX0_init_15 rfl ?_ | refine r_aload_nN (pc := 15) hC dX0_init_15 rfl ?_
  refine r_iconst (pc := 16) (nI 0) hC dX0_init_16 (by decide) ?_
  refine r_pf (pc := 17) (κ := 1) (j := 5) hC cls1 (by decide) kf_X0_18 hk rfl rfl rfl dX0_init_17 ?_
  first | refine r_aload_n (pc := 20) hC dX0_init_20 rfl ?_ | refine r_aload_nN (pc := 20) hC dX0_init_20 rfl ?_
  refine r_iconst (pc := 21) (nI 0) hC dX0_init_21 (by decide) ?_
  refine r_pf (pc := 22) (κ := 1) (j := 6) hC cls1 (by decide) kf_X0_22 hk rfl rfl rfl dX0_init_22 ?_
  first | refine r_aload_n (pc := 25) hC dX0_init_25 rfl ?_ | refine r_aload_nN (pc := 25) hC dX0_init_25 rfl ?_
  refine r_iload_n (pc := 26) hC dX0_init_26 rfl ?_
  refine r_pfF (pc := 27) (κ := 1) (j := 0) hC cls1 (by decide) kf_X0_26 hk rfl hI rfl rfl rfl dX0_init_27 ?_
  first | refine r_aload_n (pc := 30) hC dX0_init_30 rfl ?_ | refine r_aload_nN (pc := 30) hC dX0_init_30 rfl ?_
  first | refine r_aload_n (pc := 31) hC dX0_init_31 rfl ?_ | refine r_aload_nN (pc := 31) hC dX0_init_31 rfl ?_
  refine r_pfF (pc := 32) (κ := 1) (j := 1) hC cls1 (by decide) kf_X0_29 hk rfl hI rfl rfl rfl dX0_init_32 ?_
  first | refine r_aload_n (pc := 35) hC dX0_init_35 rfl ?_ | refine r_aload_nN (pc := 35) hC dX0_init_35 rfl ?_
  refine r_iload_n (pc := 36) hC dX0_init_36 rfl ?_
  refine r_pf (pc := 37) (κ := 1) (j := 4) hC cls1 (by decide) kf_X0_33 hk rfl rfl rfl dX0_init_37 ?_
  refine at_gen (fun S' => Fr (fun q => q = a) S S' ∧ isK S' 1 a ∧ pF S' 0 a = .int v0 ∧ pF S' 1 a = .null ∧ pF S' 2 a = .ref a5 ∧ pF S' 4 a = .int v2 ∧ pF S' 5 a = .int (nI 0) ∧ pF S' 6 a = .int (nI 0) ∧ LsOK G S' 3 a5 G.2.2.1 0 (fun _ => 0)) ?_ (fun S1 h1 => ?_)
  · refine ⟨fr_sF (fr_sF (fr_sF (fr_sF (fr_sF (fr_sF (fr_any FL) rfl) rfl) rfl) rfl) rfl) rfl, hk, ?_, ?_, ?_, ?_, ?_, ?_, ?_⟩
    · simp [pF_sF]
    · simp [pF_sF]
    · simp [pF_sF]
    · simp [pF_sF]
    · simp [pF_sF]
    · simp [pF_sF]
    · exact (((((lstI_ok.sF hk (by decide)).sF hk (by decide)).sF hk (by decide)).sF hk (by decide)).sF hk (by decide)).sF hk (by decide)
  obtain ⟨p0, p1, p2, p3, p4, p5, p6, p7, p8⟩ := h1
  first | refine r_aload_n (pc := 40) hC dX0_init_40 rfl ?_ | refine r_aload_nN (pc := 40) hC dX0_init_40 rfl ?_
  refine r_new (pc := 41) hC cls3 kc_X0_36 kn_X2 (by decide) (by decide) (by decide) dX0_init_41 (fun a41 hf41 => ?_)
  refine r_dup (pc := 44) hC dX0_init_44 rfl ?_
  first | refine r_aload (pc := 45) hC dX0_init_45 rfl ?_ | refine r_aloadN (pc := 45) hC dX0_init_45 rfl ?_
  refine r_iconst (pc := 47) (nI 0) hC dX0_init_47 (by decide) ?_
  refine r_callI (pc := 48) hC (ct_sinit hC.fl (isK_nwO' (k := 3))) ki_X0_38 rfl rfl (Nat.le_of_ble_eq_true rfl) ⟨by decide, by decide, by decide, by decide⟩ dX0_init_48 (fun _ _ h => h.elim) (fun v48 S48 h48 => ?_)
  obtain ⟨rfl, rfl⟩ := h48
  have FS := fr_newO (sI9_fr (S := nwO S1 a41 3) (a := a41) (z := z0) (v := nI 0)) hf41
  have hks : isK (sI9 (nwO S1 a41 3) a41 z0 (nI 0)) 3 a41 := isK_nwO'
  have hk2 := FS.K p1
  have ns41 : a ≠ a41 := isK_fr p1 hf41
  refine r_pf (pc := 51) (κ := 1) (j := 3) hC cls1 (by decide) kf_X0_41 hk2 rfl rfl rfl dX0_init_51 ?_
  first | refine r_aload_n (pc := 54) hC dX0_init_54 rfl ?_ | refine r_aload_nN (pc := 54) hC dX0_init_54 rfl ?_
  refine r_gf (pc := 55) (κ := 1) (j := 2) hC cls1 (by decide) kf_X0_12 (isK_sF.mpr hk2) ((pF_sF_j _ _ _ _ (by decide)).trans ((FS.F p1 (fun q => q) 2).trans p4)) dX0_init_55 ?_
  first | refine r_aload_n (pc := 58) hC dX0_init_58 rfl ?_ | refine r_aload_nN (pc := 58) hC dX0_init_58 rfl ?_
  refine r_gf (pc := 59) (κ := 1) (j := 3) hC cls1 (by decide) kf_X0_41 (isK_sF.mpr hk2) (pF_sF_eq _ _ _ _) dX0_init_59 ?_
  refine r_callV (pc := 62) hC (ct_add hC.fl ((p8.fr9 FS (fun q => q) (fun _ q => q)).sF (v := .ref a41) (j := 3) hk2 (by decide)) (by decide) (isK_sF.mpr hks) cls3 kt_X2) kv_X0_45 cls0 (isK_sF.mpr (FS.K p8.1)) rfl rfl (Nat.le_of_ble_eq_true rfl) ⟨by decide, by decide, by decide, by decide⟩ dX0_init_62 (fun _ _ h => h.elim) (fun v62 S62 h62 => ?_)
  obtain ⟨rfl, r2, hA1, hA2, hA3, hA4⟩ := h62
  refine at_know hC (fun he9 => ?_)
  refine r_pop (pc := 65) hC dX0_init_65 rfl ?_
  refine r_vret (pc := 66) hC hR dX0_init_66 ?_ (by decide) (by decide)
  have hka : isK (sF (sI9 (nwO S1 a41 3) a41 z0 (nI 0)) 3 a (.ref a41)) 1 a := isK_sF.mpr hk2
  have hks3 : isK (sF (sI9 (nwO S1 a41 3) a41 z0 (nI 0)) 3 a (.ref a41)) 3 a41 := isK_sF.mpr hks
  have heS : ∀ k q, isK (sF (sI9 (nwO S1 a41 3) a41 z0 (nI 0)) 3 a (.ref a41)) k q → q ≠ G.2.2.1 := fun k q hq e => he9 (e ▸ (hA4 q hq.1).1)
  have na : ¬ (a = a5 ∨ a = G.2.2.1) := fun q => q.elim (isK_ne hka (isK_sF.mpr (FS.K p8.1)) (by decide)) (heS _ _ hka)
  have nss : ¬ (a41 = a5 ∨ a41 = G.2.2.1) := fun q => q.elim (isK_ne hks3 (isK_sF.mpr (FS.K p8.1)) (by decide)) (heS _ _ hks3)
  have f : ∀ j v, j ≠ 3 → pF S1 j a = v → pF S62 j a = v := fun j v hj hv => (hA4.F hka na j).trans ((pF_sF_j _ _ _ _ hj).trans ((FS.F p1 (fun q => q) j).trans hv))
  have FA : Fr (fun q => q = a ∨ (q = a5 ∨ q = G.2.2.1)) S S62 := (p0.mono (fun _ _ q => Or.inl q)).trans ((fr_any FS).trans ((Fr.sF (fun _ => Or.inl rfl)).trans (hA4.mono (fun _ _ q => Or.inr q))))
  refine ⟨rfl, a5, a41, r2, hf5, fun q => hf41 (p0 _ q).1, fun q => ?_, hA3, FA.mono (fun q hq h9 => ?_), hA4.K hka, f 0 _ (by decide) p2, f 1 _ (by decide) p3, f 2 _ (by decide) p4, (hA4.F hka na 3).trans (pF_sF_eq _ _ _ _), f 4 _ (by decide) p5, f 5 _ (by decide) p6, f 6 _ (by decide) p7, hA1.congr rfl (fun i hi => ?_), hA4.K hks3, ?_, ?_⟩
  · rcases hA2 with e | e
    · exact hA3 e
    · exact e (FS _ (p0 _ q).1).1
  · rcases h9 with e | e | e
    · exact e
    · exact absurd (e ▸ hq) hf5
    · exact absurd (e ▸ (FA q hq).1) he9
  · rw [show i = 0 by omega]; rfl
  · exact (hA4.F hks3 nss 0).trans ((pF_sF_j _ _ _ _ (by decide)).trans sI9_F.1)
  · exact (hA4.F hks3 nss 1).trans ((pF_sF_j _ _ _ _ (by decide)).trans sI9_F.2)
set_option maxHeartbeats 4000000 in
set_option maxRecDepth 100000 in
theorem ct_binitS {l : Launch} {G : Ids} {S : Ps} {a z0 hh : Nat} {v0 v2 : Int32} (hfl : l.stackTraces = false) (ha : isK S 1 a) : Ct l (Cond.code yX0_init cX0_init 5 none) yX0_init rm_X0_init G [.ref a, .int v0, .ref hh, .int v2, .ref z0] S (fun v S9 => v = none ∧ ∃ a1 s r1, a1 ∉ pL S ∧ s ∉ pL S ∧ r1 ∉ pL S ∧ r1 ≠ G.2.2.1 ∧ Fr (fun q => q = a) S S9 ∧ isK S9 1 a ∧ pF S9 0 a = .int v0 ∧ pF S9 1 a = .ref hh ∧ pF S9 2 a = .ref a1 ∧ pF S9 3 a = .ref s ∧ pF S9 4 a = .int v2 ∧ pF S9 5 a = .int (nI 0) ∧ pF S9 6 a = .int (nI 0) ∧ LsOK G S9 3 a1 r1 1 (fun _ => s) ∧ isK S9 3 s ∧ pF S9 0 s = .ref z0 ∧ pF S9 1 s = .int (nI 0)) (fun _ _ => False) := by
  refine Ct.of hfl (by decide) (Nat.le_of_ble_eq_true rfl) (fun Γ V hC hR hT hI => ?_)
  first | refine r_aload_n (pc := 0) hC dX0_init_0 rfl ?_ | refine r_aload_nN (pc := 0) hC dX0_init_0 rfl ?_
  refine r_objInit (pc := 1) hC ko_X0_3 (Nat.le_of_ble_eq_true rfl) (by decide) dX0_init_1 ?_
  first | refine r_aload_n (pc := 4) hC dX0_init_4 rfl ?_ | refine r_aload_nN (pc := 4) hC dX0_init_4 rfl ?_
  refine r_new (pc := 5) hC cls0 kc_X0_9 kn_Jx4a65c (by decide) (by decide) (by decide) dX0_init_5 (fun a5 hf5 => ?_)
  refine r_dup (pc := 8) hC dX0_init_8 rfl ?_
  refine r_callI (pc := 9) hC (ct_listinit hC.fl isK_nwO') ki_X0_11 rfl rfl (Nat.le_of_ble_eq_true rfl) ⟨by decide, by decide, by decide, by decide⟩ dX0_init_9 (fun _ _ h => h.elim) (fun v9 S9 h9 => ?_)
  obtain ⟨rfl, rfl⟩ := h9
  have FL := lstI_fr (G := G) hf5
  have hk := FL.K ha
  have nea : a ≠ a5 := isK_fr ha hf5
  refine r_pfF (pc := 12) (κ := 1) (j := 2) hC cls1 (by decide) kf_X0_12 hk rfl hI rfl rfl rfl dX0_init_12 ?_
  first | refine r_aload_n (pc := 15) hC dX0_init_15 rfl ?_ | refine r_aload_nN (pc := 15) hC dX0_init_15 rfl ?_
  refine r_iconst (pc := 16) (nI 0) hC dX0_init_16 (by decide) ?_
  refine r_pf (pc := 17) (κ := 1) (j := 5) hC cls1 (by decide) kf_X0_18 hk rfl rfl rfl dX0_init_17 ?_
  first | refine r_aload_n (pc := 20) hC dX0_init_20 rfl ?_ | refine r_aload_nN (pc := 20) hC dX0_init_20 rfl ?_
  refine r_iconst (pc := 21) (nI 0) hC dX0_init_21 (by decide) ?_
  refine r_pf (pc := 22) (κ := 1) (j := 6) hC cls1 (by decide) kf_X0_22 hk rfl rfl rfl dX0_init_22 ?_
  first | refine r_aload_n (pc := 25) hC dX0_init_25 rfl ?_ | refine r_aload_nN (pc := 25) hC dX0_init_25 rfl ?_
  refine r_iload_n (pc := 26) hC dX0_init_26 rfl ?_
  refine r_pfF (pc := 27) (κ := 1) (j := 0) hC cls1 (by decide) kf_X0_26 hk rfl hI rfl rfl rfl dX0_init_27 ?_
  first | refine r_aload_n (pc := 30) hC dX0_init_30 rfl ?_ | refine r_aload_nN (pc := 30) hC dX0_init_30 rfl ?_
  first | refine r_aload_n (pc := 31) hC dX0_init_31 rfl ?_ | refine r_aload_nN (pc := 31) hC dX0_init_31 rfl ?_
  refine r_pfF (pc := 32) (κ := 1) (j := 1) hC cls1 (by decide) kf_X0_29 hk rfl hI rfl rfl rfl dX0_init_32 ?_
  first | refine r_aload_n (pc := 35) hC dX0_init_35 rfl ?_ | refine r_aload_nN (pc := 35) hC dX0_init_35 rfl ?_
  refine r_iload_n (pc := 36) hC dX0_init_36 rfl ?_
  refine r_pf (pc := 37) (κ := 1) (j := 4) hC cls1 (by decide) kf_X0_33 hk rfl rfl rfl dX0_init_37 ?_
  refine at_gen (fun S' => Fr (fun q => q = a) S S' ∧ isK S' 1 a ∧ pF S' 0 a = .int v0 ∧ pF S' 1 a = .ref hh ∧ pF S' 2 a = .ref a5 ∧ pF S' 4 a = .int v2 ∧ pF S' 5 a = .int (nI 0) ∧ pF S' 6 a = .int (nI 0) ∧ LsOK G S' 3 a5 G.2.2.1 0 (fun _ => 0)) ?_ (fun S1 h1 => ?_)
  · refine ⟨fr_sF (fr_sF (fr_sF (fr_sF (fr_sF (fr_sF (fr_any FL) rfl) rfl) rfl) rfl) rfl) rfl, hk, ?_, ?_, ?_, ?_, ?_, ?_, ?_⟩
    · simp [pF_sF]
    · simp [pF_sF]
    · simp [pF_sF]
    · simp [pF_sF]
    · simp [pF_sF]
    · simp [pF_sF]
    · exact (((((lstI_ok.sF hk (by decide)).sF hk (by decide)).sF hk (by decide)).sF hk (by decide)).sF hk (by decide)).sF hk (by decide)
  obtain ⟨p0, p1, p2, p3, p4, p5, p6, p7, p8⟩ := h1
  first | refine r_aload_n (pc := 40) hC dX0_init_40 rfl ?_ | refine r_aload_nN (pc := 40) hC dX0_init_40 rfl ?_
  refine r_new (pc := 41) hC cls3 kc_X0_36 kn_X2 (by decide) (by decide) (by decide) dX0_init_41 (fun a41 hf41 => ?_)
  refine r_dup (pc := 44) hC dX0_init_44 rfl ?_
  first | refine r_aload (pc := 45) hC dX0_init_45 rfl ?_ | refine r_aloadN (pc := 45) hC dX0_init_45 rfl ?_
  refine r_iconst (pc := 47) (nI 0) hC dX0_init_47 (by decide) ?_
  refine r_callI (pc := 48) hC (ct_sinit hC.fl (isK_nwO' (k := 3))) ki_X0_38 rfl rfl (Nat.le_of_ble_eq_true rfl) ⟨by decide, by decide, by decide, by decide⟩ dX0_init_48 (fun _ _ h => h.elim) (fun v48 S48 h48 => ?_)
  obtain ⟨rfl, rfl⟩ := h48
  have FS := fr_newO (sI9_fr (S := nwO S1 a41 3) (a := a41) (z := z0) (v := nI 0)) hf41
  have hks : isK (sI9 (nwO S1 a41 3) a41 z0 (nI 0)) 3 a41 := isK_nwO'
  have hk2 := FS.K p1
  have ns41 : a ≠ a41 := isK_fr p1 hf41
  refine r_pf (pc := 51) (κ := 1) (j := 3) hC cls1 (by decide) kf_X0_41 hk2 rfl rfl rfl dX0_init_51 ?_
  first | refine r_aload_n (pc := 54) hC dX0_init_54 rfl ?_ | refine r_aload_nN (pc := 54) hC dX0_init_54 rfl ?_
  refine r_gf (pc := 55) (κ := 1) (j := 2) hC cls1 (by decide) kf_X0_12 (isK_sF.mpr hk2) ((pF_sF_j _ _ _ _ (by decide)).trans ((FS.F p1 (fun q => q) 2).trans p4)) dX0_init_55 ?_
  first | refine r_aload_n (pc := 58) hC dX0_init_58 rfl ?_ | refine r_aload_nN (pc := 58) hC dX0_init_58 rfl ?_
  refine r_gf (pc := 59) (κ := 1) (j := 3) hC cls1 (by decide) kf_X0_41 (isK_sF.mpr hk2) (pF_sF_eq _ _ _ _) dX0_init_59 ?_
  refine r_callV (pc := 62) hC (ct_add hC.fl ((p8.fr9 FS (fun q => q) (fun _ q => q)).sF (v := .ref a41) (j := 3) hk2 (by decide)) (by decide) (isK_sF.mpr hks) cls3 kt_X2) kv_X0_45 cls0 (isK_sF.mpr (FS.K p8.1)) rfl rfl (Nat.le_of_ble_eq_true rfl) ⟨by decide, by decide, by decide, by decide⟩ dX0_init_62 (fun _ _ h => h.elim) (fun v62 S62 h62 => ?_)
  obtain ⟨rfl, r2, hA1, hA2, hA3, hA4⟩ := h62
  refine at_know hC (fun he9 => ?_)
  refine r_pop (pc := 65) hC dX0_init_65 rfl ?_
  refine r_vret (pc := 66) hC hR dX0_init_66 ?_ (by decide) (by decide)
  have hka : isK (sF (sI9 (nwO S1 a41 3) a41 z0 (nI 0)) 3 a (.ref a41)) 1 a := isK_sF.mpr hk2
  have hks3 : isK (sF (sI9 (nwO S1 a41 3) a41 z0 (nI 0)) 3 a (.ref a41)) 3 a41 := isK_sF.mpr hks
  have heS : ∀ k q, isK (sF (sI9 (nwO S1 a41 3) a41 z0 (nI 0)) 3 a (.ref a41)) k q → q ≠ G.2.2.1 := fun k q hq e => he9 (e ▸ (hA4 q hq.1).1)
  have na : ¬ (a = a5 ∨ a = G.2.2.1) := fun q => q.elim (isK_ne hka (isK_sF.mpr (FS.K p8.1)) (by decide)) (heS _ _ hka)
  have nss : ¬ (a41 = a5 ∨ a41 = G.2.2.1) := fun q => q.elim (isK_ne hks3 (isK_sF.mpr (FS.K p8.1)) (by decide)) (heS _ _ hks3)
  have f : ∀ j v, j ≠ 3 → pF S1 j a = v → pF S62 j a = v := fun j v hj hv => (hA4.F hka na j).trans ((pF_sF_j _ _ _ _ hj).trans ((FS.F p1 (fun q => q) j).trans hv))
  have FA : Fr (fun q => q = a ∨ (q = a5 ∨ q = G.2.2.1)) S S62 := (p0.mono (fun _ _ q => Or.inl q)).trans ((fr_any FS).trans ((Fr.sF (fun _ => Or.inl rfl)).trans (hA4.mono (fun _ _ q => Or.inr q))))
  refine ⟨rfl, a5, a41, r2, hf5, fun q => hf41 (p0 _ q).1, fun q => ?_, hA3, FA.mono (fun q hq h9 => ?_), hA4.K hka, f 0 _ (by decide) p2, f 1 _ (by decide) p3, f 2 _ (by decide) p4, (hA4.F hka na 3).trans (pF_sF_eq _ _ _ _), f 4 _ (by decide) p5, f 5 _ (by decide) p6, f 6 _ (by decide) p7, hA1.congr rfl (fun i hi => ?_), hA4.K hks3, ?_, ?_⟩
  · rcases hA2 with e | e
    · exact hA3 e
    · exact e (FS _ (p0 _ q).1).1
  · rcases h9 with e | e | e
    · exact e
    · exact absurd (e ▸ hq) hf5
    · exact absurd (e ▸ (FA q hq).1) he9
  · rw [show i = 0 by omega]; rfl
  · exact (hA4.F hks3 nss 0).trans ((pF_sF_j _ _ _ _ (by decide)).trans sI9_F.1)
  · exact (hA4.F hks3 nss 1).trans ((pF_sF_j _ _ _ _ (by decide)).trans sI9_F.2)
