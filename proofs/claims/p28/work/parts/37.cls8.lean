theorem RC.nn {G : Ids} {S : Ps} {Y : Lay} {σ : Sg} {x k a j : Nat} (h : RC G S Y σ x) (he : G.2.2.1 ∉ pL S) (hj : j < 3 + nb σ) (hk : isK S k a) (h0 : k ≠ 0) (h9 : k ≠ 9) : ¬ (a = Y 3 j ∨ a = Y 7 j) := fun q => q.elim (h.n3 hj hk h0) (h.n7 he hj hk h9)
theorem CO.rfl {G : Ids} {S : Ps} {Y : Lay} {σ : Sg} {x : Nat} (h : RC G S Y σ x) : CO G S S σ x := ⟨Fr.rfl, Y, h⟩
theorem CO.wy {G : Ids} {S S' : Ps} {Y : Lay} {σ : Sg} {x : Nat} (h : RC G S Y σ x) (w : Wy S S') : CO G S S' σ x := ⟨w.fr, Y, h.wy w⟩
def bN (q : Bool) : Nat := if q then 1 else 0
theorem nI_bN (q : Bool) : nI (bN q) = b2i q := by cases q <;> rfl
theorem bN_le (q : Bool) : bN q ≤ 1 := by cases q <;> decide
theorem nI_b2 {n : Nat} (h : n ≤ 1) : Value.int (nI n) = .int (b2i (decide (n = 1))) := by
  rcases (show n = 0 ∨ n = 1 by omega) with rfl | rfl <;> rfl
abbrev rm_X4_init : Room := { frames := 7, cells := 6, slots := 825, locals := 171 }
set_option maxHeartbeats 4000000 in
set_option maxRecDepth 100000 in
theorem ct_start {l : Launch} {G : Ids} {S : Ps} {x : Nat} (hfl : l.stackTraces = false) (hx : isK S 5 x) : Ct l (Cond.code yX4_init cX4_init 1 none) yX4_init rm_X4_init G [.ref x] S (fun v S9 => v = none ∧ (∃ Y, RC G S9 Y sg0 x) ∧ Fr (fun q => q = x) S S9) (fun _ _ => False) := by
  refine Ct.of hfl (by decide) (Nat.le_of_ble_eq_true rfl) (fun Γ V hC hR hT hI => ?_)
  first | refine r_aload_n (pc := 0) hC dX4_init_0 rfl ?_ | refine r_aload_nN (pc := 0) hC dX4_init_0 rfl ?_
  refine r_objInit (pc := 1) hC ko_X4_3 (Nat.le_of_ble_eq_true rfl) (by decide) dX4_init_1 ?_
  first | refine r_aload_n (pc := 4) hC dX4_init_4 rfl ?_ | refine r_aload_nN (pc := 4) hC dX4_init_4 rfl ?_
  refine r_new (pc := 5) hC cls4 kc_X4_9 kn_X3 (by decide) (by decide) (by decide) dX4_init_5 (fun a5 hf5 => ?_)
  refine r_dup (pc := 8) hC dX4_init_8 rfl ?_
  refine r_iconst (pc := 9) (nI 0) hC dX4_init_9 (by decide) ?_
  refine r_bipush (pc := 10) (nI 11) hC dX4_init_10 (by decide) ?_
  refine r_iconst (pc := 12) (nI 0) hC dX4_init_12 (by decide) ?_
  refine r_sipush (pc := 13) (nI 1440) hC dX4_init_13 (by decide) ?_
  refine r_callI (pc := 16) hC (ct_zinit hC.fl (isK_nwO' (k := 4))) ki_X4_11 rfl rfl (Nat.le_of_ble_eq_true rfl) ⟨by decide, by decide, by decide, by decide⟩ dX4_init_16 (fun _ _ h => h.elim) (fun v16 S16 h16 => ?_)
  obtain ⟨rfl, rfl⟩ := h16
  have FZ := fr_newO (zI_fr (S := nwO S a5 4) (a := a5) (v0 := nI 0) (v1 := nI 11) (v2 := nI 0) (v3 := nI 1440)) hf5
  have FZk := FZ.K hx
  have FZa : isK (zI (nwO S a5 4) a5 (nI 0) (nI 11) (nI 0) (nI 1440)) 4 a5 := isK_nwO'
  refine r_pfF (pc := 19) (κ := 5) (j := 0) hC cls5 (by decide) kf_X4_14 FZk rfl hI rfl rfl rfl dX4_init_19 ?_
  refine at_gen (fun S' => Fr (fun q => q = x) S S' ∧ isK S' 5 x ∧ pF S' 0 x = .ref a5 ∧ isK S' 4 a5 ∧ pF S' 0 a5 = .int (nI 0) ∧ pF S' 1 a5 = .int (nI 11) ∧ pF S' 2 a5 = .int (nI 0) ∧ pF S' 3 a5 = .int (nI 1440)) ?_ (fun S22 h22 => ?_)
  · refine ⟨fr_sF (fr_any FZ) rfl, isK_sF.mpr FZk, pF_sF_eq _ _ _ _, isK_sF.mpr FZa, ?_, ?_, ?_, ?_⟩
    · exact (pF_sF_a _ _ _ _ (isK_ne FZa FZk (by decide))).trans zI_F.1
    · exact (pF_sF_a _ _ _ _ (isK_ne FZa FZk (by decide))).trans zI_F.2.1
    · exact (pF_sF_a _ _ _ _ (isK_ne FZa FZk (by decide))).trans zI_F.2.2.1
    · exact (pF_sF_a _ _ _ _ (isK_ne FZa FZk (by decide))).trans zI_F.2.2.2
  obtain ⟨hF, kx, x0, kz, z0, z1, z2, z3⟩ := h22
  first | refine r_aload_n (pc := 22) hC dX4_init_22 rfl ?_ | refine r_aload_nN (pc := 22) hC dX4_init_22 rfl ?_
  refine r_new (pc := 23) hC cls0 kc_X4_18 kn_Jx4a65c (by decide) (by decide) (by decide) dX4_init_23 (fun a23 hf23 => ?_)
  refine r_dup (pc := 26) hC dX4_init_26 rfl ?_
  refine r_callI (pc := 27) hC (ct_listinit hC.fl isK_nwO') ki_X4_20 rfl rfl (Nat.le_of_ble_eq_true rfl) ⟨by decide, by decide, by decide, by decide⟩ dX4_init_27 (fun _ _ h => h.elim) (fun v27 S27 h27 => ?_)
  obtain ⟨rfl, rfl⟩ := h27
  have FL1 := lstI_fr (G := G) (S := S22) hf23
  have hf23x : a23 ∉ pL S := fun q => hf23 (hF _ q).1
  refine r_pfF (pc := 30) (κ := 5) (j := 1) hC cls5 (by decide) kf_X4_21 (FL1.K kx) rfl hI rfl rfl rfl dX4_init_30 ?_
  refine at_gen (fun S' => Fr (fun q => q = x) S S' ∧ isK S' 5 x ∧ pF S' 0 x = .ref a5 ∧ isK S' 4 a5 ∧ pF S' 0 a5 = .int (nI 0) ∧ pF S' 1 a5 = .int (nI 11) ∧ pF S' 2 a5 = .int (nI 0) ∧ pF S' 3 a5 = .int (nI 1440) ∧ pF S' 1 x = .ref a23 ∧ LsOK G S' 4 a23 G.2.2.1 0 (fun _ => a5)) ?_ (fun S33 h33 => ?_)
  · exact ⟨fr_sF (hF.trans (fr_any FL1)) rfl, isK_sF.mpr (FL1.K kx), (pF_sF_j _ _ _ _ (by decide)).trans ((FL1.F kx (fun q => q) 0).trans x0), isK_sF.mpr (FL1.K kz), (pF_sF_a _ _ _ _ (isK_ne (FL1.K kz) (FL1.K kx) (by decide))).trans ((FL1.F kz (fun q => q) 0).trans z0), (pF_sF_a _ _ _ _ (isK_ne (FL1.K kz) (FL1.K kx) (by decide))).trans ((FL1.F kz (fun q => q) 1).trans z1), (pF_sF_a _ _ _ _ (isK_ne (FL1.K kz) (FL1.K kx) (by decide))).trans ((FL1.F kz (fun q => q) 2).trans z2), (pF_sF_a _ _ _ _ (isK_ne (FL1.K kz) (FL1.K kx) (by decide))).trans ((FL1.F kz (fun q => q) 3).trans z3), pF_sF_eq _ _ _ _, lstI_ok.sF (FL1.K kx) (by decide)⟩
  obtain ⟨hF, kx, x0, kz, z0, z1, z2, z3, x1, l1⟩ := h33
  first | refine r_aload_n (pc := 33) hC dX4_init_33 rfl ?_ | refine r_aload_nN (pc := 33) hC dX4_init_33 rfl ?_
  refine r_new (pc := 34) hC cls0 kc_X4_18 kn_Jx4a65c (by decide) (by decide) (by decide) dX4_init_34 (fun a34 hf34 => ?_)
  refine r_dup (pc := 37) hC dX4_init_37 rfl ?_
  refine r_callI (pc := 38) hC (ct_listinit hC.fl isK_nwO') ki_X4_20 rfl rfl (Nat.le_of_ble_eq_true rfl) ⟨by decide, by decide, by decide, by decide⟩ dX4_init_38 (fun _ _ h => h.elim) (fun v38 S38 h38 => ?_)
  obtain ⟨rfl, rfl⟩ := h38
  have FL2 := lstI_fr (G := G) (S := S33) hf34
  have n01 : a23 ≠ a34 := isK_fr l1.1 hf34
  refine r_pfF (pc := 41) (κ := 5) (j := 2) hC cls5 (by decide) kf_X4_25 (FL2.K kx) rfl hI rfl rfl rfl dX4_init_41 ?_
  refine at_gen (fun S' => Fr (fun q => q = x) S S' ∧ isK S' 5 x ∧ pF S' 0 x = .ref a5 ∧ isK S' 4 a5 ∧ pF S' 0 a5 = .int (nI 0) ∧ pF S' 1 a5 = .int (nI 11) ∧ pF S' 2 a5 = .int (nI 0) ∧ pF S' 3 a5 = .int (nI 1440) ∧ pF S' 1 x = .ref a23 ∧ LsOK G S' 4 a23 G.2.2.1 0 (fun _ => a5) ∧ pF S' 2 x = .ref a34 ∧ LsOK G S' 2 a34 G.2.2.1 0 (fun _ => 0)) ?_ (fun S44 h44 => ?_)
  · exact ⟨fr_sF (hF.trans (fr_any FL2)) rfl, isK_sF.mpr (FL2.K kx), (pF_sF_j _ _ _ _ (by decide)).trans ((FL2.F kx (fun q => q) 0).trans x0), isK_sF.mpr (FL2.K kz), (pF_sF_a _ _ _ _ (isK_ne (FL2.K kz) (FL2.K kx) (by decide))).trans ((FL2.F kz (fun q => q) 0).trans z0), (pF_sF_a _ _ _ _ (isK_ne (FL2.K kz) (FL2.K kx) (by decide))).trans ((FL2.F kz (fun q => q) 1).trans z1), (pF_sF_a _ _ _ _ (isK_ne (FL2.K kz) (FL2.K kx) (by decide))).trans ((FL2.F kz (fun q => q) 2).trans z2), (pF_sF_a _ _ _ _ (isK_ne (FL2.K kz) (FL2.K kx) (by decide))).trans ((FL2.F kz (fun q => q) 3).trans z3), (pF_sF_j _ _ _ _ (by decide)).trans ((FL2.F kx (fun q => q) 1).trans x1), (l1.fr9 FL2 (fun q => q) (fun _ q => q)).sF (FL2.K kx) (by decide), pF_sF_eq _ _ _ _, lstI_ok.sF (FL2.K kx) (by decide)⟩
  obtain ⟨hF, kx, x0, kz, z0, z1, z2, z3, x1, l1, x2, l2⟩ := h44
  first | refine r_aload_n (pc := 44) hC dX4_init_44 rfl ?_ | refine r_aload_nN (pc := 44) hC dX4_init_44 rfl ?_
  refine r_new (pc := 45) hC cls0 kc_X4_18 kn_Jx4a65c (by decide) (by decide) (by decide) dX4_init_45 (fun a45 hf45 => ?_)
  refine r_dup (pc := 48) hC dX4_init_48 rfl ?_
  refine r_callI (pc := 49) hC (ct_listinit hC.fl isK_nwO') ki_X4_20 rfl rfl (Nat.le_of_ble_eq_true rfl) ⟨by decide, by decide, by decide, by decide⟩ dX4_init_49 (fun _ _ h => h.elim) (fun v49 S49 h49 => ?_)
  obtain ⟨rfl, rfl⟩ := h49
  have FL3 := lstI_fr (G := G) (S := S44) hf45
  have n02 : a23 ≠ a45 := isK_fr l1.1 hf45
  have n12 : a34 ≠ a45 := isK_fr l2.1 hf45
  refine r_pfF (pc := 52) (κ := 5) (j := 3) hC cls5 (by decide) kf_X4_28 (FL3.K kx) rfl hI rfl rfl rfl dX4_init_52 ?_
  refine at_gen (fun S' => Fr (fun q => q = x) S S' ∧ isK S' 5 x ∧ pF S' 0 x = .ref a5 ∧ isK S' 4 a5 ∧ pF S' 0 a5 = .int (nI 0) ∧ pF S' 1 a5 = .int (nI 11) ∧ pF S' 2 a5 = .int (nI 0) ∧ pF S' 3 a5 = .int (nI 1440) ∧ pF S' 1 x = .ref a23 ∧ LsOK G S' 4 a23 G.2.2.1 0 (fun _ => a5) ∧ pF S' 2 x = .ref a34 ∧ LsOK G S' 2 a34 G.2.2.1 0 (fun _ => 0) ∧ pF S' 3 x = .ref a45 ∧ LsOK G S' 1 a45 G.2.2.1 0 (fun _ => 0)) ?_ (fun S55 h55 => ?_)
  · exact ⟨fr_sF (hF.trans (fr_any FL3)) rfl, isK_sF.mpr (FL3.K kx), (pF_sF_j _ _ _ _ (by decide)).trans ((FL3.F kx (fun q => q) 0).trans x0), isK_sF.mpr (FL3.K kz), (pF_sF_a _ _ _ _ (isK_ne (FL3.K kz) (FL3.K kx) (by decide))).trans ((FL3.F kz (fun q => q) 0).trans z0), (pF_sF_a _ _ _ _ (isK_ne (FL3.K kz) (FL3.K kx) (by decide))).trans ((FL3.F kz (fun q => q) 1).trans z1), (pF_sF_a _ _ _ _ (isK_ne (FL3.K kz) (FL3.K kx) (by decide))).trans ((FL3.F kz (fun q => q) 2).trans z2), (pF_sF_a _ _ _ _ (isK_ne (FL3.K kz) (FL3.K kx) (by decide))).trans ((FL3.F kz (fun q => q) 3).trans z3), (pF_sF_j _ _ _ _ (by decide)).trans ((FL3.F kx (fun q => q) 1).trans x1), (l1.fr9 FL3 (fun q => q) (fun _ q => q)).sF (FL3.K kx) (by decide), (pF_sF_j _ _ _ _ (by decide)).trans ((FL3.F kx (fun q => q) 2).trans x2), (l2.fr9 FL3 (fun q => q) (fun _ q => q)).sF (FL3.K kx) (by decide), pF_sF_eq _ _ _ _, lstI_ok.sF (FL3.K kx) (by decide)⟩
  obtain ⟨hF, kx, x0, kz, z0, z1, z2, z3, x1, l1, x2, l2, x3, l3⟩ := h55
  first | refine r_aload_n (pc := 55) hC dX4_init_55 rfl ?_ | refine r_aload_nN (pc := 55) hC dX4_init_55 rfl ?_
  refine r_iconst (pc := 56) (nI 0) hC dX4_init_56 (by decide) ?_
  refine r_pf (pc := 57) (κ := 5) (j := 4) hC cls5 (by decide) kf_X4_31 kx rfl rfl rfl dX4_init_57 ?_
  first | refine r_aload_n (pc := 60) hC dX4_init_60 rfl ?_ | refine r_aload_nN (pc := 60) hC dX4_init_60 rfl ?_
  refine r_iconst (pc := 61) (nI 0) hC dX4_init_61 (by decide) ?_
  refine r_pf (pc := 62) (κ := 5) (j := 5) hC cls5 (by decide) kf_X4_35 kx rfl rfl rfl dX4_init_62 ?_
  first | refine r_aload_n (pc := 65) hC dX4_init_65 rfl ?_ | refine r_aload_nN (pc := 65) hC dX4_init_65 rfl ?_
  refine r_gf (pc := 66) (κ := 5) (j := 1) hC cls5 (by decide) kf_X4_21 kx ((pF_sF_j _ _ _ _ (by decide)).trans ((pF_sF_j _ _ _ _ (by decide)).trans x1)) dX4_init_66 ?_
  first | refine r_aload_n (pc := 69) hC dX4_init_69 rfl ?_ | refine r_aload_nN (pc := 69) hC dX4_init_69 rfl ?_
  refine r_gf (pc := 70) (κ := 5) (j := 0) hC cls5 (by decide) kf_X4_14 kx ((pF_sF_j _ _ _ _ (by decide)).trans ((pF_sF_j _ _ _ _ (by decide)).trans x0)) dX4_init_70 ?_
  refine r_callV (pc := 73) hC (ct_add hC.fl ((l1.sF (j := 4) (v := .int (nI 0)) kx (by decide)).sF (j := 5) (v := .int (nI 0)) (isK_sF.mpr kx) (by decide)) (by decide) (isK_sF.mpr (isK_sF.mpr kz)) cls4 kt_X3) kv_X4_39 cls0 l1.1 rfl rfl (Nat.le_of_ble_eq_true rfl) ⟨by decide, by decide, by decide, by decide⟩ dX4_init_73 (fun _ _ h => h.elim) (fun v73 S73 h73 => ?_)
  obtain ⟨rfl, r2, hA1, hA2, hA3, hA4⟩ := h73
  refine at_know hC (fun he9 => ?_)
  refine r_pop (pc := 76) hC dX4_init_76 rfl ?_
  refine r_vret (pc := 77) hC hR dX4_init_77 ?_ (by decide) (by decide)
  have heS : ∀ k q, isK S55 k q → q ≠ G.2.2.1 := fun k q hq e => he9 (e ▸ (hA4 q hq.1).1)
  have nz9 : ∀ k q, isK S55 k q → k ≠ 0 → ¬ (q = a23 ∨ q = G.2.2.1) := fun k q hq hk h9 => h9.elim (isK_ne hq l1.1 hk) (heS k q hq)
  have nzx : a5 ≠ x := isK_ne kz kx (by decide)
  have FA : Fr (fun q => q = x ∨ (q = a23 ∨ q = G.2.2.1)) S S73 := (hF.mono (fun _ _ q => Or.inl q)).trans ((Fr.sF (fun _ => Or.inl rfl)).trans ((Fr.sF (fun _ => Or.inl rfl)).trans (hA4.mono (fun _ _ q => Or.inr q))))
  refine ⟨rfl, ⟨lay0 G a5 a23 a34 a45 r2, ?_⟩, FA.mono (fun q hq h9 => ?_)⟩
  · exact RC.start (hA4.K kx) ((hA4.F kx (nz9 _ _ kx (by decide)) 0).trans ((pF_sF_j _ _ _ _ (by decide)).trans ((pF_sF_j _ _ _ _ (by decide)).trans x0))) ((hA4.F kx (nz9 _ _ kx (by decide)) 1).trans ((pF_sF_j _ _ _ _ (by decide)).trans ((pF_sF_j _ _ _ _ (by decide)).trans x1))) ((hA4.F kx (nz9 _ _ kx (by decide)) 2).trans ((pF_sF_j _ _ _ _ (by decide)).trans ((pF_sF_j _ _ _ _ (by decide)).trans x2))) ((hA4.F kx (nz9 _ _ kx (by decide)) 3).trans ((pF_sF_j _ _ _ _ (by decide)).trans ((pF_sF_j _ _ _ _ (by decide)).trans x3))) ((hA4.F kx (nz9 _ _ kx (by decide)) 4).trans ((pF_sF_j _ _ _ _ (by decide)).trans (pF_sF_eq _ _ _ _))) ((hA4.F kx (nz9 _ _ kx (by decide)) 5).trans (pF_sF_eq _ _ _ _)) (hA1.congr rfl (fun i hi => by rw [show i = 0 by omega]; rfl)) (((l2.sF (j := 4) (v := .int (nI 0)) kx (by decide)).sF (j := 5) (v := .int (nI 0)) kx (by decide)).fr9 hA4 (fun h9 => h9.elim (Ne.symm n01) (heS _ _ l2.1)) (fun hk => absurd rfl (heS _ _ hk))) (((l3.sF (j := 4) (v := .int (nI 0)) kx (by decide)).sF (j := 5) (v := .int (nI 0)) kx (by decide)).fr9 hA4 (fun h9 => h9.elim (Ne.symm n02) (heS _ _ l3.1)) (fun hk => absurd rfl (heS _ _ hk))) n01 n02 n12 (hA4.K kz) ((hA4.F kz (nz9 _ _ kz (by decide)) 0).trans ((pF_sF_a _ _ _ _ nzx).trans ((pF_sF_a _ _ _ _ nzx).trans z0))) ((hA4.F kz (nz9 _ _ kz (by decide)) 1).trans ((pF_sF_a _ _ _ _ nzx).trans ((pF_sF_a _ _ _ _ nzx).trans z1))) ((hA4.F kz (nz9 _ _ kz (by decide)) 2).trans ((pF_sF_a _ _ _ _ nzx).trans ((pF_sF_a _ _ _ _ nzx).trans z2))) ((hA4.F kz (nz9 _ _ kz (by decide)) 3).trans ((pF_sF_a _ _ _ _ nzx).trans ((pF_sF_a _ _ _ _ nzx).trans z3)))
  · rcases h9 with e | e | e
    · exact e
    · exact absurd (e ▸ hq) hf23x
    · exact absurd (e ▸ (FA q hq).1) he9
abbrev rm_X4_keepBadge : Room := { frames := 8, cells := 8, slots := 1638, locals := 195 }
set_option maxHeartbeats 4000000 in
set_option maxRecDepth 100000 in
theorem ct_keepN {l : Launch} {G : Ids} {S : Ps} {Y : Lay} {σ : Sg} {x r : Nat} (hfl : l.stackTraces = false) (hZ : RC G S Y σ x) (hV : InvC σ) : Ct l (Cond.code yX4_keepBadge cX4_keepBadge 4 (some .int)) yX4_keepBadge rm_X4_keepBadge G [.ref x, .null, .int (nI r)] S (fun v S9 => decide (nb σ < 10) = true ∧ v = some (.int (nI (nb σ))) ∧ CO G S S9 (adB σ 0 r) x) (fun E S9 => S = S9 ∧ E = eISE ∧ decide (nb σ < 10) = false) := by
  refine Ct.of hfl (by decide) (Nat.le_of_ble_eq_true rfl) (fun Γ V hC hR hT hI => ?_)
  have hn := hV.n
  refine at_know hC (fun he => ?_)
  first | refine r_aload_n (pc := 0) hC dX4_keepBadge_0 rfl ?_ | refine r_aload_nN (pc := 0) hC dX4_keepBadge_0 rfl ?_
  refine r_gf (pc := 1) (κ := 5) (j := 3) hC cls5 (by decide) kf_X4_28 hZ.kx hZ.x3 dX4_keepBadge_1 ?_
  refine r_callV (pc := 4) hC (ct_size hC.fl hZ.lb) kv_X4_47 cls0 hZ.lb.1 rfl rfl (Nat.le_of_ble_eq_true rfl) ⟨by decide, by decide, by decide, by decide⟩ dX4_keepBadge_4 (fun _ _ h => h.elim) (fun v4 S4 h4 => ?_)
  obtain ⟨rfl, rfl⟩ := h4
  refine r_istore_n (pc := 7) hC dX4_keepBadge_7 (by decide) ?_
  refine r_iload_n (pc := 8) hC dX4_keepBadge_8 rfl ?_
  refine r_bipush (pc := 9) (nI 10) hC dX4_keepBadge_9 (by decide) ?_
  first | refine rn_icmp_lt (pc := 11) (tgt := 24) hC dX4_keepBadge_11 (by decide) (by omega) (by omega) (fun c11 => ?_) (fun c11 => ?_) | refine ri_icmp_lt (pc := 11) (tgt := 24) hC dX4_keepBadge_11 (by decide) (fun c11 => ?_) (fun c11 => ?_)
  · -- taken
    first | refine r_aload_n (pc := 24) hC dX4_keepBadge_24 rfl ?_ | refine r_aload_nN (pc := 24) hC dX4_keepBadge_24 rfl ?_
    refine r_gf (pc := 25) (κ := 5) (j := 3) hC cls5 (by decide) kf_X4_28 hZ.kx hZ.x3 dX4_keepBadge_25 ?_
    refine r_new (pc := 28) hC cls1 kc_X4_127 kn_X0 (by decide) (by decide) (by decide) dX4_keepBadge_28 (fun a28 hf28 => ?_)
    refine r_dup (pc := 31) hC dX4_keepBadge_31 rfl ?_
    refine r_iload_n (pc := 32) hC dX4_keepBadge_32 rfl ?_
    first | refine r_aload_n (pc := 33) hC dX4_keepBadge_33 rfl ?_ | refine r_aload_nN (pc := 33) hC dX4_keepBadge_33 rfl ?_
    refine r_iload_n (pc := 34) hC dX4_keepBadge_34 rfl ?_
    first | refine r_aload_n (pc := 35) hC dX4_keepBadge_35 rfl ?_ | refine r_aload_nN (pc := 35) hC dX4_keepBadge_35 rfl ?_
    refine r_gf (pc := 36) (κ := 5) (j := 0) hC cls5 (by decide) kf_X4_14 (isK_nwO hZ.kx hf28) ((pF_nwO S a28 1 0 x).trans ((if_neg (isK_fr hZ.kx hf28)).trans hZ.x0)) dX4_keepBadge_36 ?_
    refine r_callI (pc := 39) hC (ct_binitN hC.fl (isK_nwO' (k := 1))) ki_X4_225 rfl rfl (Nat.le_of_ble_eq_true rfl) ⟨by decide, by decide, by decide, by decide⟩ dX4_keepBadge_39 (fun _ _ h => h.elim) (fun v39 S39 h39 => ?_)
    obtain ⟨rfl, a1, s, r1, i1, i2, i3, i4, iF, ik, i5, i6, i7, i8, i9, i10, i11, iL, is, i12, i13⟩ := h39
    have F1 := fr_newO iF hf28
    have hZ1 := hZ.fr0 F1
    refine r_callV (pc := 42) hC (ct_add hC.fl hZ1.lb (by omega) ik cls1 kt_X0) kv_X4_39 cls0 hZ1.lb.1 rfl rfl (Nat.le_of_ble_eq_true rfl) ⟨by decide, by decide, by decide, by decide⟩ dX4_keepBadge_42 (fun _ _ h => h.elim) (fun v42 S42 h42 => ?_)
    obtain ⟨rfl, r2, hA1, hA2, hA3, hA4⟩ := h42
    refine at_know hC (fun he9 => ?_)
    refine r_pop (pc := 45) hC dX4_keepBadge_45 rfl ?_
    refine r_iload_n (pc := 46) hC dX4_keepBadge_46 rfl ?_
    refine r_iret (pc := 47) hC hR dX4_keepBadge_47 ?_ (by decide) (by decide)
    have he1 : G.2.2.1 ∉ pL S39 := fun q => he9 (hA4 _ q).1
    have pS : ∀ q, q ∈ pL S → q ∈ pL (nwO S a28 1) := fun q h => List.mem_append_left _ h
    have j1 : a1 ∉ pL S := fun q => i1 (pS _ q)
    have j2 : s ∉ pL S := fun q => i2 (pS _ q)
    have j3 : r1 ∉ pL S := fun q => i3 (pS _ q)
    have na := hZ1.nn he1 (j := 2) (by omega) ik (by decide) (by decide)
    have ns9 := hZ1.nn he1 (j := 2) (by omega) is (by decide) (by decide)
    have k9 : isK S39 9 r1 := by
      rcases iL.2.2.2.2.2 with q | q
      · exact absurd q.1 i4
      · exact q.1
    have nl : ¬ (a1 = Y 3 2 ∨ a1 = Y 7 2) := fun q => q.elim (fun e => j1 (e ▸ (hZ.kl (j := 2) (by omega)).1)) (hZ1.n7 he1 (j := 2) (by omega) iL.1 (by decide))
    have nr : ¬ (r1 = Y 3 2 ∨ r1 = Y 7 2) := fun q => q.elim (isK_ne k9 (hZ1.kl (j := 2) (by omega)) (by decide)) (fun e => j3 (e ▸ (hZ.k7 (j := 2) (by omega) (fun z => i4 (e.trans z))).1))
    have FA : Fr (fun q => q = Y 3 2 ∨ q = Y 7 2) S S42 := (fr_any F1).trans hA4
    refine ⟨decide_eq_true (by omega), rfl, FA.mono (hZ.lsP' he (j := 2) (by omega)), _, hZ.addB hV (by omega) hf28 j1 j2 j3 i4 he FA hA1 (hA2.imp id (fun h9 => ⟨fun q => h9 (F1 _ q).1, fun e => h9 (e ▸ k9.1)⟩)) hA3 (by omega) (hA4.K ik) ((hA4.F ik na 0).trans i5) ((hA4.F ik na 1).trans (i6.trans ?_)) ((hA4.F ik na 2).trans i7) ((hA4.F ik na 3).trans i8) ((hA4.F ik na 4).trans i9) ((hA4.F ik na 5).trans i10) ((hA4.F ik na 6).trans i11) (iL.fr9 hA4 nl (fun _ => nr)) (hA4.K is) ((hA4.F is ns9 0).trans i12) ((hA4.F is ns9 1).trans i13)⟩
    exact (if_pos rfl).symm
  · -- not
    refine r_throw (pc := 14) hC hR hT (cls := "java/lang/IllegalStateException") (text := "no more badges") (by decide +kernel) ats_ISE kc_X4_51 kini_ISE (by decide) dX4_keepBadge_14 dX4_keepBadge_17 dX4_keepBadge_18 dX4_keepBadge_20 dX4_keepBadge_23 (by decide) (Nat.le_of_ble_eq_true rfl) (by decide) (by decide) ?_
    exact ⟨rfl, rfl, decide_eq_false (by omega)⟩
set_option maxHeartbeats 4000000 in
set_option maxRecDepth 100000 in
theorem ct_keepS {l : Launch} {G : Ids} {S : Ps} {Y : Lay} {σ : Sg} {x r h : Nat} (hfl : l.stackTraces = false) (hZ : RC G S Y σ x) (hV : InvC σ) (hh : h < nb σ) : Ct l (Cond.code yX4_keepBadge cX4_keepBadge 4 (some .int)) yX4_keepBadge rm_X4_keepBadge G [.ref x, .ref (Y 2 h), .int (nI r)] S (fun v S9 => decide (nb σ < 10) = true ∧ v = some (.int (nI (nb σ))) ∧ CO G S S9 (adB σ (h + 1) r) x) (fun E S9 => S = S9 ∧ E = eISE ∧ decide (nb σ < 10) = false) := by
  refine Ct.of hfl (by decide) (Nat.le_of_ble_eq_true rfl) (fun Γ V hC hR hT hI => ?_)
  have hn := hV.n
  refine at_know hC (fun he => ?_)
  first | refine r_aload_n (pc := 0) hC dX4_keepBadge_0 rfl ?_ | refine r_aload_nN (pc := 0) hC dX4_keepBadge_0 rfl ?_
  refine r_gf (pc := 1) (κ := 5) (j := 3) hC cls5 (by decide) kf_X4_28 hZ.kx hZ.x3 dX4_keepBadge_1 ?_
  refine r_callV (pc := 4) hC (ct_size hC.fl hZ.lb) kv_X4_47 cls0 hZ.lb.1 rfl rfl (Nat.le_of_ble_eq_true rfl) ⟨by decide, by decide, by decide, by decide⟩ dX4_keepBadge_4 (fun _ _ h => h.elim) (fun v4 S4 h4 => ?_)
  obtain ⟨rfl, rfl⟩ := h4
  refine r_istore_n (pc := 7) hC dX4_keepBadge_7 (by decide) ?_
  refine r_iload_n (pc := 8) hC dX4_keepBadge_8 rfl ?_
  refine r_bipush (pc := 9) (nI 10) hC dX4_keepBadge_9 (by decide) ?_
  first | refine rn_icmp_lt (pc := 11) (tgt := 24) hC dX4_keepBadge_11 (by decide) (by omega) (by omega) (fun c11 => ?_) (fun c11 => ?_) | refine ri_icmp_lt (pc := 11) (tgt := 24) hC dX4_keepBadge_11 (by decide) (fun c11 => ?_) (fun c11 => ?_)
  · -- taken
    first | refine r_aload_n (pc := 24) hC dX4_keepBadge_24 rfl ?_ | refine r_aload_nN (pc := 24) hC dX4_keepBadge_24 rfl ?_
    refine r_gf (pc := 25) (κ := 5) (j := 3) hC cls5 (by decide) kf_X4_28 hZ.kx hZ.x3 dX4_keepBadge_25 ?_
    refine r_new (pc := 28) hC cls1 kc_X4_127 kn_X0 (by decide) (by decide) (by decide) dX4_keepBadge_28 (fun a28 hf28 => ?_)
    refine r_dup (pc := 31) hC dX4_keepBadge_31 rfl ?_
    refine r_iload_n (pc := 32) hC dX4_keepBadge_32 rfl ?_
    first | refine r_aload_n (pc := 33) hC dX4_keepBadge_33 rfl ?_ | refine r_aload_nN (pc := 33) hC dX4_keepBadge_33 rfl ?_
    refine r_iload_n (pc := 34) hC dX4_keepBadge_34 rfl ?_
    first | refine r_aload_n (pc := 35) hC dX4_keepBadge_35 rfl ?_ | refine r_aload_nN (pc := 35) hC dX4_keepBadge_35 rfl ?_
    refine r_gf (pc := 36) (κ := 5) (j := 0) hC cls5 (by decide) kf_X4_14 (isK_nwO hZ.kx hf28) ((pF_nwO S a28 1 0 x).trans ((if_neg (isK_fr hZ.kx hf28)).trans hZ.x0)) dX4_keepBadge_36 ?_
    refine r_callI (pc := 39) hC (ct_binitS hC.fl (isK_nwO' (k := 1))) ki_X4_225 rfl rfl (Nat.le_of_ble_eq_true rfl) ⟨by decide, by decide, by decide, by decide⟩ dX4_keepBadge_39 (fun _ _ h => h.elim) (fun v39 S39 h39 => ?_)
    obtain ⟨rfl, a1, s, r1, i1, i2, i3, i4, iF, ik, i5, i6, i7, i8, i9, i10, i11, iL, is, i12, i13⟩ := h39
    have F1 := fr_newO iF hf28
    have hZ1 := hZ.fr0 F1
    refine r_callV (pc := 42) hC (ct_add hC.fl hZ1.lb (by omega) ik cls1 kt_X0) kv_X4_39 cls0 hZ1.lb.1 rfl rfl (Nat.le_of_ble_eq_true rfl) ⟨by decide, by decide, by decide, by decide⟩ dX4_keepBadge_42 (fun _ _ h => h.elim) (fun v42 S42 h42 => ?_)
    obtain ⟨rfl, r2, hA1, hA2, hA3, hA4⟩ := h42
    refine at_know hC (fun he9 => ?_)
    refine r_pop (pc := 45) hC dX4_keepBadge_45 rfl ?_
    refine r_iload_n (pc := 46) hC dX4_keepBadge_46 rfl ?_
    refine r_iret (pc := 47) hC hR dX4_keepBadge_47 ?_ (by decide) (by decide)
    have he1 : G.2.2.1 ∉ pL S39 := fun q => he9 (hA4 _ q).1
    have pS : ∀ q, q ∈ pL S → q ∈ pL (nwO S a28 1) := fun q h => List.mem_append_left _ h
    have j1 : a1 ∉ pL S := fun q => i1 (pS _ q)
    have j2 : s ∉ pL S := fun q => i2 (pS _ q)
    have j3 : r1 ∉ pL S := fun q => i3 (pS _ q)
    have na := hZ1.nn he1 (j := 2) (by omega) ik (by decide) (by decide)
    have ns9 := hZ1.nn he1 (j := 2) (by omega) is (by decide) (by decide)
    have k9 : isK S39 9 r1 := by
      rcases iL.2.2.2.2.2 with q | q
      · exact absurd q.1 i4
      · exact q.1
    have nl : ¬ (a1 = Y 3 2 ∨ a1 = Y 7 2) := fun q => q.elim (fun e => j1 (e ▸ (hZ.kl (j := 2) (by omega)).1)) (hZ1.n7 he1 (j := 2) (by omega) iL.1 (by decide))
    have nr : ¬ (r1 = Y 3 2 ∨ r1 = Y 7 2) := fun q => q.elim (isK_ne k9 (hZ1.kl (j := 2) (by omega)) (by decide)) (fun e => j3 (e ▸ (hZ.k7 (j := 2) (by omega) (fun z => i4 (e.trans z))).1))
    have FA : Fr (fun q => q = Y 3 2 ∨ q = Y 7 2) S S42 := (fr_any F1).trans hA4
    refine ⟨decide_eq_true (by omega), rfl, FA.mono (hZ.lsP' he (j := 2) (by omega)), _, hZ.addB hV (by omega) hf28 j1 j2 j3 i4 he FA hA1 (hA2.imp id (fun h9 => ⟨fun q => h9 (F1 _ q).1, fun e => h9 (e ▸ k9.1)⟩)) hA3 (by omega) (hA4.K ik) ((hA4.F ik na 0).trans i5) ((hA4.F ik na 1).trans (i6.trans ?_)) ((hA4.F ik na 2).trans i7) ((hA4.F ik na 3).trans i8) ((hA4.F ik na 4).trans i9) ((hA4.F ik na 5).trans i10) ((hA4.F ik na 6).trans i11) (iL.fr9 hA4 nl (fun _ => nr)) (hA4.K is) ((hA4.F is ns9 0).trans i12) ((hA4.F is ns9 1).trans i13)⟩
    exact (if_neg (by omega)).symm
  · -- not
    refine r_throw (pc := 14) hC hR hT (cls := "java/lang/IllegalStateException") (text := "no more badges") (by decide +kernel) ats_ISE kc_X4_51 kini_ISE (by decide) dX4_keepBadge_14 dX4_keepBadge_17 dX4_keepBadge_18 dX4_keepBadge_20 dX4_keepBadge_23 (by decide) (Nat.le_of_ble_eq_true rfl) (by decide) (by decide) ?_
    exact ⟨rfl, rfl, decide_eq_false (by omega)⟩
