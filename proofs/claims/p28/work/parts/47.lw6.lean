/-! HOW THE LAW BUILDS ITS HOUSE: the loops, the whole. -/
set_option maxHeartbeats 4000000 in
set_option maxRecDepth 100000 in
theorem bz_loop {Γ : Cx} {G : Ids} {V : Vx} {b L x c z d g N0 K1 T1 : Nat} {xs : Nat → Int32} {C0 C1 C2 : Int32} (hC : Ctx Γ G V cL_build RL rm_L_build 11) (hX : ScX Γ V b L xs) (hL : L ≤ 260) (hD : DF c z d g) (hN0 : C0 = nI N0) (h6 : N0 ≤ 6) (hK : K1 ≤ 200) (hT : T1 ≤ 30000) (nx : ∀ (S : Ps) (σ : Sg), BB G S x c z d g C0 C1 C2 σ → (nz σ = N0 ∧ 1 ≤ N0 ∧ nd σ = 0 ∧ nb σ = 0) → At Γ G V K1 T1 S [(0, .ref x), (1, .ref b), (2, .int (nI 0)), (3, .ref c), (4, .ref z), (5, .ref d), (6, .ref g)] 211 []) : ∀ (m i k1 s1 : Nat) (S : Ps) (σ : Sg), i + m = N0 → k1 + 6 * m ≤ K1 → s1 + 834 * m ≤ T1 → BB G S x c z d g C0 C1 C2 σ → (nz σ = i ∧ 1 ≤ i ∧ nd σ = 0 ∧ nb σ = 0) → At Γ G V k1 s1 S [(0, .ref x), (1, .ref b), (2, .int (nI 0)), (3, .ref c), (4, .ref z), (5, .ref d), (6, .ref g), (7, .int (nI i))] 18 [] := by
  intro m
  induction m with
  | zero =>
    intro i k1 s1 S σ hi hk hs hB hI
    have hI9 := hI
    have hn := hB.J.1.n
    refine r_iload (pc := 18) hC dL_build_18 rfl ?_
    first | refine r_aload_n (pc := 20) hC dL_build_20 rfl ?_ | refine r_aload_nN (pc := 20) hC dL_build_20 rfl ?_
    refine r_iconst (pc := 21) (nI 0) hC dL_build_21 (by decide) ?_
    refine r_iald (pc := 22) hC dL_build_22 hB.kc (by rw [hB.mc]; decide) (by rw [hB.mc]; decide) (hB.c0.trans hN0) ?_
    first | refine rn_icmp_ge (pc := 23) (tgt := 211) hC dL_build_23 (by decide) (by omega) (by omega) (fun c23 => ?_) (fun c23 => ?_) | refine ri_icmp_ge (pc := 23) (tgt := 211) hC dL_build_23 (by decide) (fun c23 => ?_) (fun c23 => ?_)
    · -- taken
      refine at_lv (lv' := [(0, .ref x), (1, .ref b), (2, .int (nI 0)), (3, .ref c), (4, .ref z), (5, .ref d), (6, .ref g)]) ⟨rfl, rfl, rfl, rfl, rfl, rfl, rfl, trivial⟩ ?_
      refine at_widen (k' := K1) (n' := T1) (by omega) (by omega) ?_
      rw [show i = N0 by omega] at hI
      exact nx _ _ hB hI
    · -- not
      exfalso; omega
  | succ m ih =>
    intro i k1 s1 S σ hi hk hs hB hI
    have hI9 := hI
    have hn := hB.J.1.n
    refine r_iload (pc := 18) hC dL_build_18 rfl ?_
    first | refine r_aload_n (pc := 20) hC dL_build_20 rfl ?_ | refine r_aload_nN (pc := 20) hC dL_build_20 rfl ?_
    refine r_iconst (pc := 21) (nI 0) hC dL_build_21 (by decide) ?_
    refine r_iald (pc := 22) hC dL_build_22 hB.kc (by rw [hB.mc]; decide) (by rw [hB.mc]; decide) (hB.c0.trans hN0) ?_
    first | refine rn_icmp_ge (pc := 23) (tgt := 211) hC dL_build_23 (by decide) (by omega) (by omega) (fun c23 => ?_) (fun c23 => ?_) | refine ri_icmp_ge (pc := 23) (tgt := 211) hC dL_build_23 (by decide) (fun c23 => ?_) (fun c23 => ?_)
    · -- taken
      exfalso; omega
    · -- not
      refine bz_step hC hX hL hD hB hI.1 hI.2.1 (by omega) (by omega) (by omega) (fun S9 σ9 hB9 e1 e2 e3 => ?_)
      exact ih (i + 1) _ _ S9 σ9 (by omega) (by omega) (by omega) hB9 ⟨e1, by omega, e2.trans hI.2.2.1, e3.trans hI.2.2.2⟩
set_option maxHeartbeats 4000000 in
set_option maxRecDepth 100000 in
theorem bd_loop {Γ : Cx} {G : Ids} {V : Vx} {b L x c z d g N0 N1 K1 T1 : Nat} {xs : Nat → Int32} {C0 C1 C2 : Int32} (hC : Ctx Γ G V cL_build RL rm_L_build 11) (hX : ScX Γ V b L xs) (hL : L ≤ 260) (hD : DF c z d g) (hN0 : C0 = nI N0) (h6 : N0 ≤ 6) (hN1 : C1 = nI N1) (h8 : N1 ≤ 8) (h02 : 0 < N1 → 2 ≤ N0) (hK : K1 ≤ 200) (hT : T1 ≤ 30000) (nx : ∀ (S : Ps) (σ : Sg), BB G S x c z d g C0 C1 C2 σ → (nz σ = N0 ∧ nd σ = N1 ∧ nb σ = 0) → At Γ G V K1 T1 S [(0, .ref x), (1, .ref b), (2, .int (nI 0)), (3, .ref c), (4, .ref z), (5, .ref d), (6, .ref g)] 458 []) : ∀ (m i k1 s1 : Nat) (S : Ps) (σ : Sg), i + m = N1 → k1 + 7 * m ≤ K1 → s1 + 839 * m ≤ T1 → BB G S x c z d g C0 C1 C2 σ → (nz σ = N0 ∧ nd σ = i ∧ nb σ = 0) → At Γ G V k1 s1 S [(0, .ref x), (1, .ref b), (2, .int (nI 0)), (3, .ref c), (4, .ref z), (5, .ref d), (6, .ref g), (7, .int (nI i))] 242 [] := by
  intro m
  induction m with
  | zero =>
    intro i k1 s1 S σ hi hk hs hB hI
    have hI9 := hI
    have hn := hB.J.1.n
    refine r_iload (pc := 242) hC dL_build_242 rfl ?_
    first | refine r_aload_n (pc := 244) hC dL_build_244 rfl ?_ | refine r_aload_nN (pc := 244) hC dL_build_244 rfl ?_
    refine r_iconst (pc := 245) (nI 1) hC dL_build_245 (by decide) ?_
    refine r_iald (pc := 246) hC dL_build_246 hB.kc (by rw [hB.mc]; decide) (by rw [hB.mc]; decide) (hB.c1.trans hN1) ?_
    first | refine rn_icmp_ge (pc := 247) (tgt := 458) hC dL_build_247 (by decide) (by omega) (by omega) (fun c247 => ?_) (fun c247 => ?_) | refine ri_icmp_ge (pc := 247) (tgt := 458) hC dL_build_247 (by decide) (fun c247 => ?_) (fun c247 => ?_)
    · -- taken
      refine at_lv (lv' := [(0, .ref x), (1, .ref b), (2, .int (nI 0)), (3, .ref c), (4, .ref z), (5, .ref d), (6, .ref g)]) ⟨rfl, rfl, rfl, rfl, rfl, rfl, rfl, trivial⟩ ?_
      refine at_widen (k' := K1) (n' := T1) (by omega) (by omega) ?_
      rw [show i = N1 by omega] at hI
      exact nx _ _ hB hI
    · -- not
      exfalso; omega
  | succ m ih =>
    intro i k1 s1 S σ hi hk hs hB hI
    have hI9 := hI
    have hn := hB.J.1.n
    refine r_iload (pc := 242) hC dL_build_242 rfl ?_
    first | refine r_aload_n (pc := 244) hC dL_build_244 rfl ?_ | refine r_aload_nN (pc := 244) hC dL_build_244 rfl ?_
    refine r_iconst (pc := 245) (nI 1) hC dL_build_245 (by decide) ?_
    refine r_iald (pc := 246) hC dL_build_246 hB.kc (by rw [hB.mc]; decide) (by rw [hB.mc]; decide) (hB.c1.trans hN1) ?_
    first | refine rn_icmp_ge (pc := 247) (tgt := 458) hC dL_build_247 (by decide) (by omega) (by omega) (fun c247 => ?_) (fun c247 => ?_) | refine ri_icmp_ge (pc := 247) (tgt := 458) hC dL_build_247 (by decide) (fun c247 => ?_) (fun c247 => ?_)
    · -- taken
      exfalso; omega
    · -- not
      refine bd_step hC hX hL hD hB hN0 hI.1 (h02 (by omega)) h6 hI.2.1 (by omega) (by omega) (by omega) (fun S9 σ9 hB9 e1 e2 e3 => ?_)
      exact ih (i + 1) _ _ S9 σ9 (by omega) (by omega) (by omega) hB9 ⟨e1, e2, e3.trans hI.2.2⟩
set_option maxHeartbeats 4000000 in
set_option maxRecDepth 100000 in
theorem bb_loop {Γ : Cx} {G : Ids} {V : Vx} {b L x c z d g N0 N1 N2 K1 T1 : Nat} {xs : Nat → Int32} {C0 C1 C2 : Int32} (hC : Ctx Γ G V cL_build RL rm_L_build 11) (hX : ScX Γ V b L xs) (hL : L ≤ 260) (hD : DF c z d g) (hN2 : C2 = nI N2) (h6 : N2 ≤ 6) (hK : K1 ≤ 200) (hT : T1 ≤ 30000) (nx : ∀ (S : Ps) (σ : Sg), BB G S x c z d g C0 C1 C2 σ → (nz σ = N0 ∧ nd σ = N1 ∧ nb σ = N2) → At Γ G V K1 T1 S [(0, .ref x), (1, .ref b), (2, .int (nI 0)), (3, .ref c), (4, .ref z), (5, .ref d), (6, .ref g)] 674 []) : ∀ (m i k1 s1 : Nat) (S : Ps) (σ : Sg), i + m = N2 → k1 + 10 * m ≤ K1 → s1 + 1650 * m ≤ T1 → BB G S x c z d g C0 C1 C2 σ → (nz σ = N0 ∧ nd σ = N1 ∧ nb σ = i) → At Γ G V k1 s1 S [(0, .ref x), (1, .ref b), (2, .int (nI 0)), (3, .ref c), (4, .ref z), (5, .ref d), (6, .ref g), (7, .int (nI i))] 479 [] := by
  intro m
  induction m with
  | zero =>
    intro i k1 s1 S σ hi hk hs hB hI
    have hI9 := hI
    have hn := hB.J.1.n
    refine r_iload (pc := 479) hC dL_build_479 rfl ?_
    first | refine r_aload_n (pc := 481) hC dL_build_481 rfl ?_ | refine r_aload_nN (pc := 481) hC dL_build_481 rfl ?_
    refine r_iconst (pc := 482) (nI 2) hC dL_build_482 (by decide) ?_
    refine r_iald (pc := 483) hC dL_build_483 hB.kc (by rw [hB.mc]; decide) (by rw [hB.mc]; decide) (hB.c2.trans hN2) ?_
    first | refine rn_icmp_ge (pc := 484) (tgt := 674) hC dL_build_484 (by decide) (by omega) (by omega) (fun c484 => ?_) (fun c484 => ?_) | refine ri_icmp_ge (pc := 484) (tgt := 674) hC dL_build_484 (by decide) (fun c484 => ?_) (fun c484 => ?_)
    · -- taken
      refine at_lv (lv' := [(0, .ref x), (1, .ref b), (2, .int (nI 0)), (3, .ref c), (4, .ref z), (5, .ref d), (6, .ref g)]) ⟨rfl, rfl, rfl, rfl, rfl, rfl, rfl, trivial⟩ ?_
      refine at_widen (k' := K1) (n' := T1) (by omega) (by omega) ?_
      rw [show i = N2 by omega] at hI
      exact nx _ _ hB hI
    · -- not
      exfalso; omega
  | succ m ih =>
    intro i k1 s1 S σ hi hk hs hB hI
    have hI9 := hI
    have hn := hB.J.1.n
    refine r_iload (pc := 479) hC dL_build_479 rfl ?_
    first | refine r_aload_n (pc := 481) hC dL_build_481 rfl ?_ | refine r_aload_nN (pc := 481) hC dL_build_481 rfl ?_
    refine r_iconst (pc := 482) (nI 2) hC dL_build_482 (by decide) ?_
    refine r_iald (pc := 483) hC dL_build_483 hB.kc (by rw [hB.mc]; decide) (by rw [hB.mc]; decide) (hB.c2.trans hN2) ?_
    first | refine rn_icmp_ge (pc := 484) (tgt := 674) hC dL_build_484 (by decide) (by omega) (by omega) (fun c484 => ?_) (fun c484 => ?_) | refine ri_icmp_ge (pc := 484) (tgt := 674) hC dL_build_484 (by decide) (fun c484 => ?_) (fun c484 => ?_)
    · -- taken
      exfalso; omega
    · -- not
      refine bb_step hC hX hL hD hB hI.2.2 (by omega) (by omega) (by omega) (fun S9 σ9 hB9 e1 e2 e3 => ?_)
      exact ih (i + 1) _ _ S9 σ9 (by omega) (by omega) (by omega) hB9 ⟨e1.trans hI.1, e2.trans hI.2.1, e3⟩
set_option maxHeartbeats 4000000 in
set_option maxRecDepth 100000 in
theorem bu_458 {Γ : Cx} {G : Ids} {V : Vx} {b L x c z d g N0 N1 : Nat} {xs : Nat → Int32} {C2 : Int32} {S : Ps} {σ : Sg} (hC : Ctx Γ G V cL_build RL rm_L_build 11) (hR : Rt Γ G V rm_L_build (some .boolean) (fun v S9 => v = some (.int (nI 1)) ∧ ∃ σ, ZW G S9 x c z d σ ∧ Inv σ 0 ∧ Bd28 σ ∧ P28 σ ∧ mi σ = 0) (fun _ _ => False)) (hX : ScX Γ V b L xs) (hL : L ≤ 260) (hD : DF c z d g) (h1 : 1 ≤ N0) (h6 : N0 ≤ 6) (h8 : N1 ≤ 8) (hB : BB G S x c z d g (nI N0) (nI N1) C2 σ) (hI : nz σ = N0 ∧ nd σ = N1 ∧ nb σ = 0) : At Γ G V 120 14000 S [(0, .ref x), (1, .ref b), (2, .int (nI 0)), (3, .ref c), (4, .ref z), (5, .ref d), (6, .ref g)] 458 [] := by
  first | refine r_aload_n (pc := 458) hC dL_build_458 rfl ?_ | refine r_aload_nN (pc := 458) hC dL_build_458 rfl ?_
  refine r_iconst (pc := 459) (nI 2) hC dL_build_459 (by decide) ?_
  refine r_iconst (pc := 460) (nI 1) hC dL_build_460 (by decide) ?_
  first | refine r_aload_n (pc := 461) hC dL_build_461 rfl ?_ | refine r_aload_nN (pc := 461) hC dL_build_461 rfl ?_
  refine r_iload_n (pc := 462) hC dL_build_462 rfl ?_
  refine q_callSX (pc := 463) (k' := 120) (n' := 14000) hC hX (ct_cell hC.fl hL (by omega)) ks_L_9 rfl rfl (Nat.le_of_ble_eq_true rfl) ⟨by decide, by decide⟩ (show 120 + 0 ≤ 120 by omega) (show 120 ≤ 200 by omega) (show 14000 + 0 ≤ 14000 by omega) (show 14000 ≤ 30000 by omega) dL_build_463 (fun _ _ h => h) (fun v463 S9 h463 => ?_)
  obtain ⟨⟨y, rfl⟩, rfl⟩ := h463
  refine r_bipush (pc := 466) (nI 8) hC dL_build_466 (by decide) ?_
  refine r_ishr (pc := 468) hC dL_build_468 ?_
  refine r_bipush (pc := 469) (nI 6) hC dL_build_469 (by decide) ?_
  refine q_callS (pc := 471) (k' := 120) (n' := 14000) hC (ct_below hC.fl (m := 6) (by omega) (by omega)) ks_L_15 rfl rfl (Nat.le_of_ble_eq_true rfl) ⟨by decide, by decide⟩ (show 120 + 0 ≤ 120 by omega) (show 120 ≤ 200 by omega) (show 14000 + 0 ≤ 14000 by omega) (show 14000 ≤ 30000 by omega) dL_build_471 (fun _ _ h => h) (fun v471 S9 h471 => ?_)
  obtain ⟨⟨r, hr, rfl⟩, rfl⟩ := h471
  first | refine rn_iadd (pc := 474) hC dL_build_474 ?_ | refine r_iadd (pc := 474) hC dL_build_474 ?_
  refine r_iast (pc := 475) hC dL_build_475 hB.kc (by rw [hB.mc]; decide) (by rw [hB.mc]; decide) ?_
  obtain ⟨S3, hS3⟩ : ∃ S3, S3 = sI S c 2 (nI (1 + r)) := ⟨_, rfl⟩
  rw [← hS3]
  replace hB : BB G S3 x c z d g (nI N0) (nI N1) (nI (1 + r)) σ := by rw [hS3]; exact hB.sc2 hD
  refine r_iconst (pc := 476) (nI 0) hC dL_build_476 (by decide) ?_
  refine r_istore (pc := 477) hC dL_build_477 (by decide) ?_
  refine at_lv (lv' := [(0, .ref x), (1, .ref b), (2, .int (nI 0)), (3, .ref c), (4, .ref z), (5, .ref d), (6, .ref g), (7, .int (nI (0)))]) ⟨rfl, rfl, rfl, rfl, rfl, rfl, rfl, rfl, trivial⟩ ?_
  refine bb_loop (N0 := N0) (N1 := N1) (N2 := 1 + r) (K1 := 200) (T1 := 30000) hC hX hL hD rfl (by omega) (by decide) (by decide) (fun S4 σ4 hB4 hI4 => ?_) (1 + r) 0 _ _ _ _ (by omega) (by omega) (by omega) hB hI
  refine r_iconst (pc := 674) (nI 1) hC dL_build_674 (by decide) ?_
  refine r_zret (pc := 675) hC hR dL_build_675 (by first | rfl | exact b2i_z _ | decide) ?_ (by decide) (by decide)
  obtain ⟨w1, w2, w3⟩ := hB4.done hI4.1 hI4.2.1 hI4.2.2
  exact ⟨rfl, σ4, w1, hB4.J, ⟨by omega, by omega, by omega, by omega, by omega⟩, w2, w3⟩
set_option maxHeartbeats 4000000 in
set_option maxRecDepth 100000 in
theorem bu_238 {Γ : Cx} {G : Ids} {V : Vx} {b L x c z d g N0 N1 : Nat} {xs : Nat → Int32} {C1 C2 : Int32} {S : Ps} {σ : Sg} (hC : Ctx Γ G V cL_build RL rm_L_build 11) (hR : Rt Γ G V rm_L_build (some .boolean) (fun v S9 => v = some (.int (nI 1)) ∧ ∃ σ, ZW G S9 x c z d σ ∧ Inv σ 0 ∧ Bd28 σ ∧ P28 σ ∧ mi σ = 0) (fun _ _ => False)) (hX : ScX Γ V b L xs) (hL : L ≤ 260) (hD : DF c z d g) (h1 : 1 ≤ N0) (h6 : N0 ≤ 6) (h8 : N1 ≤ 8) (h02 : 0 < N1 → 2 ≤ N0) (hB : BB G S x c z d g (nI N0) C1 C2 σ) (hI : nz σ = N0 ∧ nd σ = 0 ∧ nb σ = 0) : At Γ G V 40 6000 S [(0, .ref x), (1, .ref b), (2, .int (nI 0)), (3, .ref c), (4, .ref z), (5, .ref d), (6, .ref g)] 238 [.int (nI N1), .int (nI 1), .ref c] := by
  refine r_iast (pc := 238) hC dL_build_238 hB.kc (by rw [hB.mc]; decide) (by rw [hB.mc]; decide) ?_
  obtain ⟨S2, hS2⟩ : ∃ S2, S2 = sI S c 1 (nI N1) := ⟨_, rfl⟩
  rw [← hS2]
  replace hB : BB G S2 x c z d g (nI N0) (nI N1) C2 σ := by rw [hS2]; exact hB.sc1 hD
  refine r_iconst (pc := 239) (nI 0) hC dL_build_239 (by decide) ?_
  refine r_istore (pc := 240) hC dL_build_240 (by decide) ?_
  refine at_lv (lv' := [(0, .ref x), (1, .ref b), (2, .int (nI 0)), (3, .ref c), (4, .ref z), (5, .ref d), (6, .ref g), (7, .int (nI (0)))]) ⟨rfl, rfl, rfl, rfl, rfl, rfl, rfl, rfl, trivial⟩ ?_
  refine bd_loop (N0 := N0) (N1 := N1) (K1 := 120) (T1 := 14000) hC hX hL hD rfl h6 rfl h8 h02 (by decide) (by decide) (fun S4 σ4 hB4 hI4 => ?_) N1 0 _ _ _ _ (by omega) (by omega) (by omega) hB hI
  exact bu_458 hC hR hX hL hD h1 h6 h8 hB4 hI4
set_option maxHeartbeats 4000000 in
set_option maxRecDepth 100000 in
theorem bu_211 {Γ : Cx} {G : Ids} {V : Vx} {b L x c z d g N0 : Nat} {xs : Nat → Int32} {C1 C2 : Int32} {S : Ps} {σ : Sg} (hC : Ctx Γ G V cL_build RL rm_L_build 11) (hR : Rt Γ G V rm_L_build (some .boolean) (fun v S9 => v = some (.int (nI 1)) ∧ ∃ σ, ZW G S9 x c z d σ ∧ Inv σ 0 ∧ Bd28 σ ∧ P28 σ ∧ mi σ = 0) (fun _ _ => False)) (hX : ScX Γ V b L xs) (hL : L ≤ 260) (hD : DF c z d g) (h1 : 1 ≤ N0) (h6 : N0 ≤ 6) (hB : BB G S x c z d g (nI N0) C1 C2 σ) (hI : nz σ = N0 ∧ nd σ = 0 ∧ nb σ = 0) : At Γ G V 40 6000 S [(0, .ref x), (1, .ref b), (2, .int (nI 0)), (3, .ref c), (4, .ref z), (5, .ref d), (6, .ref g)] 211 [] := by
  first | refine r_aload_n (pc := 211) hC dL_build_211 rfl ?_ | refine r_aload_nN (pc := 211) hC dL_build_211 rfl ?_
  refine r_iconst (pc := 212) (nI 1) hC dL_build_212 (by decide) ?_
  first | refine r_aload_n (pc := 213) hC dL_build_213 rfl ?_ | refine r_aload_nN (pc := 213) hC dL_build_213 rfl ?_
  refine r_iconst (pc := 214) (nI 0) hC dL_build_214 (by decide) ?_
  refine r_iald (pc := 215) hC dL_build_215 hB.kc (by rw [hB.mc]; decide) (by rw [hB.mc]; decide) hB.c0 ?_
  refine r_iconst (pc := 216) (nI 2) hC dL_build_216 (by decide) ?_
  first | refine rn_icmp_ge (pc := 217) (tgt := 224) hC dL_build_217 (by decide) (by omega) (by omega) (fun c217 => ?_) (fun c217 => ?_) | refine ri_icmp_ge (pc := 217) (tgt := 224) hC dL_build_217 (by decide) (fun c217 => ?_) (fun c217 => ?_)
  · -- taken
    refine r_iconst (pc := 224) (nI 1) hC dL_build_224 (by decide) ?_
    first | refine r_aload_n (pc := 225) hC dL_build_225 rfl ?_ | refine r_aload_nN (pc := 225) hC dL_build_225 rfl ?_
    refine r_iload_n (pc := 226) hC dL_build_226 rfl ?_
    refine q_callSX (pc := 227) (k' := 40) (n' := 6000) hC hX (ct_cell hC.fl hL (by omega)) ks_L_9 rfl rfl (Nat.le_of_ble_eq_true rfl) ⟨by decide, by decide⟩ (show 40 + 0 ≤ 40 by omega) (show 40 ≤ 200 by omega) (show 6000 + 0 ≤ 6000 by omega) (show 6000 ≤ 30000 by omega) dL_build_227 (fun _ _ h => h) (fun v227 S9 h227 => ?_)
    obtain ⟨⟨y, rfl⟩, rfl⟩ := h227
    refine r_iconst (pc := 230) (nI 4) hC dL_build_230 (by decide) ?_
    refine r_ishr (pc := 231) hC dL_build_231 ?_
    refine r_bipush (pc := 232) (nI 8) hC dL_build_232 (by decide) ?_
    refine q_callS (pc := 234) (k' := 40) (n' := 6000) hC (ct_below hC.fl (m := 8) (by omega) (by omega)) ks_L_15 rfl rfl (Nat.le_of_ble_eq_true rfl) ⟨by decide, by decide⟩ (show 40 + 0 ≤ 40 by omega) (show 40 ≤ 200 by omega) (show 6000 + 0 ≤ 6000 by omega) (show 6000 ≤ 30000 by omega) dL_build_234 (fun _ _ h => h) (fun v234 S9 h234 => ?_)
    obtain ⟨⟨r, hr, rfl⟩, rfl⟩ := h234
    first | refine rn_iadd (pc := 237) hC dL_build_237 ?_ | refine r_iadd (pc := 237) hC dL_build_237 ?_
    refine at_lv (lv' := [(0, .ref x), (1, .ref b), (2, .int (nI 0)), (3, .ref c), (4, .ref z), (5, .ref d), (6, .ref g)]) ⟨rfl, rfl, rfl, rfl, rfl, rfl, rfl, trivial⟩ ?_
    exact bu_238 hC hR hX hL hD h1 h6 (by omega) (by omega) hB hI
  · -- not
    refine r_iconst (pc := 220) (nI 0) hC dL_build_220 (by decide) ?_
    refine r_goto (pc := 221) (tgt := 238) hC dL_build_221 (by decide) ?_
    refine at_lv (lv' := [(0, .ref x), (1, .ref b), (2, .int (nI 0)), (3, .ref c), (4, .ref z), (5, .ref d), (6, .ref g)]) ⟨rfl, rfl, rfl, rfl, rfl, rfl, rfl, trivial⟩ ?_
    exact bu_238 hC hR hX hL hD h1 h6 (by omega) (by omega) hB hI
set_option maxHeartbeats 4000000 in
set_option maxRecDepth 100000 in
theorem ct_build {l : Launch} {G : Ids} {b L x c z d g : Nat} {xs : Nat → Int32} {S : Ps} {Y : Lay} (hfl : l.stackTraces = false) (hL : L ≤ 260) (hZ : RC G S Y sg0 x) (hK : KB S c z d g) (hD : DF c z d g) : CtX l (Cond.code yL_build cL_build 11 (some .boolean)) yL_build rm_L_build G b L xs [.ref x, .ref b, .int (nI 0), .ref c, .ref z, .ref d, .ref g] S (fun v S9 => v = some (.int (nI 1)) ∧ ∃ σ, ZW G S9 x c z d σ ∧ Inv σ 0 ∧ Bd28 σ ∧ P28 σ ∧ mi σ = 0) (fun _ _ => False) := by
  refine CtX.of hfl (by decide) (Nat.le_of_ble_eq_true rfl) (fun Γ V hC hR hX => ?_)
  have hB : BB G S x c z d g (pI S c 0) (pI S c 1) (pI S c 2) sg0 := ⟨⟨Y, hZ⟩, hK, Inv.st, ⟨rfl, rfl⟩, ⟨rfl, rfl, rfl⟩, fun q q0 q1 => absurd (show q < 1 from q1) (by omega), fun q q0 => absurd (show q < 0 from q0) (Nat.not_lt_zero _), fun q q0 => absurd (show q < 0 from q0) (Nat.not_lt_zero _)⟩
  first | refine r_aload_n (pc := 0) hC dL_build_0 rfl ?_ | refine r_aload_nN (pc := 0) hC dL_build_0 rfl ?_
  refine r_iconst (pc := 1) (nI 0) hC dL_build_1 (by decide) ?_
  refine r_iconst (pc := 2) (nI 1) hC dL_build_2 (by decide) ?_
  first | refine r_aload_n (pc := 3) hC dL_build_3 rfl ?_ | refine r_aload_nN (pc := 3) hC dL_build_3 rfl ?_
  refine r_iload_n (pc := 4) hC dL_build_4 rfl ?_
  refine q_callSX (pc := 5) (k' := 0) (n' := 0) hC hX (ct_cell hC.fl hL (by omega)) ks_L_9 rfl rfl (Nat.le_of_ble_eq_true rfl) ⟨by decide, by decide⟩ (show 0 + 0 ≤ 0 by omega) (show 0 ≤ 200 by omega) (show 0 + 0 ≤ 0 by omega) (show 0 ≤ 30000 by omega) dL_build_5 (fun _ _ h => h) (fun v5 S9 h5 => ?_)
  obtain ⟨⟨y, rfl⟩, rfl⟩ := h5
  refine r_bipush (pc := 8) (nI 6) hC dL_build_8 (by decide) ?_
  refine q_callS (pc := 10) (k' := 0) (n' := 0) hC (ct_below hC.fl (m := 6) (by omega) (by omega)) ks_L_15 rfl rfl (Nat.le_of_ble_eq_true rfl) ⟨by decide, by decide⟩ (show 0 + 0 ≤ 0 by omega) (show 0 ≤ 200 by omega) (show 0 + 0 ≤ 0 by omega) (show 0 ≤ 30000 by omega) dL_build_10 (fun _ _ h => h) (fun v10 S9 h10 => ?_)
  obtain ⟨⟨r, hr, rfl⟩, rfl⟩ := h10
  first | refine rn_iadd (pc := 13) hC dL_build_13 ?_ | refine r_iadd (pc := 13) hC dL_build_13 ?_
  refine r_iast (pc := 14) hC dL_build_14 hB.kc (by rw [hB.mc]; decide) (by rw [hB.mc]; decide) ?_
  obtain ⟨S1, hS1⟩ : ∃ S1, S1 = sI S c 0 (nI (1 + r)) := ⟨_, rfl⟩
  rw [← hS1]
  replace hB : BB G S1 x c z d g (nI (1 + r)) (pI S c 1) (pI S c 2) sg0 := by rw [hS1]; exact hB.sc0 hD
  obtain ⟨N0, hN0⟩ : ∃ N0, N0 = 1 + r := ⟨_, rfl⟩
  rw [← hN0] at hB
  refine r_iconst (pc := 15) (nI 1) hC dL_build_15 (by decide) ?_
  refine r_istore (pc := 16) hC dL_build_16 (by decide) ?_
  refine at_lv (lv' := [(0, .ref x), (1, .ref b), (2, .int (nI 0)), (3, .ref c), (4, .ref z), (5, .ref d), (6, .ref g), (7, .int (nI (1)))]) ⟨rfl, rfl, rfl, rfl, rfl, rfl, rfl, rfl, trivial⟩ ?_
  refine bz_loop (N0 := N0) (K1 := 40) (T1 := 6000) hC hX hL hD rfl (by omega) (by decide) (by decide) (fun S4 σ4 hB4 hI4 => ?_) r 1 _ _ _ _ (by omega) (by omega) (by omega) hB ⟨rfl, by decide, rfl, rfl⟩
  exact bu_211 hC hR hX hL hD (by omega) (by omega) hB4 ⟨hI4.1, hI4.2.2.1, hI4.2.2.2⟩
