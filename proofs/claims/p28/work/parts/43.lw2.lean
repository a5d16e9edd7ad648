/-! WHAT THE LAW LOOKS AT, from 202 on: over one house, pool after pool. -/
/-- the law's own rows tell the house: its numbers, capacities, locks -/
def AW (S : Ps) (c z d : Nat) (σ : Sg) : Prop := (isK S 7 c ∧ pN S c = 3 ∧ pI S c 0 = nI (nz σ) ∧ pI S c 1 = nI (nd σ) ∧ pI S c 2 = nI (nb σ)) ∧ (isK S 7 z ∧ pN S z = 24 ∧ ∀ q, 0 < q → q < nz σ → pI S z (3 * q) = nI (cap σ q)) ∧ (isK S 7 d ∧ pN S d = 48 ∧ ∀ q, q < nd σ → pI S d (4 * q + 3) = nI (lock σ q))
theorem ncP7 {S : Ps} {a : Nat} (ha : isK S 7 a) : ¬ cP S a := fun q => by
  unfold cP at q
  rw [ha.2] at q
  omega
theorem AW.fr {S S' : Ps} {c z d : Nat} {σ : Sg} (h : AW S c z d σ) (hF : Fr (cP S) S S') : AW S' c z d σ := by
  obtain ⟨⟨c1, c2, c3, c4, c5⟩, ⟨z1, z2, z3⟩, ⟨d1, d2, d3⟩⟩ := h
  refine ⟨⟨hF.K c1, (hF.N c1 (ncP7 c1)).trans c2, ?_, ?_, ?_⟩, ⟨hF.K z1, (hF.N z1 (ncP7 z1)).trans z2, ?_⟩, ⟨hF.K d1, (hF.N d1 (ncP7 d1)).trans d2, ?_⟩⟩
  · rw [hF.I c1 (ncP7 c1)]; exact c3
  · rw [hF.I c1 (ncP7 c1)]; exact c4
  · rw [hF.I c1 (ncP7 c1)]; exact c5
  · rw [hF.I z1 (ncP7 z1)]; exact z3
  · rw [hF.I d1 (ncP7 d1)]; exact d3
theorem AW.hs {S : Ps} {c z d : Nat} {σ σ' : Sg} (h : AW S c z d σ) (hs : H28 σ σ') : AW S c z d σ' := by
  obtain ⟨s1, s2, s3, s4, s5⟩ := hs
  unfold AW
  rw [s1, s2, s3, s4, s5]
  exact h
/-- the class's objects and the law's rows, of one house -/
def ZW (G : Ids) (S : Ps) (x c z d : Nat) (σ : Sg) : Prop := (∃ Y, RC G S Y σ x) ∧ AW S c z d σ
theorem ZW.co {G : Ids} {S S9 : Ps} {x c z d : Nat} {σ σ' : Sg} (h : ZW G S x c z d σ) (hC : CO G S S9 σ' x) (hs : H28 σ σ') : ZW G S9 x c z d σ' := ⟨hC.2, (h.2.fr hC.1).hs hs⟩
theorem ZW.rd {G : Ids} {S S9 : Ps} {x c z d : Nat} {σ : Sg} (h : ZW G S x c z d σ) (hC : CO G S S9 σ x) : ZW G S9 x c z d σ := h.co hC H28.rfl
section AWP
variable {S : Ps} {c z d q : Nat} {σ : Sg}
theorem AW.kc (h : AW S c z d σ) : isK S 7 c := h.1.1
theorem AW.nc (h : AW S c z d σ) : pN S c = 3 := h.1.2.1
theorem AW.c0 (h : AW S c z d σ) : pI S c 0 = nI (nz σ) := h.1.2.2.1
theorem AW.c1 (h : AW S c z d σ) : pI S c 1 = nI (nd σ) := h.1.2.2.2.1
theorem AW.c2 (h : AW S c z d σ) : pI S c 2 = nI (nb σ) := h.1.2.2.2.2
theorem AW.kz (h : AW S c z d σ) : isK S 7 z := h.2.1.1
theorem AW.nz (h : AW S c z d σ) : pN S z = 24 := h.2.1.2.1
theorem AW.zq (h : AW S c z d σ) (h0 : 0 < q) (hq : q < σ 0 0) : pI S z (3 * q) = nI (cap σ q) := h.2.1.2.2 q h0 hq
theorem AW.kd (h : AW S c z d σ) : isK S 7 d := h.2.2.1
theorem AW.nd (h : AW S c z d σ) : pN S d = 48 := h.2.2.2.1
theorem AW.dq (h : AW S c z d σ) (hq : q < σ 0 1) : pI S d (4 * q + 3) = nI (lock σ q) := h.2.2.2.2 q hq
end AWP
/-- a house of up to six zones, eight doors, one to six badges -/
def Bd28 (σ : Sg) : Prop := 1 ≤ nz σ ∧ nz σ ≤ 6 ∧ nd σ ≤ 8 ∧ 1 ≤ nb σ ∧ nb σ ≤ 6
set_option maxHeartbeats 4000000 in
set_option maxRecDepth 100000 in
theorem sg_end {Γ : Cx} {G : Ids} {V : Vx} {b x c z d t e n : Nat} {w : Bool} {σ : Sg} (hC : Ctx Γ G V code RL room_1 15) (hJ : Inv σ n) (hn5 : n ≤ 511) (hB : Bd28 σ) (he : e < nb σ) (ht : t < 40) {k s : Nat} {S : Ps} (hk : k + 10 ≤ 600104) (hs : s + 60 ≤ 7301314) (hZ : ZW G S x c z d σ) (nx : ∀ S9, ZW G S9 x c z d σ → At Γ G V (k + 10) (s + 60) S9 [(0, .ref b), (1, .ref x), (2, .ref c), (3, .ref z), (4, .ref d), (6, .int (nI (bN w))), (7, .int (nI (t + 1)))] 52 []) : At Γ G V k s S [(0, .ref b), (1, .ref x), (2, .ref c), (3, .ref z), (4, .ref d), (6, .int (nI (bN w))), (7, .int (nI t)), (9, .int (nI e)), (12, .int (nI (smZ σ e (nz σ))))] 451 [] := by
  obtain ⟨⟨Y, hR⟩, hA⟩ := id hZ
  obtain ⟨b1, b2, b3, b4, b5⟩ := id hB
  have hn := hJ.1.n
  have hw := bN_le w
  have hv := (hJ.1.vb he).2.2.2.2
  refine r_iload (pc := 451) hC dL_law_451 rfl ?_
  first | refine r_aload_n (pc := 453) hC dL_law_453 rfl ?_ | refine r_aload_nN (pc := 453) hC dL_law_453 rfl ?_
  refine q_callV (pc := 454) (k' := k) (n' := s) hC (cp_now hC.fl hR hJ hn5) kv_L_85 cls5 hR.kx rfl rfl (Nat.le_of_ble_eq_true rfl) ⟨by decide, by decide⟩ (show k + 0 ≤ k by omega) (show k ≤ 600104 by omega) (show s + 0 ≤ s by omega) (show s ≤ 7301314 by omega) dL_law_454 (fun _ _ h => h) (fun v454 S1 h454 => ?_)
  obtain ⟨rfl, hCO⟩ := h454
  have hZ := hZ.rd hCO
  obtain ⟨⟨Y, hR⟩, hA⟩ := id hZ
  rw [smZ_n hJ he]
  refine r_icmp_ne (pc := 457) (tgt := 513) hC dL_law_457 (by decide) (fun q => absurd rfl q) (fun _ => ?_)
  first | refine r_aload_n (pc := 460) hC dL_law_460 rfl ?_ | refine r_aload_nN (pc := 460) hC dL_law_460 rfl ?_
  refine r_iload (pc := 461) hC dL_law_461 rfl ?_
  first | refine r_aload_n (pc := 463) hC dL_law_463 rfl ?_ | refine r_aload_nN (pc := 463) hC dL_law_463 rfl ?_
  refine q_callV (pc := 464) (k' := k) (n' := s) hC (cp_now hC.fl hR hJ hn5) kv_L_85 cls5 hR.kx rfl rfl (Nat.le_of_ble_eq_true rfl) ⟨by decide, by decide⟩ (show k + 0 ≤ k by omega) (show k ≤ 600104 by omega) (show s + 0 ≤ s by omega) (show s ≤ 7301314 by omega) dL_law_464 (fun _ _ h => h) (fun v464 S2 h464 => ?_)
  obtain ⟨rfl, hCO⟩ := h464
  have hZ := hZ.rd hCO
  obtain ⟨⟨Y, hR⟩, hA⟩ := id hZ
  refine q_callV (pc := 467) (k' := k + 2) (n' := s + 12) hC (cn_wasIn hC.fl hR hJ hn5 he) kv_L_89 cls5 hR.kx rfl rfl (Nat.le_of_ble_eq_true rfl) ⟨by decide, by decide⟩ (show k + 2 ≤ k + 2 by omega) (show k + 2 ≤ 600104 by omega) (show s + 12 ≤ s + 12 by omega) (show s + 12 ≤ 7301314 by omega) dL_law_467 (fun _ _ h => h) (fun v467 S3 h467 => ?_)
  obtain ⟨rfl, hCO⟩ := h467
  have hZ := hZ.rd hCO
  obtain ⟨⟨Y, hR⟩, hA⟩ := id hZ
  first | refine r_aload_n (pc := 470) hC dL_law_470 rfl ?_ | refine r_aload_nN (pc := 470) hC dL_law_470 rfl ?_
  refine r_iload (pc := 471) hC dL_law_471 rfl ?_
  refine r_iconst (pc := 473) (nI 0) hC dL_law_473 (by decide) ?_
  refine q_callV (pc := 474) (k' := k + 4) (n' := s + 24) hC (cn_badge hC.fl hR hJ hn5 he (w := 0) (by decide)) kv_L_76 cls5 hR.kx rfl rfl (Nat.le_of_ble_eq_true rfl) ⟨by decide, by decide⟩ (show k + 2 + 2 ≤ k + 4 by omega) (show k + 4 ≤ 600104 by omega) (show s + 12 + 12 ≤ s + 24 by omega) (show s + 24 ≤ 7301314 by omega) dL_law_474 (fun _ _ h => h) (fun v474 S4 h474 => ?_)
  obtain ⟨rfl, hCO⟩ := h474
  have hZ := hZ.rd hCO
  obtain ⟨⟨Y, hR⟩, hA⟩ := id hZ
  rw [lk_now hJ he]
  refine r_icmp_ne (pc := 477) (tgt := 513) hC dL_law_477 (by decide) (fun q => absurd rfl q) (fun _ => ?_)
  first | refine r_aload_n (pc := 480) hC dL_law_480 rfl ?_ | refine r_aload_nN (pc := 480) hC dL_law_480 rfl ?_
  refine r_iload (pc := 481) hC dL_law_481 rfl ?_
  refine r_iconst (pc := 483) (nI 4) hC dL_law_483 (by decide) ?_
  refine q_callV (pc := 484) (k' := k + 6) (n' := s + 36) hC (cn_badge hC.fl hR hJ hn5 he (w := 4) (by decide)) kv_L_76 cls5 hR.kx rfl rfl (Nat.le_of_ble_eq_true rfl) ⟨by decide, by decide⟩ (show k + 4 + 2 ≤ k + 6 by omega) (show k + 6 ≤ 600104 by omega) (show s + 24 + 12 ≤ s + 36 by omega) (show s + 36 ≤ 7301314 by omega) dL_law_484 (fun _ _ h => h) (fun v484 S5 h484 => ?_)
  obtain ⟨rfl, hCO⟩ := h484
  have hZ := hZ.rd hCO
  obtain ⟨⟨Y, hR⟩, hA⟩ := id hZ
  show At _ _ _ _ _ _ _ 487 [.int (nI (rfs σ e))]
  refine r_iconst (pc := 487) (nI 3) hC dL_law_487 (by decide) ?_
  first | refine rn_icmp_gt (pc := 488) (tgt := 513) hC dL_law_488 (by decide) (by omega) (by omega) (fun c488 => ?_) (fun c488 => ?_) | refine ri_icmp_gt (pc := 488) (tgt := 513) hC dL_law_488 (by decide) (fun c488 => ?_) (fun c488 => ?_)
  · -- taken
    exfalso
    have := (hJ.1.vb he).2.2.2.2.2.1
    omega
  · -- not
    first | refine r_aload_n (pc := 491) hC dL_law_491 rfl ?_ | refine r_aload_nN (pc := 491) hC dL_law_491 rfl ?_
    refine r_iload (pc := 492) hC dL_law_492 rfl ?_
    refine r_iconst (pc := 494) (nI 4) hC dL_law_494 (by decide) ?_
    refine q_callV (pc := 495) (k' := k + 8) (n' := s + 48) hC (cn_badge hC.fl hR hJ hn5 he (w := 4) (by decide)) kv_L_76 cls5 hR.kx rfl rfl (Nat.le_of_ble_eq_true rfl) ⟨by decide, by decide⟩ (show k + 6 + 2 ≤ k + 8 by omega) (show k + 8 ≤ 600104 by omega) (show s + 36 + 12 ≤ s + 48 by omega) (show s + 48 ≤ 7301314 by omega) dL_law_495 (fun _ _ h => h) (fun v495 S6 h495 => ?_)
    obtain ⟨rfl, hCO⟩ := h495
    have hZ := hZ.rd hCO
    obtain ⟨⟨Y, hR⟩, hA⟩ := id hZ
    show At _ _ _ _ _ _ _ 498 [.int (nI (rfs σ e))]
    refine r_iconst (pc := 498) (nI 3) hC dL_law_498 (by decide) ?_
    first | refine rn_icmp_ne (pc := 499) (tgt := 515) hC dL_law_499 (by decide) (by omega) (by omega) (fun c499 => ?_) (fun c499 => ?_) | refine ri_icmp_ne (pc := 499) (tgt := 515) hC dL_law_499 (by decide) (fun c499 => ?_) (fun c499 => ?_)
    · -- taken
      first | refine rn_iinc (pc := 515) (q := 1) hC dL_law_515 rfl (by decide) ?_ | refine r_iinc (pc := 515) _ hC dL_law_515 rfl rfl (by decide) ?_
      refine r_goto (pc := 518) (tgt := 52) hC dL_law_518 (by decide) ?_
      refine at_lv (lv' := [(0, .ref b), (1, .ref x), (2, .ref c), (3, .ref z), (4, .ref d), (6, .int (nI (bN w))), (7, .int (nI (t + 1)))]) ⟨rfl, rfl, rfl, rfl, rfl, rfl, rfl, trivial⟩ ?_
      refine at_widen (k' := k + 10) (n' := s + 60) (by omega) (by omega) ?_
      exact nx _ hZ
    · -- not
      first | refine r_aload_n (pc := 502) hC dL_law_502 rfl ?_ | refine r_aload_nN (pc := 502) hC dL_law_502 rfl ?_
      refine r_iload (pc := 503) hC dL_law_503 rfl ?_
      refine r_iconst (pc := 505) (nI 3) hC dL_law_505 (by decide) ?_
      refine q_callV (pc := 506) (k' := k + 10) (n' := s + 60) hC (cn_badge hC.fl hR hJ hn5 he (w := 3) (by decide)) kv_L_76 cls5 hR.kx rfl rfl (Nat.le_of_ble_eq_true rfl) ⟨by decide, by decide⟩ (show k + 8 + 2 ≤ k + 10 by omega) (show k + 10 ≤ 600104 by omega) (show s + 48 + 12 ≤ s + 60 by omega) (show s + 60 ≤ 7301314 by omega) dL_law_506 (fun _ _ h => h) (fun v506 S7 h506 => ?_)
      obtain ⟨rfl, hCO⟩ := h506
      have hZ := hZ.rd hCO
      obtain ⟨⟨Y, hR⟩, hA⟩ := id hZ
      show At _ _ _ _ _ _ _ 509 [.int (nI (blk σ e))]
      refine r_iconst (pc := 509) (nI 1) hC dL_law_509 (by decide) ?_
      first | refine rn_icmp_eq (pc := 510) (tgt := 515) hC dL_law_510 (by decide) (by omega) (by omega) (fun c510 => ?_) (fun c510 => ?_) | refine ri_icmp_eq (pc := 510) (tgt := 515) hC dL_law_510 (by decide) (fun c510 => ?_) (fun c510 => ?_)
      · -- taken
        first | refine rn_iinc (pc := 515) (q := 1) hC dL_law_515 rfl (by decide) ?_ | refine r_iinc (pc := 515) _ hC dL_law_515 rfl rfl (by decide) ?_
        refine r_goto (pc := 518) (tgt := 52) hC dL_law_518 (by decide) ?_
        refine at_lv (lv' := [(0, .ref b), (1, .ref x), (2, .ref c), (3, .ref z), (4, .ref d), (6, .int (nI (bN w))), (7, .int (nI (t + 1)))]) ⟨rfl, rfl, rfl, rfl, rfl, rfl, rfl, trivial⟩ ?_
        refine at_widen (k' := k + 10) (n' := s + 60) (by omega) (by omega) ?_
        exact nx _ hZ
      · -- not
        exfalso
        have h1 := (hJ.1.vb he).2.2.2.2
        omega
set_option maxHeartbeats 4000000 in
set_option maxRecDepth 100000 in
theorem sg_sum {Γ : Cx} {G : Ids} {V : Vx} {b x c z d t e n : Nat} {w : Bool} {σ : Sg} (hC : Ctx Γ G V code RL room_1 15) (hJ : Inv σ n) (hn5 : n ≤ 511) (hB : Bd28 σ) (he : e < nb σ) (ht : t < 40) {k s : Nat} {S : Ps} (hk : k + 22 ≤ 600104) (hs : s + 132 ≤ 7301314) (hZ : ZW G S x c z d σ) (nx : ∀ S9, ZW G S9 x c z d σ → At Γ G V (k + 12 + 10) (s + 72 + 60) S9 [(0, .ref b), (1, .ref x), (2, .ref c), (3, .ref z), (4, .ref d), (6, .int (nI (bN w))), (7, .int (nI (t + 1)))] 52 []) : At Γ G V k s S [(0, .ref b), (1, .ref x), (2, .ref c), (3, .ref z), (4, .ref d), (6, .int (nI (bN w))), (7, .int (nI t)), (9, .int (nI e))] 418 [] := by
  obtain ⟨⟨Y, hR⟩, hA⟩ := id hZ
  obtain ⟨b1, b2, b3, b4, b5⟩ := id hB
  have hn := hJ.1.n
  have hw := bN_le w
  have lp : ∀ (m i k1 s1 : Nat) (S : Ps), i + m = nz σ → k1 + 2 * m ≤ k + 12 → s1 + 12 * m ≤ s + 72 → ZW G S x c z d σ → At Γ G V k1 s1 S [(0, .ref b), (1, .ref x), (2, .ref c), (3, .ref z), (4, .ref d), (6, .int (nI (bN w))), (7, .int (nI t)), (9, .int (nI e)), (12, .int (nI (smZ σ e (i)))), (13, .int (nI (i)))] 424 [] := by
    intro m
    induction m with
    | zero =>
      intro i k1 s1 S hi hk1 hs1 hZ
      obtain ⟨⟨Y, hR⟩, hA⟩ := id hZ
      have ei : i = nz σ := by omega
      subst ei
      refine r_iload (pc := 424) hC dL_law_424 rfl ?_
      first | refine r_aload_n (pc := 426) hC dL_law_426 rfl ?_ | refine r_aload_nN (pc := 426) hC dL_law_426 rfl ?_
      refine r_iconst (pc := 427) (nI 0) hC dL_law_427 (by decide) ?_
      refine r_iald (pc := 428) hC dL_law_428 hA.kc (by rw [hA.nc]; decide) (by rw [hA.nc]; decide) hA.c0 ?_
      first | refine rn_icmp_ge (pc := 429) (tgt := 451) hC dL_law_429 (by decide) (by omega) (by omega) (fun c429 => ?_) (fun c429 => ?_) | refine ri_icmp_ge (pc := 429) (tgt := 451) hC dL_law_429 (by decide) (fun c429 => ?_) (fun c429 => ?_)
      · -- taken
        refine at_lv (lv' := [(0, .ref b), (1, .ref x), (2, .ref c), (3, .ref z), (4, .ref d), (6, .int (nI (bN w))), (7, .int (nI t)), (9, .int (nI e)), (12, .int (nI (smZ σ e (nz σ))))]) ⟨rfl, rfl, rfl, rfl, rfl, rfl, rfl, rfl, rfl, trivial⟩ ?_
        refine at_widen (k' := k + 12) (n' := s + 72) (by omega) (by omega) ?_
        exact sg_end hC hJ hn5 hB he ht (by omega) (by omega) hZ nx
      · -- not
        exfalso; omega
    | succ m ih =>
      intro i k1 s1 S hi hk1 hs1 hZ
      obtain ⟨⟨Y, hR⟩, hA⟩ := id hZ
      refine r_iload (pc := 424) hC dL_law_424 rfl ?_
      first | refine r_aload_n (pc := 426) hC dL_law_426 rfl ?_ | refine r_aload_nN (pc := 426) hC dL_law_426 rfl ?_
      refine r_iconst (pc := 427) (nI 0) hC dL_law_427 (by decide) ?_
      refine r_iald (pc := 428) hC dL_law_428 hA.kc (by rw [hA.nc]; decide) (by rw [hA.nc]; decide) hA.c0 ?_
      first | refine rn_icmp_ge (pc := 429) (tgt := 451) hC dL_law_429 (by decide) (by omega) (by omega) (fun c429 => ?_) (fun c429 => ?_) | refine ri_icmp_ge (pc := 429) (tgt := 451) hC dL_law_429 (by decide) (fun c429 => ?_) (fun c429 => ?_)
      · -- taken
        exfalso; omega
      · -- not
        refine r_iload (pc := 432) hC dL_law_432 rfl ?_
        first | refine r_aload_n (pc := 434) hC dL_law_434 rfl ?_ | refine r_aload_nN (pc := 434) hC dL_law_434 rfl ?_
        refine r_iload (pc := 435) hC dL_law_435 rfl ?_
        refine r_iload (pc := 437) hC dL_law_437 rfl ?_
        refine q_callV (pc := 439) (k' := k1 + 2) (n' := s1 + 12) hC (cn_minutesIn hC.fl hR hJ hn5 he (z := i) (by omega)) kv_L_82 cls5 hR.kx rfl rfl (Nat.le_of_ble_eq_true rfl) ⟨by decide, by decide⟩ (show k1 + 2 ≤ k1 + 2 by omega) (show k1 + 2 ≤ 600104 by omega) (show s1 + 12 ≤ s1 + 12 by omega) (show s1 + 12 ≤ 7301314 by omega) dL_law_439 (fun _ _ h => h) (fun v439 S1 h439 => ?_)
        obtain ⟨rfl, hCO⟩ := h439
        have hZ := hZ.rd hCO
        obtain ⟨⟨Y, hR⟩, hA⟩ := id hZ
        refine rn_iadd (pc := 442) hC dL_law_442 ?_
        rw [← smZ_s]
        refine r_istore (pc := 443) hC dL_law_443 (by decide) ?_
        first | refine rn_iinc (pc := 445) (q := 1) hC dL_law_445 rfl (by decide) ?_ | refine r_iinc (pc := 445) _ hC dL_law_445 rfl rfl (by decide) ?_
        refine r_goto (pc := 448) (tgt := 424) hC dL_law_448 (by decide) ?_
        refine at_lv (lv' := [(0, .ref b), (1, .ref x), (2, .ref c), (3, .ref z), (4, .ref d), (6, .int (nI (bN w))), (7, .int (nI t)), (9, .int (nI e)), (12, .int (nI (smZ σ e (i + 1)))), (13, .int (nI (i + 1)))]) ⟨rfl, rfl, rfl, rfl, rfl, rfl, rfl, rfl, rfl, rfl, trivial⟩ ?_
        exact ih (i + 1) _ _ _ (by omega) (by omega) (by omega) hZ
  refine r_iconst (pc := 418) (nI 0) hC dL_law_418 (by decide) ?_
  refine r_istore (pc := 419) hC dL_law_419 (by decide) ?_
  refine r_iconst (pc := 421) (nI 0) hC dL_law_421 (by decide) ?_
  refine r_istore (pc := 422) hC dL_law_422 (by decide) ?_
  refine at_lv (lv' := [(0, .ref b), (1, .ref x), (2, .ref c), (3, .ref z), (4, .ref d), (6, .int (nI (bN w))), (7, .int (nI t)), (9, .int (nI e)), (12, .int (nI 0)), (13, .int (nI 0))]) ⟨rfl, rfl, rfl, rfl, rfl, rfl, rfl, rfl, rfl, rfl, trivial⟩ ?_
  have h0 := lp (nz σ) 0 k s S (by omega) (by omega) (by omega) hZ
  rw [smZ_0] at h0
  exact h0
theorem shl_le {σ : Sg} {n d : Nat} (hJ : Inv σ n) (hd : d < nd σ) : lft σ d ≤ 200000 := by
  have := (hJ.1.vd hd).2.2.2.2.2
  unfold lft; omega
set_option maxHeartbeats 4000000 in
set_option maxRecDepth 100000 in
theorem sg_lock {Γ : Cx} {G : Ids} {V : Vx} {b x c z d t e n : Nat} {w : Bool} {σ : Sg} (hC : Ctx Γ G V code RL room_1 15) (hJ : Inv σ n) (hn5 : n ≤ 511) (hB : Bd28 σ) (he : e < nb σ) (ht : t < 40) {k s : Nat} {S : Ps} (hP : w = false → P28 σ) (hk : k + 128 ≤ 600104) (hs : s + 768 ≤ 7301314) (hZ : ZW G S x c z d σ) (nx : ∀ S9, ZW G S9 x c z d σ → At Γ G V (k + 128) (s + 768) S9 [(0, .ref b), (1, .ref x), (2, .ref c), (3, .ref z), (4, .ref d), (6, .int (nI (bN w))), (7, .int (nI t)), (9, .int (nI e))] 418 []) : At Γ G V k s S [(0, .ref b), (1, .ref x), (2, .ref c), (3, .ref z), (4, .ref d), (6, .int (nI (bN w))), (7, .int (nI t)), (9, .int (nI e))] 327 [] := by
  obtain ⟨⟨Y, hR⟩, hA⟩ := id hZ
  obtain ⟨b1, b2, b3, b4, b5⟩ := id hB
  have hn := hJ.1.n
  have hw := bN_le w
  have lp : ∀ (m i k1 s1 : Nat) (S : Ps), i + m = nd σ → k1 + 16 * m ≤ k + 128 → s1 + 96 * m ≤ s + 768 → ZW G S x c z d σ → At Γ G V k1 s1 S [(0, .ref b), (1, .ref x), (2, .ref c), (3, .ref z), (4, .ref d), (6, .int (nI (bN w))), (7, .int (nI t)), (9, .int (nI e)), (12, .int (nI i))] 330 [] := by
    intro m
    induction m with
    | zero =>
      intro i k1 s1 S hi hk1 hs1 hZ
      obtain ⟨⟨Y, hR⟩, hA⟩ := id hZ
      refine r_iload (pc := 330) hC dL_law_330 rfl ?_
      first | refine r_aload_n (pc := 332) hC dL_law_332 rfl ?_ | refine r_aload_nN (pc := 332) hC dL_law_332 rfl ?_
      refine r_iconst (pc := 333) (nI 1) hC dL_law_333 (by decide) ?_
      refine r_iald (pc := 334) hC dL_law_334 hA.kc (by rw [hA.nc]; decide) (by rw [hA.nc]; decide) hA.c1 ?_
      first | refine rn_icmp_ge (pc := 335) (tgt := 418) hC dL_law_335 (by decide) (by omega) (by omega) (fun c335 => ?_) (fun c335 => ?_) | refine ri_icmp_ge (pc := 335) (tgt := 418) hC dL_law_335 (by decide) (fun c335 => ?_) (fun c335 => ?_)
      · -- taken
        refine at_lv (lv' := [(0, .ref b), (1, .ref x), (2, .ref c), (3, .ref z), (4, .ref d), (6, .int (nI (bN w))), (7, .int (nI t)), (9, .int (nI e))]) ⟨rfl, rfl, rfl, rfl, rfl, rfl, rfl, rfl, trivial⟩ ?_
        refine at_widen (k' := k + 128) (n' := s + 768) (by omega) (by omega) ?_
        exact nx _ hZ
      · -- not
        exfalso; omega
    | succ m ih =>
      intro i k1 s1 S hi hk1 hs1 hZ0
      have hZ := hZ0
      obtain ⟨⟨Y, hR⟩, hA⟩ := id hZ
      have lq : w = false → ∀ (m j k2 s2 : Nat) (S : Ps), j + m = i → k2 + 2 * m ≤ k1 + 16 → s2 + 12 * m ≤ s1 + 96 → ZW G S x c z d σ → At Γ G V k2 s2 S [(0, .ref b), (1, .ref x), (2, .ref c), (3, .ref z), (4, .ref d), (6, .int (nI (bN w))), (7, .int (nI t)), (9, .int (nI e)), (12, .int (nI i)), (13, .int (nI j))] 346 [] := by
        intro hwf m
        induction m with
        | zero =>
          intro j k2 s2 S hj hk2 hs2 hZ
          obtain ⟨⟨Y, hR⟩, hA⟩ := id hZ
          refine r_iload (pc := 346) hC dL_law_346 rfl ?_
          refine r_iload (pc := 348) hC dL_law_348 rfl ?_
          first | refine rn_icmp_ge (pc := 350) (tgt := 412) hC dL_law_350 (by decide) (by omega) (by omega) (fun c350 => ?_) (fun c350 => ?_) | refine ri_icmp_ge (pc := 350) (tgt := 412) hC dL_law_350 (by decide) (fun c350 => ?_) (fun c350 => ?_)
          · -- taken
            first | refine rn_iinc (pc := 412) (q := 1) hC dL_law_412 rfl (by decide) ?_ | refine r_iinc (pc := 412) _ hC dL_law_412 rfl rfl (by decide) ?_
            refine r_goto (pc := 415) (tgt := 330) hC dL_law_415 (by decide) ?_
            refine at_lv (lv' := [(0, .ref b), (1, .ref x), (2, .ref c), (3, .ref z), (4, .ref d), (6, .int (nI (bN w))), (7, .int (nI t)), (9, .int (nI e)), (12, .int (nI (i + 1)))]) ⟨rfl, rfl, rfl, rfl, rfl, rfl, rfl, rfl, rfl, trivial⟩ ?_
            refine at_widen (k' := k1 + 16) (n' := s1 + 96) (by omega) (by omega) ?_
            exact ih (i + 1) _ _ _ (by omega) (by omega) (by omega) hZ
          · -- not
            exfalso; omega
        | succ m ihq =>
          intro j k2 s2 S hj hk2 hs2 hZ
          obtain ⟨⟨Y, hR⟩, hA⟩ := id hZ
          refine r_iload (pc := 346) hC dL_law_346 rfl ?_
          refine r_iload (pc := 348) hC dL_law_348 rfl ?_
          first | refine rn_icmp_ge (pc := 350) (tgt := 412) hC dL_law_350 (by decide) (by omega) (by omega) (fun c350 => ?_) (fun c350 => ?_) | refine ri_icmp_ge (pc := 350) (tgt := 412) hC dL_law_350 (by decide) (fun c350 => ?_) (fun c350 => ?_)
          · -- taken
            exfalso; omega
          · -- not
            first | refine r_aload_n (pc := 353) hC dL_law_353 rfl ?_ | refine r_aload_nN (pc := 353) hC dL_law_353 rfl ?_
            refine r_iload (pc := 354) hC dL_law_354 rfl ?_
            refine q_callV (pc := 356) (k' := k2 + 1) (n' := s2 + 6) hC (cn_openFor hC.fl hR hJ hn5 (d := i) (by omega)) kv_L_79 cls5 hR.kx rfl rfl (Nat.le_of_ble_eq_true rfl) ⟨by decide, by decide⟩ (show k2 + 1 ≤ k2 + 1 by omega) (show k2 + 1 ≤ 600104 by omega) (show s2 + 6 ≤ s2 + 6 by omega) (show s2 + 6 ≤ 7301314 by omega) dL_law_356 (fun _ _ h => h) (fun v356 S1 h356 => ?_)
            obtain ⟨rfl, hCO⟩ := h356
            have hZ := hZ.rd hCO
            obtain ⟨⟨Y, hR⟩, hA⟩ := id hZ
            have l1 := shl_le hJ (d := i) (by omega)
            first | refine rn_if_le (pc := 359) (tgt := 406) hC dL_law_359 (by decide) (by omega) (fun c359 => ?_) (fun c359 => ?_) | refine ri_if_le (pc := 359) (tgt := 406) hC dL_law_359 (by decide) (fun c359 => ?_) (fun c359 => ?_)
            · -- taken
              first | refine rn_iinc (pc := 406) (q := 1) hC dL_law_406 rfl (by decide) ?_ | refine r_iinc (pc := 406) _ hC dL_law_406 rfl rfl (by decide) ?_
              refine r_goto (pc := 409) (tgt := 346) hC dL_law_409 (by decide) ?_
              refine at_lv (lv' := [(0, .ref b), (1, .ref x), (2, .ref c), (3, .ref z), (4, .ref d), (6, .int (nI (bN w))), (7, .int (nI t)), (9, .int (nI e)), (12, .int (nI i)), (13, .int (nI (j + 1)))]) ⟨rfl, rfl, rfl, rfl, rfl, rfl, rfl, rfl, rfl, rfl, trivial⟩ ?_
              exact ihq (j + 1) _ _ _ (by omega) (by omega) (by omega) hZ
            · -- not
              first | refine r_aload_n (pc := 362) hC dL_law_362 rfl ?_ | refine r_aload_nN (pc := 362) hC dL_law_362 rfl ?_
              refine r_iload (pc := 363) hC dL_law_363 rfl ?_
              refine q_callV (pc := 365) (k' := k2 + 2) (n' := s2 + 12) hC (cn_openFor hC.fl hR hJ hn5 (d := j) (by omega)) kv_L_79 cls5 hR.kx rfl rfl (Nat.le_of_ble_eq_true rfl) ⟨by decide, by decide⟩ (show k2 + 1 + 1 ≤ k2 + 2 by omega) (show k2 + 2 ≤ 600104 by omega) (show s2 + 6 + 6 ≤ s2 + 12 by omega) (show s2 + 12 ≤ 7301314 by omega) dL_law_365 (fun _ _ h => h) (fun v365 S2 h365 => ?_)
              obtain ⟨rfl, hCO⟩ := h365
              have hZ := hZ.rd hCO
              obtain ⟨⟨Y, hR⟩, hA⟩ := id hZ
              have l2 := shl_le hJ (d := j) (by omega)
              first | refine rn_if_le (pc := 368) (tgt := 406) hC dL_law_368 (by decide) (by omega) (fun c368 => ?_) (fun c368 => ?_) | refine ri_if_le (pc := 368) (tgt := 406) hC dL_law_368 (by decide) (fun c368 => ?_) (fun c368 => ?_)
              · -- taken
                first | refine rn_iinc (pc := 406) (q := 1) hC dL_law_406 rfl (by decide) ?_ | refine r_iinc (pc := 406) _ hC dL_law_406 rfl rfl (by decide) ?_
                refine r_goto (pc := 409) (tgt := 346) hC dL_law_409 (by decide) ?_
                refine at_lv (lv' := [(0, .ref b), (1, .ref x), (2, .ref c), (3, .ref z), (4, .ref d), (6, .int (nI (bN w))), (7, .int (nI t)), (9, .int (nI e)), (12, .int (nI i)), (13, .int (nI (j + 1)))]) ⟨rfl, rfl, rfl, rfl, rfl, rfl, rfl, rfl, rfl, rfl, trivial⟩ ?_
                exact ihq (j + 1) _ _ _ (by omega) (by omega) (by omega) hZ
              · -- not
                first | refine r_aload (pc := 371) hC dL_law_371 rfl ?_ | refine r_aloadN (pc := 371) hC dL_law_371 rfl ?_
                refine r_iconst (pc := 373) (nI 4) hC dL_law_373 (by decide) ?_
                refine r_iload (pc := 374) hC dL_law_374 rfl ?_
                first | refine rn_imul (pc := 376) hC dL_law_376 ?_ | refine r_imul (pc := 376) hC dL_law_376 ?_
                refine r_iconst (pc := 377) (nI 3) hC dL_law_377 (by decide) ?_
                first | refine rn_iadd (pc := 378) hC dL_law_378 ?_ | refine r_iadd (pc := 378) hC dL_law_378 ?_
                refine r_iald (pc := 379) hC dL_law_379 hA.kd (by rw [hA.nd]; omega) (by rw [hA.nd]; decide) (hA.dq (q := i) (show i < nd σ by omega)) ?_
                have l3 := (hJ.1.vd (d := i) (by omega)).2.2.2.2.1
                have l4 := (hJ.1.vd (d := j) (by omega)).2.2.2.2.1
                first | refine rn_if_le (pc := 380) (tgt := 406) hC dL_law_380 (by decide) (by omega) (fun c380 => ?_) (fun c380 => ?_) | refine ri_if_le (pc := 380) (tgt := 406) hC dL_law_380 (by decide) (fun c380 => ?_) (fun c380 => ?_)
                · -- taken
                  first | refine rn_iinc (pc := 406) (q := 1) hC dL_law_406 rfl (by decide) ?_ | refine r_iinc (pc := 406) _ hC dL_law_406 rfl rfl (by decide) ?_
                  refine r_goto (pc := 409) (tgt := 346) hC dL_law_409 (by decide) ?_
                  refine at_lv (lv' := [(0, .ref b), (1, .ref x), (2, .ref c), (3, .ref z), (4, .ref d), (6, .int (nI (bN w))), (7, .int (nI t)), (9, .int (nI e)), (12, .int (nI i)), (13, .int (nI (j + 1)))]) ⟨rfl, rfl, rfl, rfl, rfl, rfl, rfl, rfl, rfl, rfl, trivial⟩ ?_
                  exact ihq (j + 1) _ _ _ (by omega) (by omega) (by omega) hZ
                · -- not
                  first | refine r_aload (pc := 383) hC dL_law_383 rfl ?_ | refine r_aloadN (pc := 383) hC dL_law_383 rfl ?_
                  refine r_iconst (pc := 385) (nI 4) hC dL_law_385 (by decide) ?_
                  refine r_iload (pc := 386) hC dL_law_386 rfl ?_
                  first | refine rn_imul (pc := 388) hC dL_law_388 ?_ | refine r_imul (pc := 388) hC dL_law_388 ?_
                  refine r_iconst (pc := 389) (nI 3) hC dL_law_389 (by decide) ?_
                  first | refine rn_iadd (pc := 390) hC dL_law_390 ?_ | refine r_iadd (pc := 390) hC dL_law_390 ?_
                  refine r_iald (pc := 391) hC dL_law_391 hA.kd (by rw [hA.nd]; omega) (by rw [hA.nd]; decide) (hA.dq (q := i) (show i < nd σ by omega)) ?_
                  first | refine r_aload (pc := 392) hC dL_law_392 rfl ?_ | refine r_aloadN (pc := 392) hC dL_law_392 rfl ?_
                  refine r_iconst (pc := 394) (nI 4) hC dL_law_394 (by decide) ?_
                  refine r_iload (pc := 395) hC dL_law_395 rfl ?_
                  first | refine rn_imul (pc := 397) hC dL_law_397 ?_ | refine r_imul (pc := 397) hC dL_law_397 ?_
                  refine r_iconst (pc := 398) (nI 3) hC dL_law_398 (by decide) ?_
                  first | refine rn_iadd (pc := 399) hC dL_law_399 ?_ | refine r_iadd (pc := 399) hC dL_law_399 ?_
                  refine r_iald (pc := 400) hC dL_law_400 hA.kd (by rw [hA.nd]; omega) (by rw [hA.nd]; decide) (hA.dq (q := j) (show j < nd σ by omega)) ?_
                  first | refine rn_icmp_ne (pc := 401) (tgt := 406) hC dL_law_401 (by decide) (by omega) (by omega) (fun c401 => ?_) (fun c401 => ?_) | refine ri_icmp_ne (pc := 401) (tgt := 406) hC dL_law_401 (by decide) (fun c401 => ?_) (fun c401 => ?_)
                  · -- taken
                    first | refine rn_iinc (pc := 406) (q := 1) hC dL_law_406 rfl (by decide) ?_ | refine r_iinc (pc := 406) _ hC dL_law_406 rfl rfl (by decide) ?_
                    refine r_goto (pc := 409) (tgt := 346) hC dL_law_409 (by decide) ?_
                    refine at_lv (lv' := [(0, .ref b), (1, .ref x), (2, .ref c), (3, .ref z), (4, .ref d), (6, .int (nI (bN w))), (7, .int (nI t)), (9, .int (nI e)), (12, .int (nI i)), (13, .int (nI (j + 1)))]) ⟨rfl, rfl, rfl, rfl, rfl, rfl, rfl, rfl, rfl, rfl, trivial⟩ ?_
                    exact ihq (j + 1) _ _ _ (by omega) (by omega) (by omega) hZ
                  · -- not
                    exfalso
                    exact (hP hwf).2.2 i j (by omega) (by omega) (by omega) (by omega) (by omega) ⟨by omega, by omega⟩
      refine r_iload (pc := 330) hC dL_law_330 rfl ?_
      first | refine r_aload_n (pc := 332) hC dL_law_332 rfl ?_ | refine r_aload_nN (pc := 332) hC dL_law_332 rfl ?_
      refine r_iconst (pc := 333) (nI 1) hC dL_law_333 (by decide) ?_
      refine r_iald (pc := 334) hC dL_law_334 hA.kc (by rw [hA.nc]; decide) (by rw [hA.nc]; decide) hA.c1 ?_
      first | refine rn_icmp_ge (pc := 335) (tgt := 418) hC dL_law_335 (by decide) (by omega) (by omega) (fun c335 => ?_) (fun c335 => ?_) | refine ri_icmp_ge (pc := 335) (tgt := 418) hC dL_law_335 (by decide) (fun c335 => ?_) (fun c335 => ?_)
      · -- taken
        exfalso; omega
      · -- not
        refine r_iload (pc := 338) hC dL_law_338 rfl ?_
        first | refine rb_if_ne (pc := 340) (tgt := 418) hC dL_law_340 (by decide) (fun c340 => ?_) (fun c340 => ?_) | refine rn_if_ne (pc := 340) (tgt := 418) hC dL_law_340 (by decide) (by omega) (fun c340 => ?_) (fun c340 => ?_) | refine ri_if_ne (pc := 340) (tgt := 418) hC dL_law_340 (by decide) (fun c340 => ?_) (fun c340 => ?_)
        · -- taken
          refine at_lv (lv' := [(0, .ref b), (1, .ref x), (2, .ref c), (3, .ref z), (4, .ref d), (6, .int (nI (bN w))), (7, .int (nI t)), (9, .int (nI e))]) ⟨rfl, rfl, rfl, rfl, rfl, rfl, rfl, rfl, trivial⟩ ?_
          refine at_widen (k' := k + 128) (n' := s + 768) (by omega) (by omega) ?_
          exact nx _ hZ
        · -- not
          refine r_iconst (pc := 343) (nI 0) hC dL_law_343 (by decide) ?_
          refine r_istore (pc := 344) hC dL_law_344 (by decide) ?_
          refine at_lv (lv' := [(0, .ref b), (1, .ref x), (2, .ref c), (3, .ref z), (4, .ref d), (6, .int (nI (bN w))), (7, .int (nI t)), (9, .int (nI e)), (12, .int (nI i)), (13, .int (nI 0))]) ⟨rfl, rfl, rfl, rfl, rfl, rfl, rfl, rfl, rfl, rfl, trivial⟩ ?_
          have hwf : w = false := by cases w with | false => rfl | true => exact absurd c340 (by decide)
          exact lq hwf i 0 _ _ _ (by omega) (by omega) (by omega) hZ
  refine r_iconst (pc := 327) (nI 0) hC dL_law_327 (by decide) ?_
  refine r_istore (pc := 328) hC dL_law_328 (by decide) ?_
  refine at_lv (lv' := [(0, .ref b), (1, .ref x), (2, .ref c), (3, .ref z), (4, .ref d), (6, .int (nI (bN w))), (7, .int (nI t)), (9, .int (nI e)), (12, .int (nI 0))]) ⟨rfl, rfl, rfl, rfl, rfl, rfl, rfl, rfl, rfl, trivial⟩ ?_
  exact lp (nd σ) 0 k s S (by omega) (by omega) (by omega) hZ
theorem bw0 {w : Bool} (h : bN w = 0) : w = false := by cases w with | false => rfl | true => exact absurd h (by decide)
set_option maxHeartbeats 4000000 in
set_option maxRecDepth 100000 in
theorem sg_ins {Γ : Cx} {G : Ids} {V : Vx} {b x c z d t e n : Nat} {w : Bool} {σ : Sg} (hC : Ctx Γ G V code RL room_1 15) (hJ : Inv σ n) (hn5 : n ≤ 511) (hB : Bd28 σ) (he : e < nb σ) (ht : t < 40) {k s : Nat} {S : Ps} (hP : w = false → P28 σ) (hk : k + 78 ≤ 600104) (hs : s + 468 ≤ 7301314) (hZ : ZW G S x c z d σ) (nx : ∀ S9, ZW G S9 x c z d σ → At Γ G V (k + 78) (s + 468) S9 [(0, .ref b), (1, .ref x), (2, .ref c), (3, .ref z), (4, .ref d), (6, .int (nI (bN w))), (7, .int (nI t)), (9, .int (nI e))] 327 []) : At Γ G V k s S [(0, .ref b), (1, .ref x), (2, .ref c), (3, .ref z), (4, .ref d), (6, .int (nI (bN w))), (7, .int (nI t)), (9, .int (nI e))] 202 [] := by
  obtain ⟨⟨Y, hR⟩, hA⟩ := id hZ
  obtain ⟨b1, b2, b3, b4, b5⟩ := id hB
  have hn := hJ.1.n
  have hw := bN_le w
  have lp : ∀ (m i k1 s1 : Nat) (S : Ps), i + m = nz σ → k1 + 13 * m ≤ k + 78 → s1 + 78 * m ≤ s + 468 → ZW G S x c z d σ → At Γ G V k1 s1 S [(0, .ref b), (1, .ref x), (2, .ref c), (3, .ref z), (4, .ref d), (6, .int (nI (bN w))), (7, .int (nI t)), (9, .int (nI e)), (11, .int (nI (alS σ (i)))), (12, .int (nI (i)))] 208 [] := by
    intro m
    induction m with
    | zero =>
      intro i k1 s1 S hi hk1 hs1 hZ
      obtain ⟨⟨Y, hR⟩, hA⟩ := id hZ
      have ei : i = nz σ := by omega
      refine r_iload (pc := 208) hC dL_law_208 rfl ?_
      first | refine r_aload_n (pc := 210) hC dL_law_210 rfl ?_ | refine r_aload_nN (pc := 210) hC dL_law_210 rfl ?_
      refine r_iconst (pc := 211) (nI 0) hC dL_law_211 (by decide) ?_
      refine r_iald (pc := 212) hC dL_law_212 hA.kc (by rw [hA.nc]; decide) (by rw [hA.nc]; decide) hA.c0 ?_
      first | refine rn_icmp_ge (pc := 213) (tgt := 313) hC dL_law_213 (by decide) (by omega) (by omega) (fun c213 => ?_) (fun c213 => ?_) | refine ri_icmp_ge (pc := 213) (tgt := 313) hC dL_law_213 (by decide) (fun c213 => ?_) (fun c213 => ?_)
      · -- taken
        refine r_iload (pc := 313) hC dL_law_313 rfl ?_
        refine r_iconst (pc := 315) (nI 1) hC dL_law_315 (by decide) ?_
        first | refine r_aload_n (pc := 316) hC dL_law_316 rfl ?_ | refine r_aload_nN (pc := 316) hC dL_law_316 rfl ?_
        refine r_iconst (pc := 317) (nI 2) hC dL_law_317 (by decide) ?_
        refine r_iald (pc := 318) hC dL_law_318 hA.kc (by rw [hA.nc]; decide) (by rw [hA.nc]; decide) hA.c2 ?_
        refine r_ishl (pc := 319) hC dL_law_319 ?_
        refine r_iconst (pc := 320) (nI 1) hC dL_law_320 (by decide) ?_
        refine r_isub (pc := 321) hC dL_law_321 ?_
        rw [sh1 (nb σ) (by omega), ei, alS_n hJ]
        refine r_icmp_eq (pc := 322) (tgt := 327) hC dL_law_322 (by decide) (fun _ => ?_) (fun q => absurd rfl q)
        refine at_lv (lv' := [(0, .ref b), (1, .ref x), (2, .ref c), (3, .ref z), (4, .ref d), (6, .int (nI (bN w))), (7, .int (nI t)), (9, .int (nI e))]) ⟨rfl, rfl, rfl, rfl, rfl, rfl, rfl, rfl, trivial⟩ ?_
        refine at_widen (k' := k + 78) (n' := s + 468) (by omega) (by omega) ?_
        exact nx _ hZ
      · -- not
        exfalso; omega
    | succ m ih =>
      intro i k1 s1 S hi hk1 hs1 hZ
      obtain ⟨⟨Y, hR⟩, hA⟩ := id hZ
      have il := ins_lt hJ i
      have ip := popc_le (insB σ i) il
      have lq : ∀ (m j k2 s2 : Nat) (S : Ps), j + m = nb σ → k2 + 2 * m ≤ k1 + 13 → s2 + 12 * m ≤ s1 + 78 → ZW G S x c z d σ → At Γ G V k2 s2 S [(0, .ref b), (1, .ref x), (2, .ref c), (3, .ref z), (4, .ref d), (6, .int (nI (bN w))), (7, .int (nI t)), (9, .int (nI e)), (11, .int (nI (alS σ (i + 1)))), (12, .int (nI i)), (13, .int (nI (insB σ i))), (14, .int (nI (j)))] 268 [] := by
        intro m
        induction m with
        | zero =>
          intro j k2 s2 S hj hk2 hs2 hZ
          obtain ⟨⟨Y, hR⟩, hA⟩ := id hZ
          refine r_iload (pc := 268) hC dL_law_268 rfl ?_
          first | refine r_aload_n (pc := 270) hC dL_law_270 rfl ?_ | refine r_aload_nN (pc := 270) hC dL_law_270 rfl ?_
          refine r_iconst (pc := 271) (nI 2) hC dL_law_271 (by decide) ?_
          refine r_iald (pc := 272) hC dL_law_272 hA.kc (by rw [hA.nc]; decide) (by rw [hA.nc]; decide) hA.c2 ?_
          first | refine rn_icmp_ge (pc := 273) (tgt := 307) hC dL_law_273 (by decide) (by omega) (by omega) (fun c273 => ?_) (fun c273 => ?_) | refine ri_icmp_ge (pc := 273) (tgt := 307) hC dL_law_273 (by decide) (fun c273 => ?_) (fun c273 => ?_)
          · -- taken
            first | refine rn_iinc (pc := 307) (q := 1) hC dL_law_307 rfl (by decide) ?_ | refine r_iinc (pc := 307) _ hC dL_law_307 rfl rfl (by decide) ?_
            refine r_goto (pc := 310) (tgt := 208) hC dL_law_310 (by decide) ?_
            refine at_lv (lv' := [(0, .ref b), (1, .ref x), (2, .ref c), (3, .ref z), (4, .ref d), (6, .int (nI (bN w))), (7, .int (nI t)), (9, .int (nI e)), (11, .int (nI (alS σ (i + 1)))), (12, .int (nI (i + 1)))]) ⟨rfl, rfl, rfl, rfl, rfl, rfl, rfl, rfl, rfl, rfl, trivial⟩ ?_
            refine at_widen (k' := k1 + 13) (n' := s1 + 78) (by omega) (by omega) ?_
            exact ih (i + 1) _ _ _ (by omega) (by omega) (by omega) hZ
          · -- not
            exfalso; omega
        | succ m ihq =>
          intro j k2 s2 S hj hk2 hs2 hZ
          obtain ⟨⟨Y, hR⟩, hA⟩ := id hZ
          have cc2 : At Γ G V k2 s2 S [(0, .ref b), (1, .ref x), (2, .ref c), (3, .ref z), (4, .ref d), (6, .int (nI (bN w))), (7, .int (nI t)), (9, .int (nI e)), (11, .int (nI (alS σ (i + 1)))), (12, .int (nI i)), (13, .int (nI (insB σ i))), (14, .int (nI (j)))] 301 [] := by
            first | refine rn_iinc (pc := 301) (q := 1) hC dL_law_301 rfl (by decide) ?_ | refine r_iinc (pc := 301) _ hC dL_law_301 rfl rfl (by decide) ?_
            refine r_goto (pc := 304) (tgt := 268) hC dL_law_304 (by decide) ?_
            refine at_lv (lv' := [(0, .ref b), (1, .ref x), (2, .ref c), (3, .ref z), (4, .ref d), (6, .int (nI (bN w))), (7, .int (nI t)), (9, .int (nI e)), (11, .int (nI (alS σ (i + 1)))), (12, .int (nI i)), (13, .int (nI (insB σ i))), (14, .int (nI (j + 1)))]) ⟨rfl, rfl, rfl, rfl, rfl, rfl, rfl, rfl, rfl, rfl, rfl, rfl, trivial⟩ ?_
            exact ihq (j + 1) _ _ _ (by omega) (by omega) (by omega) hZ
          have cc1 : plc σ j = i → At Γ G V k2 s2 S [(0, .ref b), (1, .ref x), (2, .ref c), (3, .ref z), (4, .ref d), (6, .int (nI (bN w))), (7, .int (nI t)), (9, .int (nI e)), (11, .int (nI (alS σ (i + 1)))), (12, .int (nI i)), (13, .int (nI (insB σ i))), (14, .int (nI (j)))] 287 [] := fun cp => by
            first | refine r_aload_n (pc := 287) hC dL_law_287 rfl ?_ | refine r_aload_nN (pc := 287) hC dL_law_287 rfl ?_
            refine r_iload (pc := 288) hC dL_law_288 rfl ?_
            refine r_iconst (pc := 290) (nI 0) hC dL_law_290 (by decide) ?_
            refine q_callV (pc := 291) (k' := k2 + 2) (n' := s2 + 12) hC (cn_badge hC.fl hR hJ hn5 (b := j) (w := 0) (by omega) (by decide)) kv_L_76 cls5 hR.kx rfl rfl (Nat.le_of_ble_eq_true rfl) ⟨by decide, by decide⟩ (show k2 + 2 ≤ k2 + 2 by omega) (show k2 + 2 ≤ 600104 by omega) (show s2 + 12 ≤ s2 + 12 by omega) (show s2 + 12 ≤ 7301314 by omega) dL_law_291 (fun _ _ h => h) (fun v291 S1 h291 => ?_)
            obtain ⟨rfl, hCO⟩ := h291
            have hZ := hZ.rd hCO
            obtain ⟨⟨Y, hR⟩, hA⟩ := id hZ
            refine r_iload (pc := 294) hC dL_law_294 rfl ?_
            show At _ _ _ _ _ _ _ 296 [.int (nI i), .int (nI (plc σ j))]
            rw [cp]
            refine r_icmp_eq (pc := 296) (tgt := 301) hC dL_law_296 (by decide) (fun _ => ?_) (fun q => absurd rfl q)
            first | refine rn_iinc (pc := 301) (q := 1) hC dL_law_301 rfl (by decide) ?_ | refine r_iinc (pc := 301) _ hC dL_law_301 rfl rfl (by decide) ?_
            refine r_goto (pc := 304) (tgt := 268) hC dL_law_304 (by decide) ?_
            refine at_lv (lv' := [(0, .ref b), (1, .ref x), (2, .ref c), (3, .ref z), (4, .ref d), (6, .int (nI (bN w))), (7, .int (nI t)), (9, .int (nI e)), (11, .int (nI (alS σ (i + 1)))), (12, .int (nI i)), (13, .int (nI (insB σ i))), (14, .int (nI (j + 1)))]) ⟨rfl, rfl, rfl, rfl, rfl, rfl, rfl, rfl, rfl, rfl, rfl, rfl, trivial⟩ ?_
            exact ihq (j + 1) _ _ _ (by omega) (by omega) (by omega) hZ
          refine r_iload (pc := 268) hC dL_law_268 rfl ?_
          first | refine r_aload_n (pc := 270) hC dL_law_270 rfl ?_ | refine r_aload_nN (pc := 270) hC dL_law_270 rfl ?_
          refine r_iconst (pc := 271) (nI 2) hC dL_law_271 (by decide) ?_
          refine r_iald (pc := 272) hC dL_law_272 hA.kc (by rw [hA.nc]; decide) (by rw [hA.nc]; decide) hA.c2 ?_
          first | refine rn_icmp_ge (pc := 273) (tgt := 307) hC dL_law_273 (by decide) (by omega) (by omega) (fun c273 => ?_) (fun c273 => ?_) | refine ri_icmp_ge (pc := 273) (tgt := 307) hC dL_law_273 (by decide) (fun c273 => ?_) (fun c273 => ?_)
          · -- taken
            exfalso; omega
          · -- not
            refine r_iload (pc := 276) hC dL_law_276 rfl ?_
            refine r_iload (pc := 278) hC dL_law_278 rfl ?_
            refine r_ishr (pc := 280) hC dL_law_280 ?_
            refine r_iconst (pc := 281) (nI 1) hC dL_law_281 (by decide) ?_
            refine r_iand (pc := 282) hC dL_law_282 ?_
            rw [ins_bit hJ (k := j) (by omega)]
            refine r_iconst (pc := 283) (nI 1) hC dL_law_283 (by decide) ?_
            by_cases cp : plc σ j = i
            · rw [if_pos cp]
              refine rn_icmp_ne (pc := 284) (tgt := 301) hC dL_law_284 (by decide) (by omega) (by omega) (fun q => absurd rfl q) (fun _ => ?_)
              refine cc1 cp
            · rw [if_neg cp]
              refine rn_icmp_ne (pc := 284) (tgt := 301) hC dL_law_284 (by decide) (by omega) (by omega) (fun _ => ?_) (fun q => absurd q (by decide))
              exact cc2
      have j258 : ∀ S : Ps, ZW G S x c z d σ → At Γ G V (k1 + 1) (s1 + 6) S [(0, .ref b), (1, .ref x), (2, .ref c), (3, .ref z), (4, .ref d), (6, .int (nI (bN w))), (7, .int (nI t)), (9, .int (nI e)), (11, .int (nI (alS σ i))), (12, .int (nI i)), (13, .int (nI (insB σ i)))] 258 [] := fun S hZ => by
        obtain ⟨⟨Y, hR⟩, hA⟩ := id hZ
        refine r_iload (pc := 258) hC dL_law_258 rfl ?_
        refine r_iload (pc := 260) hC dL_law_260 rfl ?_
        refine r_ior (pc := 262) hC dL_law_262 ?_
        rw [alS_or]
        refine r_istore (pc := 263) hC dL_law_263 (by decide) ?_
        refine r_iconst (pc := 265) (nI 0) hC dL_law_265 (by decide) ?_
        refine r_istore (pc := 266) hC dL_law_266 (by decide) ?_
        refine at_lv (lv' := [(0, .ref b), (1, .ref x), (2, .ref c), (3, .ref z), (4, .ref d), (6, .int (nI (bN w))), (7, .int (nI t)), (9, .int (nI e)), (11, .int (nI (alS σ (i + 1)))), (12, .int (nI i)), (13, .int (nI (insB σ i))), (14, .int (nI (0)))]) ⟨rfl, rfl, rfl, rfl, rfl, rfl, rfl, rfl, rfl, rfl, rfl, rfl, trivial⟩ ?_
        exact lq (nb σ) 0 _ _ _ (by omega) (by omega) (by omega) hZ
      refine r_iload (pc := 208) hC dL_law_208 rfl ?_
      first | refine r_aload_n (pc := 210) hC dL_law_210 rfl ?_ | refine r_aload_nN (pc := 210) hC dL_law_210 rfl ?_
      refine r_iconst (pc := 211) (nI 0) hC dL_law_211 (by decide) ?_
      refine r_iald (pc := 212) hC dL_law_212 hA.kc (by rw [hA.nc]; decide) (by rw [hA.nc]; decide) hA.c0 ?_
      first | refine rn_icmp_ge (pc := 213) (tgt := 313) hC dL_law_213 (by decide) (by omega) (by omega) (fun c213 => ?_) (fun c213 => ?_) | refine ri_icmp_ge (pc := 213) (tgt := 313) hC dL_law_213 (by decide) (fun c213 => ?_) (fun c213 => ?_)
      · -- taken
        exfalso; omega
      · -- not
        first | refine r_aload_n (pc := 216) hC dL_law_216 rfl ?_ | refine r_aload_nN (pc := 216) hC dL_law_216 rfl ?_
        refine r_iload (pc := 217) hC dL_law_217 rfl ?_
        refine q_callV (pc := 219) (k' := k1 + 1) (n' := s1 + 6) hC (cn_inside hC.fl hR hJ hn5 (z := i) (by omega)) kv_L_68 cls5 hR.kx rfl rfl (Nat.le_of_ble_eq_true rfl) ⟨by decide, by decide⟩ (show k1 + 1 ≤ k1 + 1 by omega) (show k1 + 1 ≤ 600104 by omega) (show s1 + 6 ≤ s1 + 6 by omega) (show s1 + 6 ≤ 7301314 by omega) dL_law_219 (fun _ _ h => h) (fun v219 S1 h219 => ?_)
        obtain ⟨rfl, hCO⟩ := h219
        have hZ := hZ.rd hCO
        obtain ⟨⟨Y, hR⟩, hA⟩ := id hZ
        refine r_istore (pc := 222) hC dL_law_222 (by decide) ?_
        refine r_iload (pc := 224) hC dL_law_224 rfl ?_
        refine r_iload (pc := 226) hC dL_law_226 rfl ?_
        refine r_iand (pc := 228) hC dL_law_228 ?_
        rw [alS_and]
        refine rn_if_ne (pc := 229) (tgt := 256) hC dL_law_229 (by decide) (by omega) (fun q => absurd rfl q) (fun _ => ?_)
        refine r_iload (pc := 232) hC dL_law_232 rfl ?_
        first | refine rn_if_le (pc := 234) (tgt := 258) hC dL_law_234 (by decide) (by omega) (fun c234 => ?_) (fun c234 => ?_) | refine ri_if_le (pc := 234) (tgt := 258) hC dL_law_234 (by decide) (fun c234 => ?_) (fun c234 => ?_)
        · -- taken
          refine at_lv (lv' := [(0, .ref b), (1, .ref x), (2, .ref c), (3, .ref z), (4, .ref d), (6, .int (nI (bN w))), (7, .int (nI t)), (9, .int (nI e)), (11, .int (nI (alS σ i))), (12, .int (nI i)), (13, .int (nI (insB σ i)))]) ⟨rfl, rfl, rfl, rfl, rfl, rfl, rfl, rfl, rfl, rfl, rfl, trivial⟩ ?_
          refine at_widen (k' := k1 + 1) (n' := s1 + 6) (by omega) (by omega) ?_
          exact j258 _ hZ
        · -- not
          refine r_iload (pc := 237) hC dL_law_237 rfl ?_
          first | refine rb_if_ne (pc := 239) (tgt := 258) hC dL_law_239 (by decide) (fun c239 => ?_) (fun c239 => ?_) | refine rn_if_ne (pc := 239) (tgt := 258) hC dL_law_239 (by decide) (by omega) (fun c239 => ?_) (fun c239 => ?_) | refine ri_if_ne (pc := 239) (tgt := 258) hC dL_law_239 (by decide) (fun c239 => ?_) (fun c239 => ?_)
          · -- taken
            refine at_lv (lv' := [(0, .ref b), (1, .ref x), (2, .ref c), (3, .ref z), (4, .ref d), (6, .int (nI (bN w))), (7, .int (nI t)), (9, .int (nI e)), (11, .int (nI (alS σ i))), (12, .int (nI i)), (13, .int (nI (insB σ i)))]) ⟨rfl, rfl, rfl, rfl, rfl, rfl, rfl, rfl, rfl, rfl, rfl, trivial⟩ ?_
            refine at_widen (k' := k1 + 1) (n' := s1 + 6) (by omega) (by omega) ?_
            exact j258 _ hZ
          · -- not
            refine r_iload (pc := 242) hC dL_law_242 rfl ?_
            refine q_callS (pc := 244) (k' := k1 + 1) (n' := s1 + 6) hC (ct_bitc hC.fl il) ks_L_71 rfl rfl (Nat.le_of_ble_eq_true rfl) ⟨by decide, by decide⟩ (show k1 + 1 + 0 ≤ k1 + 1 by omega) (show k1 + 1 ≤ 600104 by omega) (show s1 + 6 + 0 ≤ s1 + 6 by omega) (show s1 + 6 ≤ 7301314 by omega) dL_law_244 (fun _ _ h => h) (fun v244 S2 h244 => ?_)
            obtain ⟨rfl, rfl⟩ := h244
            first | refine r_aload_n (pc := 247) hC dL_law_247 rfl ?_ | refine r_aload_nN (pc := 247) hC dL_law_247 rfl ?_
            refine r_iconst (pc := 248) (nI 3) hC dL_law_248 (by decide) ?_
            refine r_iload (pc := 249) hC dL_law_249 rfl ?_
            first | refine rn_imul (pc := 251) hC dL_law_251 ?_ | refine r_imul (pc := 251) hC dL_law_251 ?_
            refine r_iald (pc := 252) hC dL_law_252 hA.kz (by rw [hA.nz]; omega) (by rw [hA.nz]; decide) (hA.zq (q := i) (by omega) (show i < nz σ by omega)) ?_
            have cq := (hJ.1.vz (z := i) (by omega)).2.1
            first | refine rn_icmp_le (pc := 253) (tgt := 258) hC dL_law_253 (by decide) (by omega) (by omega) (fun c253 => ?_) (fun c253 => ?_) | refine ri_icmp_le (pc := 253) (tgt := 258) hC dL_law_253 (by decide) (fun c253 => ?_) (fun c253 => ?_)
            · -- taken
              refine at_lv (lv' := [(0, .ref b), (1, .ref x), (2, .ref c), (3, .ref z), (4, .ref d), (6, .int (nI (bN w))), (7, .int (nI t)), (9, .int (nI e)), (11, .int (nI (alS σ i))), (12, .int (nI i)), (13, .int (nI (insB σ i)))]) ⟨rfl, rfl, rfl, rfl, rfl, rfl, rfl, rfl, rfl, rfl, rfl, trivial⟩ ?_
              refine at_widen (k' := k1 + 1) (n' := s1 + 6) (by omega) (by omega) ?_
              exact j258 _ hZ
            · -- not
              exfalso
              have := (hP (bw0 (by omega))).2.1 i (by omega) (by omega)
              omega
  refine r_iconst (pc := 202) (nI 0) hC dL_law_202 (by decide) ?_
  refine r_istore (pc := 203) hC dL_law_203 (by decide) ?_
  refine r_iconst (pc := 205) (nI 0) hC dL_law_205 (by decide) ?_
  refine r_istore (pc := 206) hC dL_law_206 (by decide) ?_
  have h0 := lp (nz σ) 0 k s S (by omega) (by omega) (by omega) hZ
  rw [alS_0] at h0
  refine at_lv (lv' := [(0, .ref b), (1, .ref x), (2, .ref c), (3, .ref z), (4, .ref d), (6, .int (nI (bN w))), (7, .int (nI t)), (9, .int (nI e)), (11, .int (nI 0)), (12, .int (nI 0))]) ⟨rfl, rfl, rfl, rfl, rfl, rfl, rfl, rfl, rfl, rfl, trivial⟩ ?_
  exact h0
