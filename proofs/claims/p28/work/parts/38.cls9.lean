def inZ1 (σ : Sg) (p : Int32) : Bool := decide (1 ≤ p.toInt ∧ p.toInt < nz σ)
theorem inZ1_f {σ : Sg} {p : Int32} (h : inZ σ p = false) : inZ1 σ p = false := by
  have h1 : ¬ (0 ≤ p.toInt ∧ p.toInt < nz σ) := of_decide_eq_false h
  exact decide_eq_false (by omega)
theorem inZ1_d {σ : Sg} {p : Int32} (h : inZ1 σ p = true) : 1 ≤ p.toInt ∧ p.toInt < nz σ := of_decide_eq_true h
def rqS (σ : Sg) (b d : Nat) : Sg := if ans σ b d = 0 then rqP σ b d (oth σ d (plc σ b) - 1) else if ans σ b d = 8 then σ else rfS σ b
theorem ansP_le {σ : Sg} {b d g : Nat} : ansP σ b d g ≤ 7 := by unfold ansP; repeat' split <;> try omega
theorem ansA_le {σ : Sg} {b g : Nat} : ansA σ b g ≤ 9 := by unfold ansA; repeat' split <;> try omega
theorem ans_le {σ : Sg} {b d : Nat} : ans σ b d ≤ 9 := by
  have h1 := ansP_le (σ := σ) (b := b) (d := d) (g := oth σ d (plc σ b) - 1)
  have h2 := ansA_le (σ := σ) (b := b) (g := oth σ d (plc σ b) - 1)
  unfold ans
  split
  · omega
  · split
    · omega
    · split
      · omega
      · omega
theorem ans_0 {σ : Sg} {b d : Nat} (h : ans σ b d = 0) : ¬ oth σ d (plc σ b) = 0 := fun q => by
  unfold ans at h
  rw [if_pos q] at h
  split at h <;> exact absurd h (by decide)
theorem ans_8 {σ : Sg} {b d : Nat} (h : ¬ ans σ b d = 8) : ¬ blk σ b = 1 := fun q => h (by unfold ans; rw [if_pos q])
theorem rqS_wy {σ : Sg} {b d : Nat} (h0 : ans σ b d = 0) : rqS σ b d = rqP σ b d (oth σ d (plc σ b) - 1) := if_pos h0
theorem lkS_lt {σ : Sg} {n b t : Nat} (h : InvS σ n) (hb : b < nb σ) (hz : 1 ≤ nz σ) : ∀ k, k ≤ ns σ b → lkS σ b t k < nz σ
  | 0, _ => hz
  | k + 1, hk => by
    unfold lkS
    split
    · exact (h b hb).2.2.2.2.2.1 k hk
    · exact lkS_lt h hb hz k (by omega)
theorem pr_ok0 : ∀ b, b < 11 → ∀ c, c < 11 → b ≠ 0 → FP.ddiv (FP.i2d (nI (b - c))) (FP.i2d (nI b)) &&& 0x7fffffffffffffff ≤ 0x7ff0000000000000 := by decide +kernel
theorem pr_ok (b : Nat) (hb : b < 11) (c : Nat) (hc : c < 11) (h : b ≠ 0) : vf_n64 (FP.ddiv (FP.i2d (nI (b - c))) (FP.i2d (nI b))) := pr_ok0 b hb c hc h
theorem popc_k : ∀ n, n < 1024 → ∀ k, k < 11 → n < 2 ^ k → popc n ≤ k := by decide +kernel
theorem pop_nb {σ : Sg} {z : Nat} (h : nb σ ≤ 10) : popc (insB σ z) ≤ nb σ := popc_k _ (insB_lt h z) _ (by omega) (bset_lt _ _)
abbrev rm_X4_distance : Room := { frames := 7, cells := 1, slots := 6, locals := 108 }
abbrev rm_X4_isOpen : Room := { frames := 7, cells := 1, slots := 6, locals := 107 }
abbrev rm_X4_openFor : Room := { frames := 7, cells := 1, slots := 6, locals := 107 }
set_option maxHeartbeats 4000000 in
set_option maxRecDepth 100000 in
theorem cp_openFor {l : Launch} {G : Ids} {S : Ps} {Y : Lay} {σ : Sg} {x n : Nat} {p : Int32} (hfl : l.stackTraces = false) (hZ : RC G S Y σ x) (hJ : Inv σ n) (hn5 : n ≤ 511) : Ct l (Cond.code yX4_openFor cX4_openFor 2 (some .int)) yX4_openFor rm_X4_openFor G [.ref x, .int p] S (fun v S9 => inD σ p = true ∧ v = some (.int (nI (lft σ (iN p)))) ∧ CO G S S9 (σ) x) (fun E S9 => S = S9 ∧ ((E = eIOB ∧ inD σ p = false))) := by
  refine Ct.of hfl (by decide) (Nat.le_of_ble_eq_true rfl) (fun Γ V hC hR hT hI => ?_)
  have hV := hJ.1
  have hS := hJ.2.1
  have hn := hV.n
  first | refine r_aload_n (pc := 0) hC dX4_openFor_0 rfl ?_ | refine r_aload_nN (pc := 0) hC dX4_openFor_0 rfl ?_
  refine r_iload_n (pc := 1) hC dX4_openFor_1 rfl ?_
  refine r_callV (pc := 2) hC (ct_doorOf hC.fl hZ hV (p := p)) kv_X4_106 cls5 hZ.kx rfl rfl (Nat.le_of_ble_eq_true rfl) ⟨by decide, by decide, by decide, by decide⟩ dX4_openFor_2 (fun E S9 h => at_out hR hT (⟨h.2.2, ⟨h.1, h.2.1⟩⟩) (by decide) (by decide)) (fun v2 S2 h2 => ?_)
  obtain ⟨hc0, rfl, rfl⟩ := h2
  have hDp := inD_n hc0
  first | refine r_aload_n (pc := 5) hC dX4_openFor_5 rfl ?_ | refine r_aload_nN (pc := 5) hC dX4_openFor_5 rfl ?_
  refine r_gf (pc := 6) (κ := 5) (j := 4) hC cls5 (by decide) kf_X4_31 hZ.kx hZ.x4 dX4_openFor_6 ?_
  refine r_callV (pc := 9) hC (ct_left hC.fl hZ hV hDp) kv_X4_110 cls2 (hZ.kd (by assumption)) rfl rfl (Nat.le_of_ble_eq_true rfl) ⟨by decide, by decide, by decide, by decide⟩ dX4_openFor_9 (fun _ _ h => h.elim) (fun v9 S9 h9 => ?_)
  obtain ⟨rfl, rfl⟩ := h9
  refine r_iret (pc := 12) hC hR dX4_openFor_12 ?_ (by decide) (by decide)
  exact ⟨hc0, rfl, CO.rfl hZ⟩
abbrev rm_X4_now : Room := { frames := 0, cells := 0, slots := 0, locals := 0 }
set_option maxHeartbeats 4000000 in
set_option maxRecDepth 100000 in
theorem cp_now {l : Launch} {G : Ids} {S : Ps} {Y : Lay} {σ : Sg} {x n : Nat} (hfl : l.stackTraces = false) (hZ : RC G S Y σ x) (hJ : Inv σ n) (hn5 : n ≤ 511) : Ct l (Cond.code yX4_now cX4_now 1 (some .int)) yX4_now rm_X4_now G [.ref x] S (fun v S9 => v = some (.int (nI (mi σ))) ∧ CO G S S9 (σ) x) (fun _ _ => False) := by
  refine Ct.of hfl (by decide) (Nat.le_of_ble_eq_true rfl) (fun Γ V hC hR hT hI => ?_)
  have hV := hJ.1
  have hS := hJ.2.1
  have hn := hV.n
  first | refine r_aload_n (pc := 0) hC dX4_now_0 rfl ?_ | refine r_aload_nN (pc := 0) hC dX4_now_0 rfl ?_
  refine r_gf (pc := 1) (κ := 5) (j := 4) hC cls5 (by decide) kf_X4_31 hZ.kx hZ.x4 dX4_now_1 ?_
  refine r_iret (pc := 4) hC hR dX4_now_4 ?_ (by decide) (by decide)
  exact ⟨rfl, CO.rfl hZ⟩
abbrev rm_X4_inside : Room := { frames := 7, cells := 1, slots := 6, locals := 107 }
set_option maxHeartbeats 4000000 in
set_option maxRecDepth 100000 in
theorem cp_inside {l : Launch} {G : Ids} {S : Ps} {Y : Lay} {σ : Sg} {x n : Nat} {p : Int32} (hfl : l.stackTraces = false) (hZ : RC G S Y σ x) (hJ : Inv σ n) (hn5 : n ≤ 511) : Ct l (Cond.code yX4_inside cX4_inside 2 (some .int)) yX4_inside rm_X4_inside G [.ref x, .int p] S (fun v S9 => inZ σ p = true ∧ v = some (.int (nI (insB σ (iN p)))) ∧ CO G S S9 (σ) x) (fun E S9 => S = S9 ∧ ((E = eIOB ∧ inZ σ p = false))) := by
  refine Ct.of hfl (by decide) (Nat.le_of_ble_eq_true rfl) (fun Γ V hC hR hT hI => ?_)
  have hV := hJ.1
  have hS := hJ.2.1
  have hn := hV.n
  first | refine r_aload_n (pc := 0) hC dX4_inside_0 rfl ?_ | refine r_aload_nN (pc := 0) hC dX4_inside_0 rfl ?_
  first | refine r_aload_n (pc := 1) hC dX4_inside_1 rfl ?_ | refine r_aload_nN (pc := 1) hC dX4_inside_1 rfl ?_
  refine r_iload_n (pc := 2) hC dX4_inside_2 rfl ?_
  refine r_callV (pc := 3) hC (ct_zoneOf hC.fl hZ hV (p := p)) kv_X4_58 cls5 hZ.kx rfl rfl (Nat.le_of_ble_eq_true rfl) ⟨by decide, by decide, by decide, by decide⟩ dX4_inside_3 (fun E S9 h => at_out hR hT (⟨h.2.2, ⟨h.1, h.2.1⟩⟩) (by decide) (by decide)) (fun v3 S3 h3 => ?_)
  obtain ⟨hc0, rfl, rfl⟩ := h3
  have hZp := inZ_n hc0
  refine r_callV (pc := 6) hC (ct_badgesIn hC.fl hZ hV hZp) kv_X4_166 cls5 hZ.kx rfl rfl (Nat.le_of_ble_eq_true rfl) ⟨by decide, by decide, by decide, by decide⟩ dX4_inside_6 (fun _ _ h => h.elim) (fun v6 S6 h6 => ?_)
  obtain ⟨rfl, rfl⟩ := h6
  refine r_iret (pc := 9) hC hR dX4_inside_9 ?_ (by decide) (by decide)
  exact ⟨hc0, rfl, CO.rfl hZ⟩
abbrev rm_X4_wouldBe : Room := { frames := 7, cells := 2, slots := 12, locals := 154 }
abbrev rm_X4_minutesIn : Room := { frames := 7, cells := 2, slots := 12, locals := 107 }
set_option maxHeartbeats 4000000 in
set_option maxRecDepth 100000 in
theorem cp_minutesIn {l : Launch} {G : Ids} {S : Ps} {Y : Lay} {σ : Sg} {x n : Nat} {p q : Int32} (hfl : l.stackTraces = false) (hZ : RC G S Y σ x) (hJ : Inv σ n) (hn5 : n ≤ 511) : Ct l (Cond.code yX4_minutesIn cX4_minutesIn 4 (some .int)) yX4_minutesIn rm_X4_minutesIn G [.ref x, .int p, .int q] S (fun v S9 => inB σ p = true ∧ inZ σ q = true ∧ v = some (.int (nI (minZ σ (iN p) (iN q)))) ∧ CO G S S9 (σ) x) (fun E S9 => S = S9 ∧ ((E = eIOB ∧ inB σ p = false) ∨ (E = eIOB ∧ inB σ p = true ∧ inZ σ q = false))) := by
  refine Ct.of hfl (by decide) (Nat.le_of_ble_eq_true rfl) (fun Γ V hC hR hT hI => ?_)
  have hV := hJ.1
  have hS := hJ.2.1
  have hn := hV.n
  first | refine r_aload_n (pc := 0) hC dX4_minutesIn_0 rfl ?_ | refine r_aload_nN (pc := 0) hC dX4_minutesIn_0 rfl ?_
  refine r_iload_n (pc := 1) hC dX4_minutesIn_1 rfl ?_
  refine r_callV (pc := 2) hC (ct_badgeOf hC.fl hZ hV (p := p)) kv_X4_122 cls5 hZ.kx rfl rfl (Nat.le_of_ble_eq_true rfl) ⟨by decide, by decide, by decide, by decide⟩ dX4_minutesIn_2 (fun E S9 h => at_out hR hT (⟨h.2.2, Or.inl (⟨h.1, h.2.1⟩)⟩) (by decide) (by decide)) (fun v2 S2 h2 => ?_)
  obtain ⟨hc0, rfl, rfl⟩ := h2
  have hBp := inB_n hc0
  first | refine r_astore_n (pc := 5) hC dX4_minutesIn_5 (by decide) ?_ | refine r_astore_nN (pc := 5) hC dX4_minutesIn_5 (by decide) ?_
  first | refine r_aload_n (pc := 6) hC dX4_minutesIn_6 rfl ?_ | refine r_aload_nN (pc := 6) hC dX4_minutesIn_6 rfl ?_
  first | refine r_aload_n (pc := 7) hC dX4_minutesIn_7 rfl ?_ | refine r_aload_nN (pc := 7) hC dX4_minutesIn_7 rfl ?_
  refine r_iload_n (pc := 8) hC dX4_minutesIn_8 rfl ?_
  refine r_callV (pc := 9) hC (ct_zoneOf hC.fl hZ hV (p := q)) kv_X4_58 cls5 hZ.kx rfl rfl (Nat.le_of_ble_eq_true rfl) ⟨by decide, by decide, by decide, by decide⟩ dX4_minutesIn_9 (fun E S9 h => at_out hR hT (⟨h.2.2, Or.inr (⟨h.1, hc0, h.2.1⟩)⟩) (by decide) (by decide)) (fun v9 S9 h9 => ?_)
  obtain ⟨hc1, rfl, rfl⟩ := h9
  have hZq := inZ_n hc1
  first | refine r_aload_n (pc := 12) hC dX4_minutesIn_12 rfl ?_ | refine r_aload_nN (pc := 12) hC dX4_minutesIn_12 rfl ?_
  refine r_gf (pc := 13) (κ := 5) (j := 4) hC cls5 (by decide) kf_X4_31 hZ.kx hZ.x4 dX4_minutesIn_13 ?_
  refine r_callV (pc := 16) hC (ct_minutes hC.fl hZ hV hBp hZq hS (by omega)) kv_X4_185 cls1 (hZ.kb (by assumption)) rfl rfl (Nat.le_of_ble_eq_true rfl) ⟨by decide, by decide, by decide, by decide⟩ dX4_minutesIn_16 (fun _ _ h => h.elim) (fun v16 S16 h16 => ?_)
  obtain ⟨rfl, rfl⟩ := h16
  rw [ms_min hJ hBp]
  refine r_iret (pc := 19) hC hR dX4_minutesIn_19 ?_ (by decide) (by decide)
  exact ⟨hc0, hc1, rfl, CO.rfl hZ⟩
abbrev rm_X4_way : Room := { frames := 7, cells := 2, slots := 12, locals := 111 }
abbrev rm_X4_next : Room := { frames := 7, cells := 2, slots := 12, locals := 111 }
abbrev rm_X4_badge : Room := { frames := 7, cells := 2, slots := 12, locals := 107 }
set_option maxHeartbeats 4000000 in
set_option maxRecDepth 100000 in
theorem cp_badge {l : Launch} {G : Ids} {S : Ps} {Y : Lay} {σ : Sg} {x n : Nat} {p q : Int32} (hfl : l.stackTraces = false) (hZ : RC G S Y σ x) (hJ : Inv σ n) (hn5 : n ≤ 511) : Ct l (Cond.code yX4_badge cX4_badge 4 (some .int)) yX4_badge rm_X4_badge G [.ref x, .int p, .int q] S (fun v S9 => inB σ p = true ∧ wi 0 4 q = true ∧ v = some (.int (tel σ (iN p) (iN q))) ∧ CO G S S9 (σ) x) (fun E S9 => S = S9 ∧ ((E = eIOB ∧ inB σ p = false) ∨ (E = eIOB ∧ inB σ p = true ∧ wi 0 4 q = false))) := by
  refine Ct.of hfl (by decide) (Nat.le_of_ble_eq_true rfl) (fun Γ V hC hR hT hI => ?_)
  have hV := hJ.1
  have hS := hJ.2.1
  have hn := hV.n
  first | refine r_aload_n (pc := 0) hC dX4_badge_0 rfl ?_ | refine r_aload_nN (pc := 0) hC dX4_badge_0 rfl ?_
  refine r_iload_n (pc := 1) hC dX4_badge_1 rfl ?_
  refine r_callV (pc := 2) hC (ct_badgeOf hC.fl hZ hV (p := p)) kv_X4_122 cls5 hZ.kx rfl rfl (Nat.le_of_ble_eq_true rfl) ⟨by decide, by decide, by decide, by decide⟩ dX4_badge_2 (fun E S9 h => at_out hR hT (⟨h.2.2, Or.inl (⟨h.1, h.2.1⟩)⟩) (by decide) (by decide)) (fun v2 S2 h2 => ?_)
  obtain ⟨hc0, rfl, rfl⟩ := h2
  have hBp := inB_n hc0
  first | refine r_astore_n (pc := 5) hC dX4_badge_5 (by decide) ?_ | refine r_astore_nN (pc := 5) hC dX4_badge_5 (by decide) ?_
  refine r_iload_n (pc := 6) hC dX4_badge_6 rfl ?_
  refine r_iconst (pc := 7) (nI 0) hC dX4_badge_7 (by decide) ?_
  refine r_iconst (pc := 8) (nI 4) hC dX4_badge_8 (by decide) ?_
  refine r_callS (pc := 9) hC (ct_within hC.fl (p := q) (a := 0) (b := 4) (by decide) (by decide)) ks_X4_80 rfl rfl (Nat.le_of_ble_eq_true rfl) ⟨by decide, by decide, by decide, by decide⟩ dX4_badge_9 (fun _ _ h => h.elim) (fun v9 S9 h9 => ?_)
  obtain ⟨rfl, rfl⟩ := h9
  first | refine rb_if_ne (pc := 12) (tgt := 25) hC dX4_badge_12 (by decide) (fun c12 => ?_) (fun c12 => ?_) | refine rn_if_ne (pc := 12) (tgt := 25) hC dX4_badge_12 (by decide) (by omega) (fun c12 => ?_) (fun c12 => ?_) | refine ri_if_ne (pc := 12) (tgt := 25) hC dX4_badge_12 (by decide) (fun c12 => ?_) (fun c12 => ?_)
  · -- taken
    first | refine r_aload_n (pc := 25) hC dX4_badge_25 rfl ?_ | refine r_aload_nN (pc := 25) hC dX4_badge_25 rfl ?_
    refine r_iload_n (pc := 26) hC dX4_badge_26 rfl ?_
    rw [show Value.int q = .int (nI (iN q)) by rw [nI_iN (wi_d c12).1]]
    refine r_callV (pc := 27) hC (ct_tell hC.fl hZ hV hBp (w := iN q) (by have := wi_d c12; unfold iN; omega)) kv_X4_147 cls1 (hZ.kb (by assumption)) rfl rfl (Nat.le_of_ble_eq_true rfl) ⟨by decide, by decide, by decide, by decide⟩ dX4_badge_27 (fun _ _ h => h.elim) (fun v27 S27 h27 => ?_)
    obtain ⟨rfl, rfl⟩ := h27
    refine r_iret (pc := 30) hC hR dX4_badge_30 ?_ (by decide) (by decide)
    exact ⟨hc0, c12, rfl, CO.rfl hZ⟩
  · -- not
    refine r_throw (pc := 15) hC hR hT (cls := "java/lang/IndexOutOfBoundsException") (text := "what is not 0 to 4") (by decide +kernel) ats_IOB kc_X4_62 kini_IOB (by decide) dX4_badge_15 dX4_badge_18 dX4_badge_19 dX4_badge_21 dX4_badge_24 (by decide) (Nat.le_of_ble_eq_true rfl) (by decide) (by decide) ?_
    exact ⟨rfl, Or.inr (⟨rfl, hc0, c12⟩)⟩
abbrev rm_X4_wasIn : Room := { frames := 7, cells := 2, slots := 12, locals := 107 }
set_option maxHeartbeats 4000000 in
set_option maxRecDepth 100000 in
theorem cp_wasIn {l : Launch} {G : Ids} {S : Ps} {Y : Lay} {σ : Sg} {x n : Nat} {p q : Int32} (hfl : l.stackTraces = false) (hZ : RC G S Y σ x) (hJ : Inv σ n) (hn5 : n ≤ 511) : Ct l (Cond.code yX4_wasIn cX4_wasIn 4 (some .int)) yX4_wasIn rm_X4_wasIn G [.ref x, .int p, .int q] S (fun v S9 => inB σ p = true ∧ wi 0 (mi σ) q = true ∧ v = some (.int (nI (lkL σ (iN p) (iN q) (mv σ)))) ∧ CO G S S9 (σ) x) (fun E S9 => S = S9 ∧ ((E = eIOB ∧ inB σ p = false) ∨ (E = eIAE ∧ inB σ p = true ∧ wi 0 (mi σ) q = false))) := by
  refine Ct.of hfl (by decide) (Nat.le_of_ble_eq_true rfl) (fun Γ V hC hR hT hI => ?_)
  have hV := hJ.1
  have hS := hJ.2.1
  have hn := hV.n
  first | refine r_aload_n (pc := 0) hC dX4_wasIn_0 rfl ?_ | refine r_aload_nN (pc := 0) hC dX4_wasIn_0 rfl ?_
  refine r_iload_n (pc := 1) hC dX4_wasIn_1 rfl ?_
  refine r_callV (pc := 2) hC (ct_badgeOf hC.fl hZ hV (p := p)) kv_X4_122 cls5 hZ.kx rfl rfl (Nat.le_of_ble_eq_true rfl) ⟨by decide, by decide, by decide, by decide⟩ dX4_wasIn_2 (fun E S9 h => at_out hR hT (⟨h.2.2, Or.inl (⟨h.1, h.2.1⟩)⟩) (by decide) (by decide)) (fun v2 S2 h2 => ?_)
  obtain ⟨hc0, rfl, rfl⟩ := h2
  have hBp := inB_n hc0
  first | refine r_astore_n (pc := 5) hC dX4_wasIn_5 (by decide) ?_ | refine r_astore_nN (pc := 5) hC dX4_wasIn_5 (by decide) ?_
  refine r_iload_n (pc := 6) hC dX4_wasIn_6 rfl ?_
  refine r_iconst (pc := 7) (nI 0) hC dX4_wasIn_7 (by decide) ?_
  first | refine r_aload_n (pc := 8) hC dX4_wasIn_8 rfl ?_ | refine r_aload_nN (pc := 8) hC dX4_wasIn_8 rfl ?_
  refine r_gf (pc := 9) (κ := 5) (j := 4) hC cls5 (by decide) kf_X4_31 hZ.kx hZ.x4 dX4_wasIn_9 ?_
  refine r_callS (pc := 12) hC (ct_within hC.fl (p := q) (a := 0) (b := mi σ) (by decide) (by omega)) ks_X4_80 rfl rfl (Nat.le_of_ble_eq_true rfl) ⟨by decide, by decide, by decide, by decide⟩ dX4_wasIn_12 (fun _ _ h => h.elim) (fun v12 S12 h12 => ?_)
  obtain ⟨rfl, rfl⟩ := h12
  first | refine rb_if_ne (pc := 15) (tgt := 28) hC dX4_wasIn_15 (by decide) (fun c15 => ?_) (fun c15 => ?_) | refine rn_if_ne (pc := 15) (tgt := 28) hC dX4_wasIn_15 (by decide) (by omega) (fun c15 => ?_) (fun c15 => ?_) | refine ri_if_ne (pc := 15) (tgt := 28) hC dX4_wasIn_15 (by decide) (fun c15 => ?_) (fun c15 => ?_)
  · -- taken
    first | refine r_aload_n (pc := 28) hC dX4_wasIn_28 rfl ?_ | refine r_aload_nN (pc := 28) hC dX4_wasIn_28 rfl ?_
    refine r_iload_n (pc := 29) hC dX4_wasIn_29 rfl ?_
    rw [show Value.int q = .int (nI (iN q)) by rw [nI_iN (wi_d c15).1]]
    refine r_callV (pc := 30) hC (ct_zoneAt hC.fl hZ hV hBp hS (by omega) (t := iN q) (by have := wi_d c15; unfold iN; omega)) kv_X4_179 cls1 (hZ.kb (by assumption)) rfl rfl (Nat.le_of_ble_eq_true rfl) ⟨by decide, by decide, by decide, by decide⟩ dX4_wasIn_30 (fun _ _ h => h.elim) (fun v30 S30 h30 => ?_)
    obtain ⟨rfl, rfl⟩ := h30
    refine r_gf (pc := 33) (κ := 4) (j := 0) hC cls4 (by decide) kf_X4_182 (hZ.kz (lkS_lt hS hBp hn.1 _ (Nat.le_refl _))) (hZ.z0 (lkS_lt hS hBp hn.1 _ (Nat.le_refl _))) dX4_wasIn_33 ?_
    refine r_iret (pc := 36) hC hR dX4_wasIn_36 ?_ (by decide) (by decide)
    exact ⟨hc0, c15, by rw [hJ.2.2.2 _ hBp], CO.rfl hZ⟩
  · -- not
    refine r_throw (pc := 18) hC hR hT (cls := "java/lang/IllegalArgumentException") (text := "not a minute up to now") (by decide +kernel) ats_IAE kc_X4_84 kini_IAE (by decide) dX4_wasIn_18 dX4_wasIn_21 dX4_wasIn_22 dX4_wasIn_24 dX4_wasIn_27 (by decide) (Nat.le_of_ble_eq_true rfl) (by decide) (by decide) ?_
    exact ⟨rfl, Or.inr (⟨rfl, hc0, c15⟩)⟩
abbrev rm_X4_addZone : Room := { frames := 7, cells := 6, slots := 834, locals := 171 }
set_option maxHeartbeats 4000000 in
set_option maxRecDepth 100000 in
theorem cp_addZone {l : Launch} {G : Ids} {S : Ps} {Y : Lay} {σ : Sg} {x n : Nat} {p q r : Int32} (hfl : l.stackTraces = false) (hZ : RC G S Y σ x) (hJ : Inv σ n) (hn5 : n ≤ 511) : Ct l (Cond.code yX4_addZone cX4_addZone 5 (some .int)) yX4_addZone rm_X4_addZone G [.ref x, .int p, .int q, .int r] S (fun v S9 => inH p q r = true ∧ decide (nz σ < 8) = true ∧ v = some (.int (nI (nz σ))) ∧ CO G S S9 (adZ σ (iN p) (iN q) (iN r)) x) (fun E S9 => S = S9 ∧ ((E = eIAE ∧ inH p q r = false) ∨ (E = eISE ∧ inH p q r = true ∧ decide (nz σ < 8) = false))) := by
  refine Ct.of hfl (by decide) (Nat.le_of_ble_eq_true rfl) (fun Γ V hC hR hT hI => ?_)
  have hV := hJ.1
  have hS := hJ.2.1
  have hn := hV.n
  refine r_iload_n (pc := 0) hC dX4_addZone_0 rfl ?_
  refine r_iload_n (pc := 1) hC dX4_addZone_1 rfl ?_
  refine r_iload_n (pc := 2) hC dX4_addZone_2 rfl ?_
  refine r_callS (pc := 3) hC (ct_checkZ hC.fl (p := p) (q := q) (r := r)) ks_X4_43 rfl rfl (Nat.le_of_ble_eq_true rfl) ⟨by decide, by decide, by decide, by decide⟩ dX4_addZone_3 (fun E S9 h => at_out hR hT (⟨h.2.2, Or.inl (⟨h.1, h.2.1⟩)⟩) (by decide) (by decide)) (fun v3 S3 h3 => ?_)
  obtain ⟨rfl, hc0, rfl⟩ := h3
  refine at_know hC (fun he => ?_)
  first | refine r_aload_n (pc := 6) hC dX4_addZone_6 rfl ?_ | refine r_aload_nN (pc := 6) hC dX4_addZone_6 rfl ?_
  refine r_gf (pc := 7) (κ := 5) (j := 1) hC cls5 (by decide) kf_X4_21 hZ.kx hZ.x1 dX4_addZone_7 ?_
  refine r_callV (pc := 10) hC (ct_size hC.fl hZ.lz) kv_X4_47 cls0 hZ.lz.1 rfl rfl (Nat.le_of_ble_eq_true rfl) ⟨by decide, by decide, by decide, by decide⟩ dX4_addZone_10 (fun _ _ h => h.elim) (fun v10 S10 h10 => ?_)
  obtain ⟨rfl, rfl⟩ := h10
  refine r_istore (pc := 13) hC dX4_addZone_13 (by decide) ?_
  refine r_iload (pc := 15) hC dX4_addZone_15 rfl ?_
  refine r_bipush (pc := 17) (nI 8) hC dX4_addZone_17 (by decide) ?_
  first | refine rn_icmp_lt (pc := 19) (tgt := 32) hC dX4_addZone_19 (by decide) (by omega) (by omega) (fun c19 => ?_) (fun c19 => ?_) | refine ri_icmp_lt (pc := 19) (tgt := 32) hC dX4_addZone_19 (by decide) (fun c19 => ?_) (fun c19 => ?_)
  · -- taken
    first | refine r_aload_n (pc := 32) hC dX4_addZone_32 rfl ?_ | refine r_aload_nN (pc := 32) hC dX4_addZone_32 rfl ?_
    refine r_gf (pc := 33) (κ := 5) (j := 1) hC cls5 (by decide) kf_X4_21 hZ.kx hZ.x1 dX4_addZone_33 ?_
    refine r_new (pc := 36) hC cls4 kc_X4_9 kn_X3 (by decide) (by decide) (by decide) dX4_addZone_36 (fun a36 hf36 => ?_)
    refine r_dup (pc := 39) hC dX4_addZone_39 rfl ?_
    refine r_iload (pc := 40) hC dX4_addZone_40 rfl ?_
    refine r_iload_n (pc := 42) hC dX4_addZone_42 rfl ?_
    refine r_iload_n (pc := 43) hC dX4_addZone_43 rfl ?_
    refine r_iload_n (pc := 44) hC dX4_addZone_44 rfl ?_
    refine r_callI (pc := 45) hC (ct_zinit hC.fl (isK_nwO' (k := 4))) ki_X4_11 rfl rfl (Nat.le_of_ble_eq_true rfl) ⟨by decide, by decide, by decide, by decide⟩ dX4_addZone_45 (fun _ _ h => h.elim) (fun v45 S45 h45 => ?_)
    obtain ⟨rfl, rfl⟩ := h45
    have F1 := fr_newO (zI_fr (S := nwO S a36 4) (a := a36) (v0 := nI (nz σ)) (v1 := p) (v2 := q) (v3 := r)) hf36
    have hZ1 := hZ.fr0 F1
    have hka : isK (zI (nwO S a36 4) a36 (nI (nz σ)) p q r) 4 a36 := isK_nwO'
    refine r_callV (pc := 48) hC (ct_add hC.fl hZ1.lz (by omega) hka cls4 kt_X3) kv_X4_39 cls0 hZ1.lz.1 rfl rfl (Nat.le_of_ble_eq_true rfl) ⟨by decide, by decide, by decide, by decide⟩ dX4_addZone_48 (fun _ _ h => h.elim) (fun v48 S48 h48 => ?_)
    obtain ⟨rfl, r2, hA1, hA2, hA3, hA4⟩ := h48
    refine at_know hC (fun he9 => ?_)
    refine r_pop (pc := 51) hC dX4_addZone_51 rfl ?_
    refine r_iload (pc := 52) hC dX4_addZone_52 rfl ?_
    refine r_iret (pc := 54) hC hR dX4_addZone_54 ?_ (by decide) (by decide)
    have he1 := fun q => he9 (hA4 G.2.2.1 q).1
    have nn := hZ1.nn he1 (j := 0) (by omega) hka (by decide) (by decide)
    have FA : Fr (fun q => q = Y 3 0 ∨ q = Y 7 0) S S48 := (fr_any F1).trans hA4
    have hd := inH_d hc0
    refine ⟨hc0, decide_eq_true (by omega), rfl, FA.mono (hZ.lsP' he (j := 0) (by omega)), _, hZ.addZ hV (fun b hb i hi => (hS b hb).2.2.2.2.2.1 i hi) hf36 he FA hA1 (hA2.imp id (fun h9 q => h9 (F1 _ q).1)) hA3 (hA4.K hka) ((hA4.F hka nn 0).trans zI_F.1) ?_ ?_ ?_⟩
    · rw [nI_iN (by omega)]; exact (hA4.F hka nn 1).trans zI_F.2.1
    · rw [nI_iN (by omega)]; exact (hA4.F hka nn 2).trans zI_F.2.2.1
    · rw [nI_iN (by omega)]; exact (hA4.F hka nn 3).trans zI_F.2.2.2
  · -- not
    refine r_throw (pc := 22) hC hR hT (cls := "java/lang/IllegalStateException") (text := "no more zones") (by decide +kernel) ats_ISE kc_X4_51 kini_ISE (by decide) dX4_addZone_22 dX4_addZone_25 dX4_addZone_26 dX4_addZone_28 dX4_addZone_31 (by decide) (Nat.le_of_ble_eq_true rfl) (by decide) (by decide) ?_
    exact ⟨rfl, Or.inr (⟨rfl, hc0, decide_eq_false (by omega)⟩)⟩
abbrev rm_X4_setZone : Room := { frames := 7, cells := 4, slots := 24, locals := 108 }
abbrev rm_X4_addDoor : Room := { frames := 7, cells := 7, slots := 839, locals := 171 }
set_option maxHeartbeats 4000000 in
set_option maxRecDepth 100000 in
theorem cp_addDoor {l : Launch} {G : Ids} {S : Ps} {Y : Lay} {σ : Sg} {x n : Nat} {p q r s : Int32} (hfl : l.stackTraces = false) (hZ : RC G S Y σ x) (hJ : Inv σ n) (hn5 : n ≤ 511) : Ct l (Cond.code yX4_addDoor cX4_addDoor 8 (some .int)) yX4_addDoor rm_X4_addDoor G [.ref x, .int p, .int q, .int r, .int s] S (fun v S9 => inZ σ p = true ∧ inZ σ q = true ∧ inE p q r s = true ∧ decide (nd σ < 12) = true ∧ v = some (.int (nI (nd σ))) ∧ CO G S S9 (adD σ (iN p) (iN q) (iN r) (iN s)) x) (fun E S9 => S = S9 ∧ ((E = eIOB ∧ inZ σ p = false) ∨ (E = eIOB ∧ inZ σ p = true ∧ inZ σ q = false) ∨ (E = eIAE ∧ inZ σ p = true ∧ inZ σ q = true ∧ inE p q r s = false) ∨ (E = eISE ∧ inZ σ p = true ∧ inZ σ q = true ∧ inE p q r s = true ∧ decide (nd σ < 12) = false))) := by
  refine Ct.of hfl (by decide) (Nat.le_of_ble_eq_true rfl) (fun Γ V hC hR hT hI => ?_)
  have hV := hJ.1
  have hS := hJ.2.1
  have hn := hV.n
  first | refine r_aload_n (pc := 0) hC dX4_addDoor_0 rfl ?_ | refine r_aload_nN (pc := 0) hC dX4_addDoor_0 rfl ?_
  refine r_iload_n (pc := 1) hC dX4_addDoor_1 rfl ?_
  refine r_callV (pc := 2) hC (ct_zoneOf hC.fl hZ hV (p := p)) kv_X4_58 cls5 hZ.kx rfl rfl (Nat.le_of_ble_eq_true rfl) ⟨by decide, by decide, by decide, by decide⟩ dX4_addDoor_2 (fun E S9 h => at_out hR hT (⟨h.2.2, Or.inl (⟨h.1, h.2.1⟩)⟩) (by decide) (by decide)) (fun v2 S2 h2 => ?_)
  obtain ⟨hc0, rfl, rfl⟩ := h2
  have hZp := inZ_n hc0
  first | refine r_astore (pc := 5) hC dX4_addDoor_5 (by decide) ?_ | refine r_astoreN (pc := 5) hC dX4_addDoor_5 (by decide) ?_
  first | refine r_aload_n (pc := 7) hC dX4_addDoor_7 rfl ?_ | refine r_aload_nN (pc := 7) hC dX4_addDoor_7 rfl ?_
  refine r_iload_n (pc := 8) hC dX4_addDoor_8 rfl ?_
  refine r_callV (pc := 9) hC (ct_zoneOf hC.fl hZ hV (p := q)) kv_X4_58 cls5 hZ.kx rfl rfl (Nat.le_of_ble_eq_true rfl) ⟨by decide, by decide, by decide, by decide⟩ dX4_addDoor_9 (fun E S9 h => at_out hR hT (⟨h.2.2, Or.inr (Or.inl (⟨h.1, hc0, h.2.1⟩))⟩) (by decide) (by decide)) (fun v9 S9 h9 => ?_)
  obtain ⟨hc1, rfl, rfl⟩ := h9
  have hZq := inZ_n hc1
  first | refine r_astore (pc := 12) hC dX4_addDoor_12 (by decide) ?_ | refine r_astoreN (pc := 12) hC dX4_addDoor_12 (by decide) ?_
  refine r_iload_n (pc := 14) hC dX4_addDoor_14 rfl ?_
  refine r_iload_n (pc := 15) hC dX4_addDoor_15 rfl ?_
  first | refine rn_icmp_eq (pc := 16) (tgt := 39) hC dX4_addDoor_16 (by decide) (by omega) (by omega) (fun c16 => ?_) (fun c16 => ?_) | refine ri_icmp_eq (pc := 16) (tgt := 39) hC dX4_addDoor_16 (by decide) (fun c16 => ?_) (fun c16 => ?_)
  · -- taken
    refine r_throw (pc := 39) hC hR hT (cls := "java/lang/IllegalArgumentException") (text := "not a door: sides, hold or lock") (by decide +kernel) ats_IAE kc_X4_84 kini_IAE (by decide) dX4_addDoor_39 dX4_addDoor_42 dX4_addDoor_43 dX4_addDoor_45 dX4_addDoor_48 (by decide) (Nat.le_of_ble_eq_true rfl) (by decide) (by decide) ?_
    exact ⟨rfl, Or.inr (Or.inr (Or.inl (⟨rfl, hc0, hc1, decide_eq_false (by omega)⟩)))⟩
  · -- not
    refine r_iload_n (pc := 19) hC dX4_addDoor_19 rfl ?_
    refine r_iconst (pc := 20) (nI 0) hC dX4_addDoor_20 (by decide) ?_
    refine r_bipush (pc := 21) (nI 9) hC dX4_addDoor_21 (by decide) ?_
    refine r_callS (pc := 23) hC (ct_within hC.fl (p := r) (a := 0) (b := 9) (by decide) (by decide)) ks_X4_80 rfl rfl (Nat.le_of_ble_eq_true rfl) ⟨by decide, by decide, by decide, by decide⟩ dX4_addDoor_23 (fun _ _ h => h.elim) (fun v23 S23 h23 => ?_)
    obtain ⟨rfl, rfl⟩ := h23
    first | refine rb_if_eq (pc := 26) (tgt := 39) hC dX4_addDoor_26 (by decide) (fun c26 => ?_) (fun c26 => ?_) | refine rn_if_eq (pc := 26) (tgt := 39) hC dX4_addDoor_26 (by decide) (by omega) (fun c26 => ?_) (fun c26 => ?_) | refine ri_if_eq (pc := 26) (tgt := 39) hC dX4_addDoor_26 (by decide) (fun c26 => ?_) (fun c26 => ?_)
    · -- taken
      refine r_throw (pc := 39) hC hR hT (cls := "java/lang/IllegalArgumentException") (text := "not a door: sides, hold or lock") (by decide +kernel) ats_IAE kc_X4_84 kini_IAE (by decide) dX4_addDoor_39 dX4_addDoor_42 dX4_addDoor_43 dX4_addDoor_45 dX4_addDoor_48 (by decide) (Nat.le_of_ble_eq_true rfl) (by decide) (by decide) ?_
      have e26 := wi_f c26
      exact ⟨rfl, Or.inr (Or.inr (Or.inl (⟨rfl, hc0, hc1, decide_eq_false (by omega)⟩)))⟩
    · -- not
      refine r_iload (pc := 29) hC dX4_addDoor_29 rfl ?_
      refine r_iconst (pc := 31) (nI 0) hC dX4_addDoor_31 (by decide) ?_
      refine r_iconst (pc := 32) (nI 3) hC dX4_addDoor_32 (by decide) ?_
      refine r_callS (pc := 33) hC (ct_within hC.fl (p := s) (a := 0) (b := 3) (by decide) (by decide)) ks_X4_80 rfl rfl (Nat.le_of_ble_eq_true rfl) ⟨by decide, by decide, by decide, by decide⟩ dX4_addDoor_33 (fun _ _ h => h.elim) (fun v33 S33 h33 => ?_)
      obtain ⟨rfl, rfl⟩ := h33
      first | refine rb_if_ne (pc := 36) (tgt := 49) hC dX4_addDoor_36 (by decide) (fun c36 => ?_) (fun c36 => ?_) | refine rn_if_ne (pc := 36) (tgt := 49) hC dX4_addDoor_36 (by decide) (by omega) (fun c36 => ?_) (fun c36 => ?_) | refine ri_if_ne (pc := 36) (tgt := 49) hC dX4_addDoor_36 (by decide) (fun c36 => ?_) (fun c36 => ?_)
      · -- taken
        refine at_know hC (fun he => ?_)
        have e26 := wi_d c26
        have e36 := wi_d c36
        have hc2 : inE p q r s = true := decide_eq_true (by omega)
        first | refine r_aload_n (pc := 49) hC dX4_addDoor_49 rfl ?_ | refine r_aload_nN (pc := 49) hC dX4_addDoor_49 rfl ?_
        refine r_gf (pc := 50) (κ := 5) (j := 2) hC cls5 (by decide) kf_X4_25 hZ.kx hZ.x2 dX4_addDoor_50 ?_
        refine r_callV (pc := 53) hC (ct_size hC.fl hZ.ld) kv_X4_47 cls0 hZ.ld.1 rfl rfl (Nat.le_of_ble_eq_true rfl) ⟨by decide, by decide, by decide, by decide⟩ dX4_addDoor_53 (fun _ _ h => h.elim) (fun v53 S53 h53 => ?_)
        obtain ⟨rfl, rfl⟩ := h53
        refine r_istore (pc := 56) hC dX4_addDoor_56 (by decide) ?_
        refine r_iload (pc := 58) hC dX4_addDoor_58 rfl ?_
        refine r_bipush (pc := 60) (nI 12) hC dX4_addDoor_60 (by decide) ?_
        first | refine rn_icmp_lt (pc := 62) (tgt := 75) hC dX4_addDoor_62 (by decide) (by omega) (by omega) (fun c62 => ?_) (fun c62 => ?_) | refine ri_icmp_lt (pc := 62) (tgt := 75) hC dX4_addDoor_62 (by decide) (fun c62 => ?_) (fun c62 => ?_)
        · -- taken
          first | refine r_aload_n (pc := 75) hC dX4_addDoor_75 rfl ?_ | refine r_aload_nN (pc := 75) hC dX4_addDoor_75 rfl ?_
          refine r_gf (pc := 76) (κ := 5) (j := 2) hC cls5 (by decide) kf_X4_25 hZ.kx hZ.x2 dX4_addDoor_76 ?_
          refine r_new (pc := 79) hC cls2 kc_X4_91 kn_X1 (by decide) (by decide) (by decide) dX4_addDoor_79 (fun a79 hf79 => ?_)
          refine r_dup (pc := 82) hC dX4_addDoor_82 rfl ?_
          first | refine r_aload (pc := 83) hC dX4_addDoor_83 rfl ?_ | refine r_aloadN (pc := 83) hC dX4_addDoor_83 rfl ?_
          first | refine r_aload (pc := 85) hC dX4_addDoor_85 rfl ?_ | refine r_aloadN (pc := 85) hC dX4_addDoor_85 rfl ?_
          refine r_iload_n (pc := 87) hC dX4_addDoor_87 rfl ?_
          refine r_iload (pc := 88) hC dX4_addDoor_88 rfl ?_
          refine r_callI (pc := 90) hC (ct_dinit hC.fl (isK_nwO' (k := 2))) ki_X4_93 rfl rfl (Nat.le_of_ble_eq_true rfl) ⟨by decide, by decide, by decide, by decide⟩ dX4_addDoor_90 (fun _ _ h => h.elim) (fun v90 S90 h90 => ?_)
          obtain ⟨rfl, rfl⟩ := h90
          have F1 := fr_newO (dI9_fr (S := nwO S a79 2) (a := a79) (p := Y 0 (iN p)) (q := Y 0 (iN q)) (v2 := r) (v3 := s)) hf79
          have hZ1 := hZ.fr0 F1
          have hka : isK (dI9 (nwO S a79 2) a79 (Y 0 (iN p)) (Y 0 (iN q)) r s) 2 a79 := isK_nwO'
          refine r_callV (pc := 93) hC (ct_add hC.fl hZ1.ld (by omega) hka cls2 kt_X1) kv_X4_39 cls0 hZ1.ld.1 rfl rfl (Nat.le_of_ble_eq_true rfl) ⟨by decide, by decide, by decide, by decide⟩ dX4_addDoor_93 (fun _ _ h => h.elim) (fun v93 S93 h93 => ?_)
          obtain ⟨rfl, r2, hA1, hA2, hA3, hA4⟩ := h93
          refine at_know hC (fun he9 => ?_)
          refine r_pop (pc := 96) hC dX4_addDoor_96 rfl ?_
          refine r_iload (pc := 97) hC dX4_addDoor_97 rfl ?_
          refine r_iret (pc := 99) hC hR dX4_addDoor_99 ?_ (by decide) (by decide)
          have he1 := fun q => he9 (hA4 G.2.2.1 q).1
          have nn := hZ1.nn he1 (j := 1) (by omega) hka (by decide) (by decide)
          have FA : Fr (fun q => q = Y 3 1 ∨ q = Y 7 1) S S93 := (fr_any F1).trans hA4
          refine ⟨hc0, hc1, hc2, decide_eq_true (by omega), rfl, FA.mono (hZ.lsP' he (j := 1) (by omega)), _, hZ.addD hf79 he FA hA1 (hA2.imp id (fun h9 q => h9 (F1 _ q).1)) hA3 (hA4.K hka) ((hA4.F hka nn 0).trans dI9_F.1) ((hA4.F hka nn 1).trans dI9_F.2.1) ?_ ?_ ((hA4.F hka nn 4).trans dI9_F.2.2.2.2)⟩
          · rw [nI_iN (by omega)]; exact (hA4.F hka nn 2).trans dI9_F.2.2.1
          · rw [nI_iN (by omega)]; exact (hA4.F hka nn 3).trans dI9_F.2.2.2.1
        · -- not
          refine r_throw (pc := 65) hC hR hT (cls := "java/lang/IllegalStateException") (text := "no more doors") (by decide +kernel) ats_ISE kc_X4_51 kini_ISE (by decide) dX4_addDoor_65 dX4_addDoor_68 dX4_addDoor_69 dX4_addDoor_71 dX4_addDoor_74 (by decide) (Nat.le_of_ble_eq_true rfl) (by decide) (by decide) ?_
          exact ⟨rfl, Or.inr (Or.inr (Or.inr (⟨rfl, hc0, hc1, hc2, decide_eq_false (by omega)⟩)))⟩
      · -- not
        refine r_throw (pc := 39) hC hR hT (cls := "java/lang/IllegalArgumentException") (text := "not a door: sides, hold or lock") (by decide +kernel) ats_IAE kc_X4_84 kini_IAE (by decide) dX4_addDoor_39 dX4_addDoor_42 dX4_addDoor_43 dX4_addDoor_45 dX4_addDoor_48 (by decide) (Nat.le_of_ble_eq_true rfl) (by decide) (by decide) ?_
        have e26 := wi_d c26
        have e36 := wi_f c36
        exact ⟨rfl, Or.inr (Or.inr (Or.inl (⟨rfl, hc0, hc1, decide_eq_false (by omega)⟩)))⟩
abbrev rm_X4_addBadge : Room := { frames := 9, cells := 9, slots := 1644, locals := 218 }
set_option maxHeartbeats 4000000 in
set_option maxRecDepth 100000 in
theorem cp_addBadge {l : Launch} {G : Ids} {S : Ps} {Y : Lay} {σ : Sg} {x n : Nat} {p : Int32} (hfl : l.stackTraces = false) (hZ : RC G S Y σ x) (hJ : Inv σ n) (hn5 : n ≤ 511) : Ct l (Cond.code yX4_addBadge cX4_addBadge 2 (some .int)) yX4_addBadge rm_X4_addBadge G [.ref x, .int p] S (fun v S9 => wi 0 255 p = true ∧ decide (nb σ < 10) = true ∧ v = some (.int (nI (nb σ))) ∧ CO G S S9 (adB σ 0 (iN p)) x) (fun E S9 => S = S9 ∧ ((E = eIAE ∧ wi 0 255 p = false) ∨ (E = eISE ∧ wi 0 255 p = true ∧ decide (nb σ < 10) = false))) := by
  refine Ct.of hfl (by decide) (Nat.le_of_ble_eq_true rfl) (fun Γ V hC hR hT hI => ?_)
  have hV := hJ.1
  have hS := hJ.2.1
  have hn := hV.n
  refine r_iload_n (pc := 0) hC dX4_addBadge_0 rfl ?_
  refine r_callS (pc := 1) hC (ct_checkR hC.fl (p := p)) ks_X4_114 rfl rfl (Nat.le_of_ble_eq_true rfl) ⟨by decide, by decide, by decide, by decide⟩ dX4_addBadge_1 (fun E S9 h => at_out hR hT (⟨h.2.2, Or.inl (⟨h.1, h.2.1⟩)⟩) (by decide) (by decide)) (fun v1 S1 h1 => ?_)
  obtain ⟨rfl, hc0, rfl⟩ := h1
  first | refine r_aload_n (pc := 4) hC dX4_addBadge_4 rfl ?_ | refine r_aload_nN (pc := 4) hC dX4_addBadge_4 rfl ?_
  refine r_null (pc := 5) hC dX4_addBadge_5 ?_
  refine r_iload_n (pc := 6) hC dX4_addBadge_6 rfl ?_
  rw [show Value.int p = .int (nI (iN p)) by rw [nI_iN (wi_d hc0).1]]
  refine r_callV (pc := 7) hC (ct_keepN hC.fl hZ hV (r := iN p)) kv_X4_118 cls5 hZ.kx rfl rfl (Nat.le_of_ble_eq_true rfl) ⟨by decide, by decide, by decide, by decide⟩ dX4_addBadge_7 (fun E S9 h => at_out hR hT (⟨h.1, Or.inr (⟨h.2.1, hc0, h.2.2⟩)⟩) (by decide) (by decide)) (fun v7 S7 h7 => ?_)
  obtain ⟨hc1, rfl, hCO⟩ := h7
  refine r_iret (pc := 10) hC hR dX4_addBadge_10 ?_ (by decide) (by decide)
  exact ⟨hc0, hc1, rfl, hCO⟩
abbrev rm_X4_addVisitor : Room := { frames := 9, cells := 10, slots := 1650, locals := 218 }
set_option maxHeartbeats 4000000 in
set_option maxRecDepth 100000 in
theorem cp_addVisitor {l : Launch} {G : Ids} {S : Ps} {Y : Lay} {σ : Sg} {x n : Nat} {p : Int32} (hfl : l.stackTraces = false) (hZ : RC G S Y σ x) (hJ : Inv σ n) (hn5 : n ≤ 511) : Ct l (Cond.code yX4_addVisitor cX4_addVisitor 3 (some .int)) yX4_addVisitor rm_X4_addVisitor G [.ref x, .int p] S (fun v S9 => inB σ p = true ∧ decide (hst σ (iN p) = 0) = true ∧ decide (nb σ < 10) = true ∧ v = some (.int (nI (nb σ))) ∧ CO G S S9 (adB σ (iN p + 1) 0) x) (fun E S9 => S = S9 ∧ ((E = eIOB ∧ inB σ p = false) ∨ (E = eIAE ∧ inB σ p = true ∧ decide (hst σ (iN p) = 0) = false) ∨ (E = eISE ∧ inB σ p = true ∧ decide (hst σ (iN p) = 0) = true ∧ decide (nb σ < 10) = false))) := by
  refine Ct.of hfl (by decide) (Nat.le_of_ble_eq_true rfl) (fun Γ V hC hR hT hI => ?_)
  have hV := hJ.1
  have hS := hJ.2.1
  have hn := hV.n
  by_cases hh : hst σ (iN p) = 0
  · skip
    first | refine r_aload_n (pc := 0) hC dX4_addVisitor_0 rfl ?_ | refine r_aload_nN (pc := 0) hC dX4_addVisitor_0 rfl ?_
    refine r_iload_n (pc := 1) hC dX4_addVisitor_1 rfl ?_
    refine r_callV (pc := 2) hC (ct_badgeOf hC.fl hZ hV (p := p)) kv_X4_122 cls5 hZ.kx rfl rfl (Nat.le_of_ble_eq_true rfl) ⟨by decide, by decide, by decide, by decide⟩ dX4_addVisitor_2 (fun E S9 h => at_out hR hT (⟨h.2.2, Or.inl (⟨h.1, h.2.1⟩)⟩) (by decide) (by decide)) (fun v2 S2 h2 => ?_)
    obtain ⟨hc0, rfl, rfl⟩ := h2
    have hBp := inB_n hc0
    first | refine r_astore_n (pc := 5) hC dX4_addVisitor_5 (by decide) ?_ | refine r_astore_nN (pc := 5) hC dX4_addVisitor_5 (by decide) ?_
    first | refine r_aload_n (pc := 6) hC dX4_addVisitor_6 rfl ?_ | refine r_aload_nN (pc := 6) hC dX4_addVisitor_6 rfl ?_
    refine r_gf (pc := 7) (κ := 1) (j := 1) hC cls1 (by decide) kf_X4_126 (hZ.kb hBp) (hZ.b1n hBp hh) dX4_addVisitor_7 ?_
    refine r_ifnullN (pc := 10) (tgt := 23) hC dX4_addVisitor_10 (by decide) ?_
    first | refine r_aload_n (pc := 23) hC dX4_addVisitor_23 rfl ?_ | refine r_aload_nN (pc := 23) hC dX4_addVisitor_23 rfl ?_
    first | refine r_aload_n (pc := 24) hC dX4_addVisitor_24 rfl ?_ | refine r_aload_nN (pc := 24) hC dX4_addVisitor_24 rfl ?_
    refine r_iconst (pc := 25) (nI 0) hC dX4_addVisitor_25 (by decide) ?_
    refine r_callV (pc := 26) hC (ct_keepS hC.fl hZ hV (h := iN p) (r := 0) hBp) kv_X4_118 cls5 hZ.kx rfl rfl (Nat.le_of_ble_eq_true rfl) ⟨by decide, by decide, by decide, by decide⟩ dX4_addVisitor_26 (fun E S9 h => at_out hR hT (⟨h.1, Or.inr (Or.inr (⟨h.2.1, hc0, decide_eq_true hh, h.2.2⟩))⟩) (by decide) (by decide)) (fun v26 S26 h26 => ?_)
    obtain ⟨hc2, rfl, hCO⟩ := h26
    refine r_iret (pc := 29) hC hR dX4_addVisitor_29 ?_ (by decide) (by decide)
    exact ⟨hc0, decide_eq_true hh, hc2, rfl, hCO⟩
  · skip
    first | refine r_aload_n (pc := 0) hC dX4_addVisitor_0 rfl ?_ | refine r_aload_nN (pc := 0) hC dX4_addVisitor_0 rfl ?_
    refine r_iload_n (pc := 1) hC dX4_addVisitor_1 rfl ?_
    refine r_callV (pc := 2) hC (ct_badgeOf hC.fl hZ hV (p := p)) kv_X4_122 cls5 hZ.kx rfl rfl (Nat.le_of_ble_eq_true rfl) ⟨by decide, by decide, by decide, by decide⟩ dX4_addVisitor_2 (fun E S9 h => at_out hR hT (⟨h.2.2, Or.inl (⟨h.1, h.2.1⟩)⟩) (by decide) (by decide)) (fun v2 S2 h2 => ?_)
    obtain ⟨hc0, rfl, rfl⟩ := h2
    have hBp := inB_n hc0
    first | refine r_astore_n (pc := 5) hC dX4_addVisitor_5 (by decide) ?_ | refine r_astore_nN (pc := 5) hC dX4_addVisitor_5 (by decide) ?_
    first | refine r_aload_n (pc := 6) hC dX4_addVisitor_6 rfl ?_ | refine r_aload_nN (pc := 6) hC dX4_addVisitor_6 rfl ?_
    refine r_gf (pc := 7) (κ := 1) (j := 1) hC cls1 (by decide) kf_X4_126 (hZ.kb hBp) (hZ.b1s hBp hh) dX4_addVisitor_7 ?_
    refine r_ifnull (pc := 10) hC dX4_addVisitor_10 ?_
    refine r_throw (pc := 13) hC hR hT (cls := "java/lang/IllegalArgumentException") (text := "a visitor cannot be a host") (by decide +kernel) ats_IAE kc_X4_84 kini_IAE (by decide) dX4_addVisitor_13 dX4_addVisitor_16 dX4_addVisitor_17 dX4_addVisitor_19 dX4_addVisitor_22 (by decide) (Nat.le_of_ble_eq_true rfl) (by decide) (by decide) ?_
    exact ⟨rfl, Or.inr (Or.inl (⟨rfl, hc0, decide_eq_false hh⟩))⟩
abbrev rm_X4_setRights : Room := { frames := 7, cells := 3, slots := 18, locals := 107 }
abbrev rm_X4_block : Room := { frames := 7, cells := 1, slots := 6, locals := 107 }
set_option maxHeartbeats 4000000 in
set_option maxRecDepth 100000 in
theorem cp_block {l : Launch} {G : Ids} {S : Ps} {Y : Lay} {σ : Sg} {x n : Nat} {p : Int32} {q : Bool} (hfl : l.stackTraces = false) (hZ : RC G S Y σ x) (hJ : Inv σ n) (hn5 : n ≤ 511) : Ct l (Cond.code yX4_block cX4_block 5 (some .boolean)) yX4_block rm_X4_block G [.ref x, .int p, .int (b2i q)] S (fun v S9 => inB σ p = true ∧ v = some (.int (b2i (decide (blk σ (iN p) = 1)))) ∧ CO G S S9 (blS σ (iN p) (bN q)) x) (fun E S9 => S = S9 ∧ ((E = eIOB ∧ inB σ p = false))) := by
  refine Ct.of hfl (by decide) (Nat.le_of_ble_eq_true rfl) (fun Γ V hC hR hT hI => ?_)
  have hV := hJ.1
  have hS := hJ.2.1
  have hn := hV.n
  cases q
  · skip
    first | refine r_aload_n (pc := 0) hC dX4_block_0 rfl ?_ | refine r_aload_nN (pc := 0) hC dX4_block_0 rfl ?_
    refine r_iload_n (pc := 1) hC dX4_block_1 rfl ?_
    refine r_callV (pc := 2) hC (ct_badgeOf hC.fl hZ hV (p := p)) kv_X4_122 cls5 hZ.kx rfl rfl (Nat.le_of_ble_eq_true rfl) ⟨by decide, by decide, by decide, by decide⟩ dX4_block_2 (fun E S9 h => at_out hR hT (⟨h.2.2, ⟨h.1, h.2.1⟩⟩) (by decide) (by decide)) (fun v2 S2 h2 => ?_)
    obtain ⟨hc0, rfl, rfl⟩ := h2
    have hBp := inB_n hc0
    first | refine r_astore_n (pc := 5) hC dX4_block_5 (by decide) ?_ | refine r_astore_nN (pc := 5) hC dX4_block_5 (by decide) ?_
    first | refine r_aload_n (pc := 6) hC dX4_block_6 rfl ?_ | refine r_aload_nN (pc := 6) hC dX4_block_6 rfl ?_
    refine r_gf (pc := 7) (κ := 1) (j := 5) hC cls1 (by decide) kf_X4_139 (hZ.kb hBp) ((hZ.b5 hBp).trans (nI_b2 (hV.vb hBp).2.2.2.2.1)) dX4_block_7 ?_
    refine r_istore (pc := 10) hC dX4_block_10 (by decide) ?_
    first | refine r_aload_n (pc := 12) hC dX4_block_12 rfl ?_ | refine r_aload_nN (pc := 12) hC dX4_block_12 rfl ?_
    refine r_iload_n (pc := 13) hC dX4_block_13 rfl ?_
    refine r_pf (pc := 14) (κ := 1) (j := 5) hC cls1 (by decide) kf_X4_139 (hZ.kb hBp) rfl rfl rfl dX4_block_14 ?_
    first | refine r_aload_n (pc := 17) hC dX4_block_17 rfl ?_ | refine r_aload_nN (pc := 17) hC dX4_block_17 rfl ?_
    refine r_iconst (pc := 18) (nI 0) hC dX4_block_18 (by decide) ?_
    refine r_pf (pc := 19) (κ := 1) (j := 6) hC cls1 (by decide) kf_X4_142 (hZ.kb hBp) rfl rfl rfl dX4_block_19 ?_
    refine r_iload (pc := 22) hC dX4_block_22 rfl ?_
    refine r_zret (pc := 24) hC hR dX4_block_24 (by first | rfl | exact b2i_z _ | decide) ?_ (by decide) (by decide)
    exact ⟨hc0, rfl, Fr.trans (Fr.sF (fun _ => Or.inl (by rw [(hZ.kb hBp).2]; decide))) (Fr.sF (fun _ => Or.inl (by rw [(hZ.kb hBp).2]; decide))), Y, (hZ.uB5 (v := bN false) hBp).uB6 (v := 0) hBp⟩
  · skip
    first | refine r_aload_n (pc := 0) hC dX4_block_0 rfl ?_ | refine r_aload_nN (pc := 0) hC dX4_block_0 rfl ?_
    refine r_iload_n (pc := 1) hC dX4_block_1 rfl ?_
    refine r_callV (pc := 2) hC (ct_badgeOf hC.fl hZ hV (p := p)) kv_X4_122 cls5 hZ.kx rfl rfl (Nat.le_of_ble_eq_true rfl) ⟨by decide, by decide, by decide, by decide⟩ dX4_block_2 (fun E S9 h => at_out hR hT (⟨h.2.2, ⟨h.1, h.2.1⟩⟩) (by decide) (by decide)) (fun v2 S2 h2 => ?_)
    obtain ⟨hc0, rfl, rfl⟩ := h2
    have hBp := inB_n hc0
    first | refine r_astore_n (pc := 5) hC dX4_block_5 (by decide) ?_ | refine r_astore_nN (pc := 5) hC dX4_block_5 (by decide) ?_
    first | refine r_aload_n (pc := 6) hC dX4_block_6 rfl ?_ | refine r_aload_nN (pc := 6) hC dX4_block_6 rfl ?_
    refine r_gf (pc := 7) (κ := 1) (j := 5) hC cls1 (by decide) kf_X4_139 (hZ.kb hBp) ((hZ.b5 hBp).trans (nI_b2 (hV.vb hBp).2.2.2.2.1)) dX4_block_7 ?_
    refine r_istore (pc := 10) hC dX4_block_10 (by decide) ?_
    first | refine r_aload_n (pc := 12) hC dX4_block_12 rfl ?_ | refine r_aload_nN (pc := 12) hC dX4_block_12 rfl ?_
    refine r_iload_n (pc := 13) hC dX4_block_13 rfl ?_
    refine r_pf (pc := 14) (κ := 1) (j := 5) hC cls1 (by decide) kf_X4_139 (hZ.kb hBp) rfl rfl rfl dX4_block_14 ?_
    first | refine r_aload_n (pc := 17) hC dX4_block_17 rfl ?_ | refine r_aload_nN (pc := 17) hC dX4_block_17 rfl ?_
    refine r_iconst (pc := 18) (nI 0) hC dX4_block_18 (by decide) ?_
    refine r_pf (pc := 19) (κ := 1) (j := 6) hC cls1 (by decide) kf_X4_142 (hZ.kb hBp) rfl rfl rfl dX4_block_19 ?_
    refine r_iload (pc := 22) hC dX4_block_22 rfl ?_
    refine r_zret (pc := 24) hC hR dX4_block_24 (by first | rfl | exact b2i_z _ | decide) ?_ (by decide) (by decide)
    exact ⟨hc0, rfl, Fr.trans (Fr.sF (fun _ => Or.inl (by rw [(hZ.kb hBp).2]; decide))) (Fr.sF (fun _ => Or.inl (by rw [(hZ.kb hBp).2]; decide))), Y, (hZ.uB5 (v := bN true) hBp).uB6 (v := 0) hBp⟩
abbrev rm_X4_alarm : Room := { frames := 0, cells := 0, slots := 0, locals := 0 }
set_option maxHeartbeats 4000000 in
set_option maxRecDepth 100000 in
theorem cp_alarm {l : Launch} {G : Ids} {S : Ps} {Y : Lay} {σ : Sg} {x n : Nat} {q : Bool} (hfl : l.stackTraces = false) (hZ : RC G S Y σ x) (hJ : Inv σ n) (hn5 : n ≤ 511) : Ct l (Cond.code yX4_alarm cX4_alarm 3 (some .boolean)) yX4_alarm rm_X4_alarm G [.ref x, .int (b2i q)] S (fun v S9 => v = some (.int (b2i (decide (al σ = 1)))) ∧ CO G S S9 (up σ 1 1 (bN q)) x) (fun _ _ => False) := by
  refine Ct.of hfl (by decide) (Nat.le_of_ble_eq_true rfl) (fun Γ V hC hR hT hI => ?_)
  have hV := hJ.1
  have hS := hJ.2.1
  have hn := hV.n
  cases q
  · skip
    first | refine r_aload_n (pc := 0) hC dX4_alarm_0 rfl ?_ | refine r_aload_nN (pc := 0) hC dX4_alarm_0 rfl ?_
    refine r_gf (pc := 1) (κ := 5) (j := 5) hC cls5 (by decide) kf_X4_35 hZ.kx (hZ.x5.trans (nI_b2 hn.2.2.2.2.2)) dX4_alarm_1 ?_
    refine r_istore_n (pc := 4) hC dX4_alarm_4 (by decide) ?_
    first | refine r_aload_n (pc := 5) hC dX4_alarm_5 rfl ?_ | refine r_aload_nN (pc := 5) hC dX4_alarm_5 rfl ?_
    refine r_iload_n (pc := 6) hC dX4_alarm_6 rfl ?_
    refine r_pf (pc := 7) (κ := 5) (j := 5) hC cls5 (by decide) kf_X4_35 hZ.kx rfl rfl rfl dX4_alarm_7 ?_
    refine r_iload_n (pc := 10) hC dX4_alarm_10 rfl ?_
    refine r_zret (pc := 11) hC hR dX4_alarm_11 (by first | rfl | exact b2i_z _ | decide) ?_ (by decide) (by decide)
    exact ⟨rfl, Fr.sF (fun _ => Or.inl (by rw [hZ.kx.2]; decide)), Y, hZ.uX5 (v := bN false)⟩
  · skip
    first | refine r_aload_n (pc := 0) hC dX4_alarm_0 rfl ?_ | refine r_aload_nN (pc := 0) hC dX4_alarm_0 rfl ?_
    refine r_gf (pc := 1) (κ := 5) (j := 5) hC cls5 (by decide) kf_X4_35 hZ.kx (hZ.x5.trans (nI_b2 hn.2.2.2.2.2)) dX4_alarm_1 ?_
    refine r_istore_n (pc := 4) hC dX4_alarm_4 (by decide) ?_
    first | refine r_aload_n (pc := 5) hC dX4_alarm_5 rfl ?_ | refine r_aload_nN (pc := 5) hC dX4_alarm_5 rfl ?_
    refine r_iload_n (pc := 6) hC dX4_alarm_6 rfl ?_
    refine r_pf (pc := 7) (κ := 5) (j := 5) hC cls5 (by decide) kf_X4_35 hZ.kx rfl rfl rfl dX4_alarm_7 ?_
    refine r_iload_n (pc := 10) hC dX4_alarm_10 rfl ?_
    refine r_zret (pc := 11) hC hR dX4_alarm_11 (by first | rfl | exact b2i_z _ | decide) ?_ (by decide) (by decide)
    exact ⟨rfl, Fr.sF (fun _ => Or.inl (by rw [hZ.kx.2]; decide)), Y, hZ.uX5 (v := bN true)⟩
abbrev rm_X4_tick : Room := { frames := 6, cells := 2, slots := 12, locals := 86 }
set_option maxHeartbeats 4000000 in
set_option maxRecDepth 100000 in
theorem cp_tick {l : Launch} {G : Ids} {S : Ps} {Y : Lay} {σ : Sg} {x n : Nat} {p : Int32} (hfl : l.stackTraces = false) (hZ : RC G S Y σ x) (hJ : Inv σ n) (hn5 : n ≤ 511) : Ct l (Cond.code yX4_tick cX4_tick 2 (some .int)) yX4_tick rm_X4_tick G [.ref x, .int p] S (fun v S9 => wi 1 2000 p = true ∧ decide (p.toInt + mi σ ≤ 99999) = true ∧ v = some (.int (nI (mi σ + iN p))) ∧ CO G S S9 (up σ 1 0 (mi σ + iN p)) x) (fun E S9 => S = S9 ∧ ((E = eIAE ∧ wi 1 2000 p = false) ∨ (E = eISE ∧ wi 1 2000 p = true ∧ decide (p.toInt + mi σ ≤ 99999) = false))) := by
  refine Ct.of hfl (by decide) (Nat.le_of_ble_eq_true rfl) (fun Γ V hC hR hT hI => ?_)
  have hV := hJ.1
  have hS := hJ.2.1
  have hn := hV.n
  refine r_iload_n (pc := 0) hC dX4_tick_0 rfl ?_
  refine r_iconst (pc := 1) (nI 1) hC dX4_tick_1 (by decide) ?_
  refine r_sipush (pc := 2) (nI 2000) hC dX4_tick_2 (by decide) ?_
  refine r_callS (pc := 5) hC (ct_within hC.fl (p := p) (a := 1) (b := 2000) (by decide) (by decide)) ks_X4_80 rfl rfl (Nat.le_of_ble_eq_true rfl) ⟨by decide, by decide, by decide, by decide⟩ dX4_tick_5 (fun _ _ h => h.elim) (fun v5 S5 h5 => ?_)
  obtain ⟨rfl, rfl⟩ := h5
  first | refine rb_if_ne (pc := 8) (tgt := 21) hC dX4_tick_8 (by decide) (fun c8 => ?_) (fun c8 => ?_) | refine rn_if_ne (pc := 8) (tgt := 21) hC dX4_tick_8 (by decide) (by omega) (fun c8 => ?_) (fun c8 => ?_) | refine ri_if_ne (pc := 8) (tgt := 21) hC dX4_tick_8 (by decide) (fun c8 => ?_) (fun c8 => ?_)
  · -- taken
    have hd := wi_d c8
    have e10 : ((99999 : Int32) - nI (mi σ)).toInt = ((99999 - mi σ : Nat) : Int) := by rw [show (99999 : Int32) = nI 99999 from rfl, pk_sub (by omega), nI_toInt (by omega)]
    refine r_iload_n (pc := 21) hC dX4_tick_21 rfl ?_
    refine r_ldc (pc := 22) hC dX4_tick_22 kk_X4_152 ?_
    first | refine r_aload_n (pc := 24) hC dX4_tick_24 rfl ?_ | refine r_aload_nN (pc := 24) hC dX4_tick_24 rfl ?_
    refine r_gf (pc := 25) (κ := 5) (j := 4) hC cls5 (by decide) kf_X4_31 hZ.kx hZ.x4 dX4_tick_25 ?_
    first | refine rn_isub (pc := 28) hC dX4_tick_28 (by omega) ?_ | refine r_isub (pc := 28) hC dX4_tick_28 ?_
    first | refine rn_icmp_le (pc := 29) (tgt := 42) hC dX4_tick_29 (by decide) (by omega) (by omega) (fun c29 => ?_) (fun c29 => ?_) | refine ri_icmp_le (pc := 29) (tgt := 42) hC dX4_tick_29 (by decide) (fun c29 => ?_) (fun c29 => ?_)
    · -- taken
      have ep : nI (mi σ) + p = nI (mi σ + iN p) := by rw [← nI_add, nI_iN (by omega)]
      have hpN := iN_toInt (p := p) (by omega)
      first | refine r_aload_n (pc := 42) hC dX4_tick_42 rfl ?_ | refine r_aload_nN (pc := 42) hC dX4_tick_42 rfl ?_
      refine r_dup (pc := 43) hC dX4_tick_43 rfl ?_
      refine r_gf (pc := 44) (κ := 5) (j := 4) hC cls5 (by decide) kf_X4_31 hZ.kx hZ.x4 dX4_tick_44 ?_
      refine r_iload_n (pc := 47) hC dX4_tick_47 rfl ?_
      refine r_iadd (pc := 48) hC dX4_tick_48 ?_
      rw [ep]
      refine r_pf (pc := 49) (κ := 5) (j := 4) hC cls5 (by decide) kf_X4_31 hZ.kx rfl rfl rfl dX4_tick_49 ?_
      first | refine r_aload_n (pc := 52) hC dX4_tick_52 rfl ?_ | refine r_aload_nN (pc := 52) hC dX4_tick_52 rfl ?_
      refine r_gf (pc := 53) (κ := 5) (j := 4) hC cls5 (by decide) kf_X4_31 hZ.kx (pF_sF_eq _ _ _ _) dX4_tick_53 ?_
      refine r_iret (pc := 56) hC hR dX4_tick_56 ?_ (by decide) (by decide)
      exact ⟨c8, decide_eq_true (by omega), rfl, Fr.sF (fun _ => Or.inl (by rw [hZ.kx.2]; decide)), Y, hZ.uX4⟩
    · -- not
      refine r_throw (pc := 32) hC hR hT (cls := "java/lang/IllegalStateException") (text := "later than the last minute") (by decide +kernel) ats_ISE kc_X4_51 kini_ISE (by decide) dX4_tick_32 dX4_tick_35 dX4_tick_36 dX4_tick_38 dX4_tick_41 (by decide) (Nat.le_of_ble_eq_true rfl) (by decide) (by decide) ?_
      exact ⟨rfl, Or.inr (⟨rfl, c8, decide_eq_false (by omega)⟩)⟩
  · -- not
    refine r_throw (pc := 11) hC hR hT (cls := "java/lang/IllegalArgumentException") (text := "minutes are not 1 to 2000") (by decide +kernel) ats_IAE kc_X4_84 kini_IAE (by decide) dX4_tick_11 dX4_tick_14 dX4_tick_15 dX4_tick_17 dX4_tick_20 (by decide) (Nat.le_of_ble_eq_true rfl) (by decide) (by decide) ?_
    exact ⟨rfl, Or.inl (⟨rfl, c8⟩)⟩
abbrev rm_X4_request : Room := { frames := 9, cells := 5, slots := 824, locals := 216 }
set_option maxHeartbeats 4000000 in
set_option maxRecDepth 100000 in
theorem cp_request {l : Launch} {G : Ids} {S : Ps} {Y : Lay} {σ : Sg} {x n : Nat} {p q : Int32} (hfl : l.stackTraces = false) (hZ : RC G S Y σ x) (hJ : Inv σ n) (hn5 : n ≤ 511) : Ct l (Cond.code yX4_request cX4_request 6 (some .int)) yX4_request rm_X4_request G [.ref x, .int p, .int q] S (fun v S9 => inB σ p = true ∧ inD σ q = true ∧ v = some (.int (nI (ans σ (iN p) (iN q)))) ∧ CO G S S9 (rqS σ (iN p) (iN q)) x) (fun E S9 => S = S9 ∧ ((E = eIOB ∧ inB σ p = false) ∨ (E = eIOB ∧ inB σ p = true ∧ inD σ q = false))) := by
  refine Ct.of hfl (by decide) (Nat.le_of_ble_eq_true rfl) (fun Γ V hC hR hT hI => ?_)
  have hV := hJ.1
  have hS := hJ.2.1
  have hn := hV.n
  first | refine r_aload_n (pc := 0) hC dX4_request_0 rfl ?_ | refine r_aload_nN (pc := 0) hC dX4_request_0 rfl ?_
  refine r_iload_n (pc := 1) hC dX4_request_1 rfl ?_
  refine r_callV (pc := 2) hC (ct_badgeOf hC.fl hZ hV (p := p)) kv_X4_122 cls5 hZ.kx rfl rfl (Nat.le_of_ble_eq_true rfl) ⟨by decide, by decide, by decide, by decide⟩ dX4_request_2 (fun E S9 h => at_out hR hT (⟨h.2.2, Or.inl (⟨h.1, h.2.1⟩)⟩) (by decide) (by decide)) (fun v2 S2 h2 => ?_)
  obtain ⟨hc0, rfl, rfl⟩ := h2
  have hBp := inB_n hc0
  first | refine r_astore_n (pc := 5) hC dX4_request_5 (by decide) ?_ | refine r_astore_nN (pc := 5) hC dX4_request_5 (by decide) ?_
  first | refine r_aload_n (pc := 6) hC dX4_request_6 rfl ?_ | refine r_aload_nN (pc := 6) hC dX4_request_6 rfl ?_
  refine r_iload_n (pc := 7) hC dX4_request_7 rfl ?_
  refine r_callV (pc := 8) hC (ct_doorOf hC.fl hZ hV (p := q)) kv_X4_106 cls5 hZ.kx rfl rfl (Nat.le_of_ble_eq_true rfl) ⟨by decide, by decide, by decide, by decide⟩ dX4_request_8 (fun E S9 h => at_out hR hT (⟨h.2.2, Or.inr (⟨h.1, hc0, h.2.1⟩)⟩) (by decide) (by decide)) (fun v8 S8 h8 => ?_)
  obtain ⟨hc1, rfl, rfl⟩ := h8
  have hDq := inD_n hc1
  first | refine r_astore (pc := 11) hC dX4_request_11 (by decide) ?_ | refine r_astoreN (pc := 11) hC dX4_request_11 (by decide) ?_
  first | refine r_aload_n (pc := 13) hC dX4_request_13 rfl ?_ | refine r_aload_nN (pc := 13) hC dX4_request_13 rfl ?_
  first | refine r_aload_n (pc := 14) hC dX4_request_14 rfl ?_ | refine r_aload_nN (pc := 14) hC dX4_request_14 rfl ?_
  first | refine r_aload (pc := 15) hC dX4_request_15 rfl ?_ | refine r_aloadN (pc := 15) hC dX4_request_15 rfl ?_
  refine r_callV (pc := 17) hC (ct_ans hC.fl hZ hV hBp hDq) kv_X4_155 cls5 hZ.kx rfl rfl (Nat.le_of_ble_eq_true rfl) ⟨by decide, by decide, by decide, by decide⟩ dX4_request_17 (fun _ _ h => h.elim) (fun v17 S17 h17 => ?_)
  obtain ⟨rfl, hW⟩ := h17
  have hZ1 := hZ.wy hW
  have hal := ans_le (σ := σ) (b := iN p) (d := iN q)
  refine r_istore (pc := 20) hC dX4_request_20 (by decide) ?_
  refine r_iload (pc := 22) hC dX4_request_22 rfl ?_
  first | refine rb_if_ne (pc := 24) (tgt := 37) hC dX4_request_24 (by decide) (fun c24 => ?_) (fun c24 => ?_) | refine rn_if_ne (pc := 24) (tgt := 37) hC dX4_request_24 (by decide) (by omega) (fun c24 => ?_) (fun c24 => ?_) | refine ri_if_ne (pc := 24) (tgt := 37) hC dX4_request_24 (by decide) (fun c24 => ?_) (fun c24 => ?_)
  · -- taken
    refine r_iload (pc := 37) hC dX4_request_37 rfl ?_
    refine r_bipush (pc := 39) (nI 8) hC dX4_request_39 (by decide) ?_
    first | refine rn_icmp_eq (pc := 41) (tgt := 48) hC dX4_request_41 (by decide) (by omega) (by omega) (fun c41 => ?_) (fun c41 => ?_) | refine ri_icmp_eq (pc := 41) (tgt := 48) hC dX4_request_41 (by decide) (fun c41 => ?_) (fun c41 => ?_)
    · -- taken
      refine r_iload (pc := 48) hC dX4_request_48 rfl ?_
      refine r_iret (pc := 50) hC hR dX4_request_50 ?_ (by decide) (by decide)
      exact ⟨hc0, hc1, rfl, by unfold rqS; rw [if_neg c24, if_pos c41]; exact CO.wy hZ hW⟩
    · -- not
      first | refine r_aload_n (pc := 44) hC dX4_request_44 rfl ?_ | refine r_aload_nN (pc := 44) hC dX4_request_44 rfl ?_
      refine r_callV (pc := 45) hC (ct_refuse hC.fl hZ1 hV hBp) kv_X4_163 cls1 (hZ1.kb hBp) rfl rfl (Nat.le_of_ble_eq_true rfl) ⟨by decide, by decide, by decide, by decide⟩ dX4_request_45 (fun _ _ h => h.elim) (fun v45 S45 h45 => ?_)
      obtain ⟨rfl, hZ2, hF⟩ := h45
      refine r_iload (pc := 48) hC dX4_request_48 rfl ?_
      refine r_iret (pc := 50) hC hR dX4_request_50 ?_ (by decide) (by decide)
      exact ⟨hc0, hc1, rfl, by unfold rqS; rw [if_neg c24, if_neg c41]; exact ⟨FrC.trans hW.fr hF, Y, hZ2⟩⟩
  · -- not
    first | refine r_aload_n (pc := 27) hC dX4_request_27 rfl ?_ | refine r_aload_nN (pc := 27) hC dX4_request_27 rfl ?_
    first | refine r_aload_n (pc := 28) hC dX4_request_28 rfl ?_ | refine r_aload_nN (pc := 28) hC dX4_request_28 rfl ?_
    first | refine r_aload (pc := 29) hC dX4_request_29 rfl ?_ | refine r_aloadN (pc := 29) hC dX4_request_29 rfl ?_
    refine r_callV (pc := 31) hC (ct_pass hC.fl hZ1 hV hBp hDq (ans_0 c24) hS hn5) kv_X4_159 cls5 hZ1.kx rfl rfl (Nat.le_of_ble_eq_true rfl) ⟨by decide, by decide, by decide, by decide⟩ dX4_request_31 (fun _ _ h => h.elim) (fun v31 S31 h31 => ?_)
    obtain ⟨rfl, hF, Y2, hZ2⟩ := h31
    refine r_goto (pc := 34) (tgt := 48) hC dX4_request_34 (by decide) ?_
    refine r_iload (pc := 48) hC dX4_request_48 rfl ?_
    refine r_iret (pc := 50) hC hR dX4_request_50 ?_ (by decide) (by decide)
    exact ⟨hc0, hc1, rfl, by unfold rqS; rw [if_pos c24]; exact ⟨FrC.trans hW.fr hF, Y2, hZ2.lg⟩⟩
abbrev rm_X4_presence : Room := { frames := 5, cells := 0, slots := 0, locals := 108 }
abbrev rm_X4_alone : Room := { frames := 3, cells := 0, slots := 0, locals := 64 }
abbrev rm_X4_canCome : Room := { frames := 7, cells := 1, slots := 6, locals := 111 }