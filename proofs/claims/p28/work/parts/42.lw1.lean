/-! THE LAW'S SMALL METHODS: below, cell. -/
theorem and31b (p : Int32) : ∃ r, r < 2 ^ 31 ∧ p &&& (2147483647) = nI r := ⟨p.toBitVec.toNat % 2 ^ 31, Nat.mod_lt _ (by decide), pk_and p 31 (by decide)⟩
abbrev rm_L_below : Room := { frames := 0, cells := 0, slots := 0, locals := 0 }
abbrev rm_L_cell : Room := { frames := 0, cells := 0, slots := 0, locals := 0 }
set_option maxHeartbeats 4000000 in
set_option maxRecDepth 100000 in
theorem ct_below {l : Launch} {G : Ids} {S : Ps} {p : Int32} {m : Nat} (hfl : l.stackTraces = false) (h0 : 0 < m) (hm : m < 2 ^ 31) : Ct l (Cond.code yL_below cL_below 2 (some .int)) yL_below rm_L_below G [.int p, .int (nI m)] S (fun v S9 => (∃ r, r < m ∧ v = some (.int (nI r))) ∧ S = S9) (fun _ _ => False) := by
  refine Ct.of hfl (by decide) (Nat.le_of_ble_eq_true rfl) (fun Γ V hC hR hT hI => ?_)
  refine r_iload_n (pc := 0) hC dL_below_0 rfl ?_
  refine r_ldc (pc := 1) hC dL_below_1 kk_L_7 ?_
  refine r_iand (pc := 3) hC dL_below_3 ?_
  obtain ⟨r, hr, er⟩ := and31b p
  rw [er]
  refine r_iload_n (pc := 4) hC dL_below_4 rfl ?_
  refine rn_irem (pc := 5) hC dL_below_5 (by omega) (by omega) (by omega) ?_
  refine r_iret (pc := 6) hC hR dL_below_6 ?_ (by decide) (by decide)
  exact ⟨⟨r % m, Nat.mod_lt _ h0, rfl⟩, rfl⟩
set_option maxHeartbeats 4000000 in
set_option maxRecDepth 100000 in
theorem ct_cell {l : Launch} {G : Ids} {b L j : Nat} {xs : Nat → Int32} {S : Ps} (hfl : l.stackTraces = false) (hL : L ≤ 260) (hj : j < 1000) : CtX l (Cond.code yL_cell cL_cell 2 (some .int)) yL_cell rm_L_cell G b L xs [.ref b, .int (nI j)] S (fun v S9 => (∃ w, v = some (.int w)) ∧ S = S9) (fun _ _ => False) := by
  refine CtX.of hfl (by decide) (Nat.le_of_ble_eq_true rfl) (fun Γ V hC hR hX => ?_)
  refine r_iload_n (pc := 0) hC dL_cell_0 rfl ?_
  first | refine r_aload_n (pc := 1) hC dL_cell_1 rfl ?_ | refine r_aload_nN (pc := 1) hC dL_cell_1 rfl ?_
  refine r_slen (pc := 2) hC hX dL_cell_2 ?_
  first | refine rn_icmp_ge (pc := 3) (tgt := 12) hC dL_cell_3 (by decide) (by omega) (by omega) (fun c3 => ?_) (fun c3 => ?_) | refine ri_icmp_ge (pc := 3) (tgt := 12) hC dL_cell_3 (by decide) (fun c3 => ?_) (fun c3 => ?_)
  · -- taken
    refine r_ldc (pc := 12) hC dL_cell_12 kk_L_8 ?_
    refine r_iload_n (pc := 14) hC dL_cell_14 rfl ?_
    refine r_iconst (pc := 15) (nI 3) hC dL_cell_15 (by decide) ?_
    first | refine rn_iadd (pc := 16) hC dL_cell_16 ?_ | refine r_iadd (pc := 16) hC dL_cell_16 ?_
    first | refine rn_imul (pc := 17) hC dL_cell_17 ?_ | refine r_imul (pc := 17) hC dL_cell_17 ?_
    refine r_iret (pc := 18) hC hR dL_cell_18 ?_ (by decide) (by decide)
    exact ⟨⟨_, rfl⟩, rfl⟩
  · -- not
    first | refine r_aload_n (pc := 6) hC dL_cell_6 rfl ?_ | refine r_aload_nN (pc := 6) hC dL_cell_6 rfl ?_
    refine r_iload_n (pc := 7) hC dL_cell_7 rfl ?_
    refine r_sld (pc := 8) hC hX hL (by omega) dL_cell_8 ?_
    refine r_goto (pc := 9) (tgt := 18) hC dL_cell_9 (by decide) ?_
    refine r_iret (pc := 18) hC hR dL_cell_18 ?_ (by decide) (by decide)
    exact ⟨⟨_, rfl⟩, rfl⟩
