theorem exF_s {p : Nat → Bool} {i : Nat} {v : Bool} (h : exF p i = false) (h2 : p i = v) : exF p (i + 1) = v := by show (exF p i || p i) = v; rw [h, h2]; rfl
theorem exF_k {p : Nat → Bool} {i : Nat} (h : exF p i = true) : exF p (i + 1) = true := by show (exF p i || p i) = true; rw [h]; rfl
/-- a bit of a set -/
theorem bs_bit {p : Nat → Bool} {n i : Nat} (h : i < n) : decide (bset p n / 2 ^ i % 2 = 1) = p i := by
  cases hp : p i
  · exact decide_eq_false (fun q => by have := ((bset_bit p n i).mp q).2; rw [hp] at this; exact absurd this (by decide))
  · exact decide_eq_true ((bset_bit p n i).mpr ⟨h, hp⟩)
theorem bs_tb (p : Nat → Bool) (n i : Nat) : (bset p n).testBit i = (decide (i < n) && p i) := by
  rw [Nat.testBit_eq_decide_div_mod_eq]
  by_cases h : i < n
  · rw [bs_bit h]; simp [h]
  · simp only [h, decide_false, Bool.false_and]
    exact decide_eq_false (fun q => h ((bset_bit p n i).mp q).1)
theorem sh1 {i : Nat} (h : i < 31) : nI 1 <<< (nI i &&& 31) = nI (2 ^ i) := by
  have k := pk_shlN (n := 1) (nI i &&& 31) i ?_ ?_
  · rw [Nat.one_mul] at k; exact k
  · exact s_l i (by omega)
  · rw [Nat.one_mul]; exact Nat.pow_lt_pow_right (by decide) (by omega)
/-- a member more, or again -/
theorem bset_or {p : Nat → Bool} {n i : Nat} (hi : i < n) (hn : n ≤ 31) : nI (bset p n) ||| (nI 1 <<< (nI i &&& 31)) = nI (bset (fun z => p z || decide (z = i)) n) := by
  rw [sh1 (by omega), fa_or]
  congr 1
  apply Nat.eq_of_testBit_eq
  intro j
  rw [Nat.testBit_or, bs_tb, bs_tb, Nat.testBit_two_pow]
  by_cases h : j < n
  · simp [h, eq_comm]
  · have : ¬ i = j := by omega
    simp [h, this]
def rchP (σ : Sg) (ok : Nat → Bool) (F : Nat → Bool) (n : Nat) (v : Nat) : Bool := F v || exF (fun d => (F (sda σ d) && (ok (sdb σ d) && decide (sdb σ d = v))) || (F (sdb σ d) && (ok (sda σ d) && decide (sda σ d = v)))) n
theorem rP_s {σ : Sg} {ok F : Nat → Bool} {n z : Nat} {x y : Bool} (h1 : (F (sda σ n) && ok (sdb σ n)) = x) (h2 : (F (sdb σ n) && ok (sda σ n)) = y) : rchP σ ok F (n + 1) z = (rchP σ ok F n z || (x && decide (z = sdb σ n)) || (y && decide (z = sda σ n))) := by
  subst h1 h2
  unfold rchP
  show (F z || (exF _ n || ((F (sda σ n) && (ok (sdb σ n) && decide (sdb σ n = z))) || (F (sdb σ n) && (ok (sda σ n) && decide (sda σ n = z)))))) = _
  rw [show decide (sdb σ n = z) = decide (z = sdb σ n) from decide_eq_decide.mpr eq_comm, show decide (sda σ n = z) = decide (z = sda σ n) from decide_eq_decide.mpr eq_comm]
  simp only [Bool.or_assoc, Bool.and_assoc]
theorem rP_00 {σ : Sg} {ok F : Nat → Bool} {n : Nat} (h1 : (F (sda σ n) && ok (sdb σ n)) = false) (h2 : (F (sdb σ n) && ok (sda σ n)) = false) : bset (rchP σ ok F (n + 1)) 8 = bset (rchP σ ok F n) 8 := bset_congr (fun z _ => by rw [rP_s h1 h2]; simp)
theorem rP_10 {σ : Sg} {ok F : Nat → Bool} {n : Nat} (h1 : (F (sda σ n) && ok (sdb σ n)) = true) (h2 : (F (sdb σ n) && ok (sda σ n)) = false) : bset (rchP σ ok F (n + 1)) 8 = bset (fun z => rchP σ ok F n z || decide (z = sdb σ n)) 8 := bset_congr (fun z _ => by rw [rP_s h1 h2]; simp)
theorem rP_01 {σ : Sg} {ok F : Nat → Bool} {n : Nat} (h1 : (F (sda σ n) && ok (sdb σ n)) = false) (h2 : (F (sdb σ n) && ok (sda σ n)) = true) : bset (rchP σ ok F (n + 1)) 8 = bset (fun z => rchP σ ok F n z || decide (z = sda σ n)) 8 := bset_congr (fun z _ => by rw [rP_s h1 h2]; simp)
theorem rP_11 {σ : Sg} {ok F : Nat → Bool} {n : Nat} (h1 : (F (sda σ n) && ok (sdb σ n)) = true) (h2 : (F (sdb σ n) && ok (sda σ n)) = true) : bset (rchP σ ok F (n + 1)) 8 = bset (fun z => (rchP σ ok F n z || decide (z = sdb σ n)) || decide (z = sda σ n)) 8 := bset_congr (fun z _ => by rw [rP_s h1 h2]; simp)
theorem bs_u : ∀ u, u < 8 → bset (fun v => decide (u = v)) 8 = 2 ^ u := by decide
theorem a255 : ∀ z, z < 8 → decide (255 / 2 ^ z % 2 = 1) = true := by decide
theorem bset1 {p : Nat → Bool} (h : p 0 = true) : bset p 1 = 1 := by show 0 + (if p 0 then 2 ^ 0 else 0) = 1; rw [h]; rfl
abbrev rm_X5_isExcluded : Room := { frames := 2, cells := 0, slots := 0, locals := 42 }
set_option maxHeartbeats 4000000 in
set_option maxRecDepth 100000 in
theorem cm_excl {l : Launch} {G : Ids} {S : Ps} {M : Nat → Nat} {σ : Sg} {m t : Nat} {d : Nat} (hfl : l.stackTraces = false) (hM : RM S M σ m t) (hV : InvC σ) (hd : d < nd σ) : Ct l (Cond.code yX5_isExcluded cX5_isExcluded 4 (some .boolean)) yX5_isExcluded rm_X5_isExcluded G [.ref m, .int (nI d)] S (fun v S9 => v = some (.int (b2i (excl σ d))) ∧ S = S9) (fun _ _ => False) := by
  refine Ct.of hfl (by decide) (Nat.le_of_ble_eq_true rfl) (fun Γ V hC hR hT hI => ?_)
  have hn := hV.n
  have hlp : ∀ n9 i, i + n9 = nd σ → At Γ G V 0 0 S [(0, .ref m), (1, .int (nI d)), (2, .int (b2i (exF (fun e => decide (e ≠ d) && (decide (lock σ e ≠ 0) && (decide (lock σ e = lock σ d) && decide (0 < lft σ e)))) (i)))), (3, .int (nI (i)))] 4 [] := by
    intro n9
    induction n9 with
    | zero =>
      intro i hi
      refine r_iload_n (pc := 4) hC dX5_isExcluded_4 rfl ?_
      first | refine r_aload_n (pc := 5) hC dX5_isExcluded_5 rfl ?_ | refine r_aload_nN (pc := 5) hC dX5_isExcluded_5 rfl ?_
      refine r_gf (pc := 6) (κ := 6) (j := 7) hC cls6 (by decide) kf_X5_57 hM.k6 hM.s7 dX5_isExcluded_6 ?_
      first | refine rn_icmp_ge (pc := 9) (tgt := 65) hC dX5_isExcluded_9 (by decide) (by omega) (by omega) (fun c9 => ?_) (fun c9 => ?_) | refine ri_icmp_ge (pc := 9) (tgt := 65) hC dX5_isExcluded_9 (by decide) (fun c9 => ?_) (fun c9 => ?_)
      · -- taken
        refine r_iload_n (pc := 65) hC dX5_isExcluded_65 rfl ?_
        refine r_zret (pc := 66) hC hR dX5_isExcluded_66 (by first | rfl | exact b2i_z _ | decide) ?_ (by decide) (by decide)
        have e : i = nd σ := by omega
        subst e
        exact ⟨rfl, rfl⟩
      · -- not
        exfalso; omega
    | succ n9 ih =>
      intro i hi
      have hi2 : i < nd σ := by omega
      refine r_iload_n (pc := 4) hC dX5_isExcluded_4 rfl ?_
      first | refine r_aload_n (pc := 5) hC dX5_isExcluded_5 rfl ?_ | refine r_aload_nN (pc := 5) hC dX5_isExcluded_5 rfl ?_
      refine r_gf (pc := 6) (κ := 6) (j := 7) hC cls6 (by decide) kf_X5_57 hM.k6 hM.s7 dX5_isExcluded_6 ?_
      first | refine rn_icmp_ge (pc := 9) (tgt := 65) hC dX5_isExcluded_9 (by decide) (by omega) (by omega) (fun c9 => ?_) (fun c9 => ?_) | refine ri_icmp_ge (pc := 9) (tgt := 65) hC dX5_isExcluded_9 (by decide) (fun c9 => ?_) (fun c9 => ?_)
      · -- taken
        exfalso; omega
      · -- not
        have hvi := hV.vd hi2
        have hvd := hV.vd hd
        have hlf : lft σ i < 2 ^ 31 := by show shut σ i - mi σ < _; omega
        refine r_iload_n (pc := 12) hC dX5_isExcluded_12 rfl ?_
        first | refine rb_if_ne (pc := 13) (tgt := 53) hC dX5_isExcluded_13 (by decide) (fun c13 => ?_) (fun c13 => ?_) | refine rn_if_ne (pc := 13) (tgt := 53) hC dX5_isExcluded_13 (by decide) (by omega) (fun c13 => ?_) (fun c13 => ?_) | refine ri_if_ne (pc := 13) (tgt := 53) hC dX5_isExcluded_13 (by decide) (fun c13 => ?_) (fun c13 => ?_)
        · -- taken
          refine r_iconst (pc := 53) (nI 1) hC dX5_isExcluded_53 (by decide) ?_
          refine r_goto (pc := 54) (tgt := 58) hC dX5_isExcluded_54 (by decide) ?_
          refine r_istore_n (pc := 58) hC dX5_isExcluded_58 (by decide) ?_
          first | refine rn_iinc (pc := 59) (q := 1) hC dX5_isExcluded_59 rfl (by decide) ?_ | refine r_iinc (pc := 59) _ hC dX5_isExcluded_59 rfl rfl (by decide) ?_
          refine r_goto (pc := 62) (tgt := 4) hC dX5_isExcluded_62 (by decide) ?_
          refine at_lv (lv' := [(0, .ref m), (1, .int (nI d)), (2, .int (b2i (exF (fun e => decide (e ≠ d) && (decide (lock σ e ≠ 0) && (decide (lock σ e = lock σ d) && decide (0 < lft σ e)))) (i + 1)))), (3, .int (nI (i + 1)))]) ⟨rfl, rfl, by rw [exF_k c13]; rfl, rfl, trivial⟩ ?_
          exact ih (i + 1) (by omega)
        · -- not
          refine r_iload_n (pc := 16) hC dX5_isExcluded_16 rfl ?_
          refine r_iload_n (pc := 17) hC dX5_isExcluded_17 rfl ?_
          first | refine rn_icmp_eq (pc := 18) (tgt := 57) hC dX5_isExcluded_18 (by decide) (by omega) (by omega) (fun c18 => ?_) (fun c18 => ?_) | refine ri_icmp_eq (pc := 18) (tgt := 57) hC dX5_isExcluded_18 (by decide) (fun c18 => ?_) (fun c18 => ?_)
          · -- taken
            refine r_iconst (pc := 57) (nI 0) hC dX5_isExcluded_57 (by decide) ?_
            refine r_istore_n (pc := 58) hC dX5_isExcluded_58 (by decide) ?_
            first | refine rn_iinc (pc := 59) (q := 1) hC dX5_isExcluded_59 rfl (by decide) ?_ | refine r_iinc (pc := 59) _ hC dX5_isExcluded_59 rfl rfl (by decide) ?_
            refine r_goto (pc := 62) (tgt := 4) hC dX5_isExcluded_62 (by decide) ?_
            have e9 : exF (fun e => decide (e ≠ d) && (decide (lock σ e ≠ 0) && (decide (lock σ e = lock σ d) && decide (0 < lft σ e)))) (i + 1) = false := exF_s c13 (by show (fun e => decide (e ≠ d) && (decide (lock σ e ≠ 0) && (decide (lock σ e = lock σ d) && decide (0 < lft σ e)))) i = false; simp [c18])
            refine at_lv (lv' := [(0, .ref m), (1, .int (nI d)), (2, .int (b2i (exF (fun e => decide (e ≠ d) && (decide (lock σ e ≠ 0) && (decide (lock σ e = lock σ d) && decide (0 < lft σ e)))) (i + 1)))), (3, .int (nI (i + 1)))]) ⟨rfl, rfl, by rw [e9]; rfl, rfl, trivial⟩ ?_
            exact ih (i + 1) (by omega)
          · -- not
            first | refine r_aload_n (pc := 21) hC dX5_isExcluded_21 rfl ?_ | refine r_aload_nN (pc := 21) hC dX5_isExcluded_21 rfl ?_
            refine r_gf (pc := 22) (κ := 6) (j := 10) hC cls6 (by decide) kf_X5_29 hM.k6 (hM.a (j := 10) (by decide)) dX5_isExcluded_22 ?_
            refine r_iload_n (pc := 25) hC dX5_isExcluded_25 rfl ?_
            refine r_iald (pc := 26) hC dX5_isExcluded_26 (hM.kd (j := 10) (by decide)) (hM.r10 hi2).1 (hM.r10 hi2).2.1 (hM.r10 hi2).2.2 ?_
            first | refine rb_if_eq (pc := 27) (tgt := 57) hC dX5_isExcluded_27 (by decide) (fun c27 => ?_) (fun c27 => ?_) | refine rn_if_eq (pc := 27) (tgt := 57) hC dX5_isExcluded_27 (by decide) (by omega) (fun c27 => ?_) (fun c27 => ?_) | refine ri_if_eq (pc := 27) (tgt := 57) hC dX5_isExcluded_27 (by decide) (fun c27 => ?_) (fun c27 => ?_)
            · -- taken
              refine r_iconst (pc := 57) (nI 0) hC dX5_isExcluded_57 (by decide) ?_
              refine r_istore_n (pc := 58) hC dX5_isExcluded_58 (by decide) ?_
              first | refine rn_iinc (pc := 59) (q := 1) hC dX5_isExcluded_59 rfl (by decide) ?_ | refine r_iinc (pc := 59) _ hC dX5_isExcluded_59 rfl rfl (by decide) ?_
              refine r_goto (pc := 62) (tgt := 4) hC dX5_isExcluded_62 (by decide) ?_
              have e9 : exF (fun e => decide (e ≠ d) && (decide (lock σ e ≠ 0) && (decide (lock σ e = lock σ d) && decide (0 < lft σ e)))) (i + 1) = false := exF_s c13 (by show (fun e => decide (e ≠ d) && (decide (lock σ e ≠ 0) && (decide (lock σ e = lock σ d) && decide (0 < lft σ e)))) i = false; simp [c27])
              refine at_lv (lv' := [(0, .ref m), (1, .int (nI d)), (2, .int (b2i (exF (fun e => decide (e ≠ d) && (decide (lock σ e ≠ 0) && (decide (lock σ e = lock σ d) && decide (0 < lft σ e)))) (i + 1)))), (3, .int (nI (i + 1)))]) ⟨rfl, rfl, by rw [e9]; rfl, rfl, trivial⟩ ?_
              exact ih (i + 1) (by omega)
            · -- not
              first | refine r_aload_n (pc := 30) hC dX5_isExcluded_30 rfl ?_ | refine r_aload_nN (pc := 30) hC dX5_isExcluded_30 rfl ?_
              refine r_gf (pc := 31) (κ := 6) (j := 10) hC cls6 (by decide) kf_X5_29 hM.k6 (hM.a (j := 10) (by decide)) dX5_isExcluded_31 ?_
              refine r_iload_n (pc := 34) hC dX5_isExcluded_34 rfl ?_
              refine r_iald (pc := 35) hC dX5_isExcluded_35 (hM.kd (j := 10) (by decide)) (hM.r10 hi2).1 (hM.r10 hi2).2.1 (hM.r10 hi2).2.2 ?_
              first | refine r_aload_n (pc := 36) hC dX5_isExcluded_36 rfl ?_ | refine r_aload_nN (pc := 36) hC dX5_isExcluded_36 rfl ?_
              refine r_gf (pc := 37) (κ := 6) (j := 10) hC cls6 (by decide) kf_X5_29 hM.k6 (hM.a (j := 10) (by decide)) dX5_isExcluded_37 ?_
              refine r_iload_n (pc := 40) hC dX5_isExcluded_40 rfl ?_
              refine r_iald (pc := 41) hC dX5_isExcluded_41 (hM.kd (j := 10) (by decide)) (hM.r10 hd).1 (hM.r10 hd).2.1 (hM.r10 hd).2.2 ?_
              first | refine rn_icmp_ne (pc := 42) (tgt := 57) hC dX5_isExcluded_42 (by decide) (by omega) (by omega) (fun c42 => ?_) (fun c42 => ?_) | refine ri_icmp_ne (pc := 42) (tgt := 57) hC dX5_isExcluded_42 (by decide) (fun c42 => ?_) (fun c42 => ?_)
              · -- taken
                refine r_iconst (pc := 57) (nI 0) hC dX5_isExcluded_57 (by decide) ?_
                refine r_istore_n (pc := 58) hC dX5_isExcluded_58 (by decide) ?_
                first | refine rn_iinc (pc := 59) (q := 1) hC dX5_isExcluded_59 rfl (by decide) ?_ | refine r_iinc (pc := 59) _ hC dX5_isExcluded_59 rfl rfl (by decide) ?_
                refine r_goto (pc := 62) (tgt := 4) hC dX5_isExcluded_62 (by decide) ?_
                have e9 : exF (fun e => decide (e ≠ d) && (decide (lock σ e ≠ 0) && (decide (lock σ e = lock σ d) && decide (0 < lft σ e)))) (i + 1) = false := exF_s c13 (by show (fun e => decide (e ≠ d) && (decide (lock σ e ≠ 0) && (decide (lock σ e = lock σ d) && decide (0 < lft σ e)))) i = false; simp [c42])
                refine at_lv (lv' := [(0, .ref m), (1, .int (nI d)), (2, .int (b2i (exF (fun e => decide (e ≠ d) && (decide (lock σ e ≠ 0) && (decide (lock σ e = lock σ d) && decide (0 < lft σ e)))) (i + 1)))), (3, .int (nI (i + 1)))]) ⟨rfl, rfl, by rw [e9]; rfl, rfl, trivial⟩ ?_
                exact ih (i + 1) (by omega)
              · -- not
                first | refine r_aload_n (pc := 45) hC dX5_isExcluded_45 rfl ?_ | refine r_aload_nN (pc := 45) hC dX5_isExcluded_45 rfl ?_
                refine r_iload_n (pc := 46) hC dX5_isExcluded_46 rfl ?_
                refine r_callV (pc := 47) hC (cm_left hC.fl hM hV hi2) kv_X5_106 cls6 hM.k6 rfl rfl (Nat.le_of_ble_eq_true rfl) ⟨by decide, by decide, by decide, by decide⟩ dX5_isExcluded_47 (fun _ _ h => h.elim) (fun v47 S47 h47 => ?_)
                obtain ⟨rfl, rfl⟩ := h47
                first | refine rn_if_le (pc := 50) (tgt := 57) hC dX5_isExcluded_50 (by decide) (by omega) (fun c50 => ?_) (fun c50 => ?_) | refine ri_if_le (pc := 50) (tgt := 57) hC dX5_isExcluded_50 (by decide) (fun c50 => ?_) (fun c50 => ?_)
                · -- taken
                  refine r_iconst (pc := 57) (nI 0) hC dX5_isExcluded_57 (by decide) ?_
                  refine r_istore_n (pc := 58) hC dX5_isExcluded_58 (by decide) ?_
                  first | refine rn_iinc (pc := 59) (q := 1) hC dX5_isExcluded_59 rfl (by decide) ?_ | refine r_iinc (pc := 59) _ hC dX5_isExcluded_59 rfl rfl (by decide) ?_
                  refine r_goto (pc := 62) (tgt := 4) hC dX5_isExcluded_62 (by decide) ?_
                  have e9 : exF (fun e => decide (e ≠ d) && (decide (lock σ e ≠ 0) && (decide (lock σ e = lock σ d) && decide (0 < lft σ e)))) (i + 1) = false := exF_s c13 (by show (fun e => decide (e ≠ d) && (decide (lock σ e ≠ 0) && (decide (lock σ e = lock σ d) && decide (0 < lft σ e)))) i = false; have e8 : decide (0 < lft σ i) = false := decide_eq_false (by omega); simp [e8])
                  refine at_lv (lv' := [(0, .ref m), (1, .int (nI d)), (2, .int (b2i (exF (fun e => decide (e ≠ d) && (decide (lock σ e ≠ 0) && (decide (lock σ e = lock σ d) && decide (0 < lft σ e)))) (i + 1)))), (3, .int (nI (i + 1)))]) ⟨rfl, rfl, by rw [e9]; rfl, rfl, trivial⟩ ?_
                  exact ih (i + 1) (by omega)
                · -- not
                  refine r_iconst (pc := 53) (nI 1) hC dX5_isExcluded_53 (by decide) ?_
                  refine r_goto (pc := 54) (tgt := 58) hC dX5_isExcluded_54 (by decide) ?_
                  refine r_istore_n (pc := 58) hC dX5_isExcluded_58 (by decide) ?_
                  first | refine rn_iinc (pc := 59) (q := 1) hC dX5_isExcluded_59 rfl (by decide) ?_ | refine r_iinc (pc := 59) _ hC dX5_isExcluded_59 rfl rfl (by decide) ?_
                  refine r_goto (pc := 62) (tgt := 4) hC dX5_isExcluded_62 (by decide) ?_
                  have e9 : exF (fun e => decide (e ≠ d) && (decide (lock σ e ≠ 0) && (decide (lock σ e = lock σ d) && decide (0 < lft σ e)))) (i + 1) = true := exF_s c13 (by show (fun e => decide (e ≠ d) && (decide (lock σ e ≠ 0) && (decide (lock σ e = lock σ d) && decide (0 < lft σ e)))) i = true; have e8 : decide (0 < lft σ i) = true := decide_eq_true (by omega); simp only [e8, Bool.and_eq_true, decide_eq_true_eq]; exact ⟨c18, c27, c42, trivial⟩)
                  refine at_lv (lv' := [(0, .ref m), (1, .int (nI d)), (2, .int (b2i (exF (fun e => decide (e ≠ d) && (decide (lock σ e ≠ 0) && (decide (lock σ e = lock σ d) && decide (0 < lft σ e)))) (i + 1)))), (3, .int (nI (i + 1)))]) ⟨rfl, rfl, by rw [e9]; rfl, rfl, trivial⟩ ?_
                  exact ih (i + 1) (by omega)
  refine r_iconst (pc := 0) (nI 0) hC dX5_isExcluded_0 (by decide) ?_
  refine r_istore_n (pc := 1) hC dX5_isExcluded_1 (by decide) ?_
  refine r_iconst (pc := 2) (nI 0) hC dX5_isExcluded_2 (by decide) ?_
  refine r_istore_n (pc := 3) hC dX5_isExcluded_3 (by decide) ?_
  refine at_lv (lv' := [(0, .ref m), (1, .int (nI d)), (2, .int (b2i (exF (fun e => decide (e ≠ d) && (decide (lock σ e ≠ 0) && (decide (lock σ e = lock σ d) && decide (0 < lft σ e)))) (0)))), (3, .int (nI (0)))]) ⟨rfl, rfl, rfl, rfl, trivial⟩ ?_
  exact hlp (nd σ) 0 (by omega)
abbrev rm_X5_leavesGuests : Room := { frames := 0, cells := 0, slots := 0, locals := 0 }
set_option maxHeartbeats 4000000 in
set_option maxRecDepth 100000 in
theorem cm_leaves {l : Launch} {G : Ids} {S : Ps} {M : Nat → Nat} {σ : Sg} {m t : Nat} {b : Nat} (hfl : l.stackTraces = false) (hM : RM S M σ m t) (hV : InvC σ) (hb : b < nb σ) : Ct l (Cond.code yX5_leavesGuests cX5_leavesGuests 4 (some .boolean)) yX5_leavesGuests rm_X5_leavesGuests G [.ref m, .int (nI b)] S (fun v S9 => v = some (.int (b2i (leav σ b))) ∧ S = S9) (fun _ _ => False) := by
  refine Ct.of hfl (by decide) (Nat.le_of_ble_eq_true rfl) (fun Γ V hC hR hT hI => ?_)
  have hn := hV.n
  have hlp : ∀ n9 i, i + n9 = nb σ → At Γ G V 0 0 S [(0, .ref m), (1, .int (nI b)), (2, .int (b2i (exF (fun v => decide (hst σ v = b + 1) && (decide (plc σ v = plc σ b) && decide (plc σ b ≠ 0))) (i)))), (3, .int (nI (i)))] 4 [] := by
    intro n9
    induction n9 with
    | zero =>
      intro i hi
      refine r_iload_n (pc := 4) hC dX5_leavesGuests_4 rfl ?_
      first | refine r_aload_n (pc := 5) hC dX5_leavesGuests_5 rfl ?_ | refine r_aload_nN (pc := 5) hC dX5_leavesGuests_5 rfl ?_
      refine r_gf (pc := 6) (κ := 6) (j := 12) hC cls6 (by decide) kf_X5_60 hM.k6 hM.s12 dX5_leavesGuests_6 ?_
      first | refine rn_icmp_ge (pc := 9) (tgt := 62) hC dX5_leavesGuests_9 (by decide) (by omega) (by omega) (fun c9 => ?_) (fun c9 => ?_) | refine ri_icmp_ge (pc := 9) (tgt := 62) hC dX5_leavesGuests_9 (by decide) (fun c9 => ?_) (fun c9 => ?_)
      · -- taken
        refine r_iload_n (pc := 62) hC dX5_leavesGuests_62 rfl ?_
        refine r_zret (pc := 63) hC hR dX5_leavesGuests_63 (by first | rfl | exact b2i_z _ | decide) ?_ (by decide) (by decide)
        have e : i = nb σ := by omega
        subst e
        exact ⟨rfl, rfl⟩
      · -- not
        exfalso; omega
    | succ n9 ih =>
      intro i hi
      have hi2 : i < nb σ := by omega
      refine r_iload_n (pc := 4) hC dX5_leavesGuests_4 rfl ?_
      first | refine r_aload_n (pc := 5) hC dX5_leavesGuests_5 rfl ?_ | refine r_aload_nN (pc := 5) hC dX5_leavesGuests_5 rfl ?_
      refine r_gf (pc := 6) (κ := 6) (j := 12) hC cls6 (by decide) kf_X5_60 hM.k6 hM.s12 dX5_leavesGuests_6 ?_
      first | refine rn_icmp_ge (pc := 9) (tgt := 62) hC dX5_leavesGuests_9 (by decide) (by omega) (by omega) (fun c9 => ?_) (fun c9 => ?_) | refine ri_icmp_ge (pc := 9) (tgt := 62) hC dX5_leavesGuests_9 (by decide) (fun c9 => ?_) (fun c9 => ?_)
      · -- taken
        exfalso; omega
      · -- not
        have hvi := hV.vb hi2
        have hvb := hV.vb hb
        have hhe := hI_eq (k := hst σ i) (a := b) (by omega) (by omega)
        refine r_iload_n (pc := 12) hC dX5_leavesGuests_12 rfl ?_
        first | refine rb_if_ne (pc := 13) (tgt := 50) hC dX5_leavesGuests_13 (by decide) (fun c13 => ?_) (fun c13 => ?_) | refine rn_if_ne (pc := 13) (tgt := 50) hC dX5_leavesGuests_13 (by decide) (by omega) (fun c13 => ?_) (fun c13 => ?_) | refine ri_if_ne (pc := 13) (tgt := 50) hC dX5_leavesGuests_13 (by decide) (fun c13 => ?_) (fun c13 => ?_)
        · -- taken
          refine r_iconst (pc := 50) (nI 1) hC dX5_leavesGuests_50 (by decide) ?_
          refine r_goto (pc := 51) (tgt := 55) hC dX5_leavesGuests_51 (by decide) ?_
          refine r_istore_n (pc := 55) hC dX5_leavesGuests_55 (by decide) ?_
          first | refine rn_iinc (pc := 56) (q := 1) hC dX5_leavesGuests_56 rfl (by decide) ?_ | refine r_iinc (pc := 56) _ hC dX5_leavesGuests_56 rfl rfl (by decide) ?_
          refine r_goto (pc := 59) (tgt := 4) hC dX5_leavesGuests_59 (by decide) ?_
          refine at_lv (lv' := [(0, .ref m), (1, .int (nI b)), (2, .int (b2i (exF (fun v => decide (hst σ v = b + 1) && (decide (plc σ v = plc σ b) && decide (plc σ b ≠ 0))) (i + 1)))), (3, .int (nI (i + 1)))]) ⟨rfl, rfl, by rw [exF_k c13]; rfl, rfl, trivial⟩ ?_
          exact ih (i + 1) (by omega)
        · -- not
          first | refine r_aload_n (pc := 16) hC dX5_leavesGuests_16 rfl ?_ | refine r_aload_nN (pc := 16) hC dX5_leavesGuests_16 rfl ?_
          refine r_gf (pc := 17) (κ := 6) (j := 15) hC cls6 (by decide) kf_X5_41 hM.k6 (hM.a (j := 15) (by decide)) dX5_leavesGuests_17 ?_
          refine r_iload_n (pc := 20) hC dX5_leavesGuests_20 rfl ?_
          refine r_iald (pc := 21) hC dX5_leavesGuests_21 (hM.kd (j := 15) (by decide)) (hM.r15 hi2).1 (hM.r15 hi2).2.1 (hM.r15 hi2).2.2 ?_
          refine r_iload_n (pc := 22) hC dX5_leavesGuests_22 rfl ?_
          refine r_icmp_ne (pc := 23) (tgt := 54) hC dX5_leavesGuests_23 (by decide) (fun c23 => ?_) (fun c23 => ?_)
          · -- taken
            refine r_iconst (pc := 54) (nI 0) hC dX5_leavesGuests_54 (by decide) ?_
            refine r_istore_n (pc := 55) hC dX5_leavesGuests_55 (by decide) ?_
            first | refine rn_iinc (pc := 56) (q := 1) hC dX5_leavesGuests_56 rfl (by decide) ?_ | refine r_iinc (pc := 56) _ hC dX5_leavesGuests_56 rfl rfl (by decide) ?_
            refine r_goto (pc := 59) (tgt := 4) hC dX5_leavesGuests_59 (by decide) ?_
            have e9 : exF (fun v => decide (hst σ v = b + 1) && (decide (plc σ v = plc σ b) && decide (plc σ b ≠ 0))) (i + 1) = false := exF_s c13 (by show (fun v => decide (hst σ v = b + 1) && (decide (plc σ v = plc σ b) && decide (plc σ b ≠ 0))) i = false; have e8 : ¬ hst σ i = b + 1 := fun q => c23 (hhe.mpr q); simp [e8])
            refine at_lv (lv' := [(0, .ref m), (1, .int (nI b)), (2, .int (b2i (exF (fun v => decide (hst σ v = b + 1) && (decide (plc σ v = plc σ b) && decide (plc σ b ≠ 0))) (i + 1)))), (3, .int (nI (i + 1)))]) ⟨rfl, rfl, by rw [e9]; rfl, rfl, trivial⟩ ?_
            exact ih (i + 1) (by omega)
          · -- not
            first | refine r_aload_n (pc := 26) hC dX5_leavesGuests_26 rfl ?_ | refine r_aload_nN (pc := 26) hC dX5_leavesGuests_26 rfl ?_
            refine r_gf (pc := 27) (κ := 6) (j := 13) hC cls6 (by decide) kf_X5_35 hM.k6 (hM.a (j := 13) (by decide)) dX5_leavesGuests_27 ?_
            refine r_iload_n (pc := 30) hC dX5_leavesGuests_30 rfl ?_
            refine r_iald (pc := 31) hC dX5_leavesGuests_31 (hM.kd (j := 13) (by decide)) (hM.r13 hi2).1 (hM.r13 hi2).2.1 (hM.r13 hi2).2.2 ?_
            first | refine r_aload_n (pc := 32) hC dX5_leavesGuests_32 rfl ?_ | refine r_aload_nN (pc := 32) hC dX5_leavesGuests_32 rfl ?_
            refine r_gf (pc := 33) (κ := 6) (j := 13) hC cls6 (by decide) kf_X5_35 hM.k6 (hM.a (j := 13) (by decide)) dX5_leavesGuests_33 ?_
            refine r_iload_n (pc := 36) hC dX5_leavesGuests_36 rfl ?_
            refine r_iald (pc := 37) hC dX5_leavesGuests_37 (hM.kd (j := 13) (by decide)) (hM.r13 hb).1 (hM.r13 hb).2.1 (hM.r13 hb).2.2 ?_
            first | refine rn_icmp_ne (pc := 38) (tgt := 54) hC dX5_leavesGuests_38 (by decide) (by omega) (by omega) (fun c38 => ?_) (fun c38 => ?_) | refine ri_icmp_ne (pc := 38) (tgt := 54) hC dX5_leavesGuests_38 (by decide) (fun c38 => ?_) (fun c38 => ?_)
            · -- taken
              refine r_iconst (pc := 54) (nI 0) hC dX5_leavesGuests_54 (by decide) ?_
              refine r_istore_n (pc := 55) hC dX5_leavesGuests_55 (by decide) ?_
              first | refine rn_iinc (pc := 56) (q := 1) hC dX5_leavesGuests_56 rfl (by decide) ?_ | refine r_iinc (pc := 56) _ hC dX5_leavesGuests_56 rfl rfl (by decide) ?_
              refine r_goto (pc := 59) (tgt := 4) hC dX5_leavesGuests_59 (by decide) ?_
              have e9 : exF (fun v => decide (hst σ v = b + 1) && (decide (plc σ v = plc σ b) && decide (plc σ b ≠ 0))) (i + 1) = false := exF_s c13 (by show (fun v => decide (hst σ v = b + 1) && (decide (plc σ v = plc σ b) && decide (plc σ b ≠ 0))) i = false; simp [c38])
              refine at_lv (lv' := [(0, .ref m), (1, .int (nI b)), (2, .int (b2i (exF (fun v => decide (hst σ v = b + 1) && (decide (plc σ v = plc σ b) && decide (plc σ b ≠ 0))) (i + 1)))), (3, .int (nI (i + 1)))]) ⟨rfl, rfl, by rw [e9]; rfl, rfl, trivial⟩ ?_
              exact ih (i + 1) (by omega)
            · -- not
              first | refine r_aload_n (pc := 41) hC dX5_leavesGuests_41 rfl ?_ | refine r_aload_nN (pc := 41) hC dX5_leavesGuests_41 rfl ?_
              refine r_gf (pc := 42) (κ := 6) (j := 13) hC cls6 (by decide) kf_X5_35 hM.k6 (hM.a (j := 13) (by decide)) dX5_leavesGuests_42 ?_
              refine r_iload_n (pc := 45) hC dX5_leavesGuests_45 rfl ?_
              refine r_iald (pc := 46) hC dX5_leavesGuests_46 (hM.kd (j := 13) (by decide)) (hM.r13 hb).1 (hM.r13 hb).2.1 (hM.r13 hb).2.2 ?_
              first | refine rb_if_eq (pc := 47) (tgt := 54) hC dX5_leavesGuests_47 (by decide) (fun c47 => ?_) (fun c47 => ?_) | refine rn_if_eq (pc := 47) (tgt := 54) hC dX5_leavesGuests_47 (by decide) (by omega) (fun c47 => ?_) (fun c47 => ?_) | refine ri_if_eq (pc := 47) (tgt := 54) hC dX5_leavesGuests_47 (by decide) (fun c47 => ?_) (fun c47 => ?_)
              · -- taken
                refine r_iconst (pc := 54) (nI 0) hC dX5_leavesGuests_54 (by decide) ?_
                refine r_istore_n (pc := 55) hC dX5_leavesGuests_55 (by decide) ?_
                first | refine rn_iinc (pc := 56) (q := 1) hC dX5_leavesGuests_56 rfl (by decide) ?_ | refine r_iinc (pc := 56) _ hC dX5_leavesGuests_56 rfl rfl (by decide) ?_
                refine r_goto (pc := 59) (tgt := 4) hC dX5_leavesGuests_59 (by decide) ?_
                have e9 : exF (fun v => decide (hst σ v = b + 1) && (decide (plc σ v = plc σ b) && decide (plc σ b ≠ 0))) (i + 1) = false := exF_s c13 (by show (fun v => decide (hst σ v = b + 1) && (decide (plc σ v = plc σ b) && decide (plc σ b ≠ 0))) i = false; simp [c47])
                refine at_lv (lv' := [(0, .ref m), (1, .int (nI b)), (2, .int (b2i (exF (fun v => decide (hst σ v = b + 1) && (decide (plc σ v = plc σ b) && decide (plc σ b ≠ 0))) (i + 1)))), (3, .int (nI (i + 1)))]) ⟨rfl, rfl, by rw [e9]; rfl, rfl, trivial⟩ ?_
                exact ih (i + 1) (by omega)
              · -- not
                refine r_iconst (pc := 50) (nI 1) hC dX5_leavesGuests_50 (by decide) ?_
                refine r_goto (pc := 51) (tgt := 55) hC dX5_leavesGuests_51 (by decide) ?_
                refine r_istore_n (pc := 55) hC dX5_leavesGuests_55 (by decide) ?_
                first | refine rn_iinc (pc := 56) (q := 1) hC dX5_leavesGuests_56 rfl (by decide) ?_ | refine r_iinc (pc := 56) _ hC dX5_leavesGuests_56 rfl rfl (by decide) ?_
                refine r_goto (pc := 59) (tgt := 4) hC dX5_leavesGuests_59 (by decide) ?_
                have e9 : exF (fun v => decide (hst σ v = b + 1) && (decide (plc σ v = plc σ b) && decide (plc σ b ≠ 0))) (i + 1) = true := exF_s c13 (by show (fun v => decide (hst σ v = b + 1) && (decide (plc σ v = plc σ b) && decide (plc σ b ≠ 0))) i = true; have e8 := hhe.mp c23; simp only [Bool.and_eq_true, decide_eq_true_eq]; exact ⟨e8, c38, c47⟩)
                refine at_lv (lv' := [(0, .ref m), (1, .int (nI b)), (2, .int (b2i (exF (fun v => decide (hst σ v = b + 1) && (decide (plc σ v = plc σ b) && decide (plc σ b ≠ 0))) (i + 1)))), (3, .int (nI (i + 1)))]) ⟨rfl, rfl, by rw [e9]; rfl, rfl, trivial⟩ ?_
                exact ih (i + 1) (by omega)
  refine r_iconst (pc := 0) (nI 0) hC dX5_leavesGuests_0 (by decide) ?_
  refine r_istore_n (pc := 1) hC dX5_leavesGuests_1 (by decide) ?_
  refine r_iconst (pc := 2) (nI 0) hC dX5_leavesGuests_2 (by decide) ?_
  refine r_istore_n (pc := 3) hC dX5_leavesGuests_3 (by decide) ?_
  refine at_lv (lv' := [(0, .ref m), (1, .int (nI b)), (2, .int (b2i (exF (fun v => decide (hst σ v = b + 1) && (decide (plc σ v = plc σ b) && decide (plc σ b ≠ 0))) (0)))), (3, .int (nI (0)))]) ⟨rfl, rfl, rfl, rfl, trivial⟩ ?_
  exact hlp (nb σ) 0 (by omega)
abbrev rm_X5_steps : Room := { frames := 1, cells := 0, slots := 0, locals := 21 }
set_option maxHeartbeats 4000000 in
set_option maxRecDepth 100000 in
theorem cm_steps {l : Launch} {G : Ids} {S : Ps} {M : Nat → Nat} {σ : Sg} {m t : Nat} {u t9 a : Nat} {ok : Nat → Bool} (hfl : l.stackTraces = false) (hM : RM S M σ m t) (hV : InvC σ) (hu : u < nz σ) (ht : t9 < nz σ) (ha31 : a < 2 ^ 31) (hA : ∀ z, z < nz σ → decide (a / 2 ^ z % 2 = 1) = ok z) : Ct l (Cond.code yX5_steps cX5_steps 10 (some .int)) yX5_steps rm_X5_steps G [.ref m, .int (nI u), .int (nI t9), .int (nI a)] S (fun v S9 => v = some (.int (dI (dst σ ok u t9))) ∧ S = S9) (fun _ _ => False) := by
  refine Ct.of hfl (by decide) (Nat.le_of_ble_eq_true rfl) (fun Γ V hC hR hT hI => ?_)
  have hn := hV.n
  have hnd := hn.2.2.1
  have hout : ∀ n9 k, k + n9 = 9 → (∀ i, i < k → rch σ ok u i t9 = false) → At Γ G V 0 0 S [(0, .ref m), (1, .int (nI u)), (2, .int (nI t9)), (3, .int (nI a)), (4, .int (nI (bset (rch σ ok u (k)) 8))), (5, .int (nI (k)))] 8 [] := by
    intro n9
    induction n9 with
    | zero =>
      intro k hk hno
      refine r_iload (pc := 8) hC dX5_steps_8 rfl ?_
      refine r_bipush (pc := 10) (nI 8) hC dX5_steps_10 (by decide) ?_
      first | refine rn_icmp_gt (pc := 12) (tgt := 139) hC dX5_steps_12 (by decide) (by omega) (by omega) (fun c12 => ?_) (fun c12 => ?_) | refine ri_icmp_gt (pc := 12) (tgt := 139) hC dX5_steps_12 (by decide) (fun c12 => ?_) (fun c12 => ?_)
      · -- taken
        refine r_iconst (pc := 139) (-1) hC dX5_steps_139 (by decide) ?_
        refine r_iret (pc := 140) hC hR dX5_steps_140 ?_ (by decide) (by decide)
        have e : k = 9 := by omega
        subst e
        exact ⟨by rw [show dst σ ok u t9 = 9 from (lst_9 (by omega)).mpr hno]; rfl, rfl⟩
      · -- not
        exfalso; omega
    | succ n9 ih =>
      intro k hk hno
      refine r_iload (pc := 8) hC dX5_steps_8 rfl ?_
      refine r_bipush (pc := 10) (nI 8) hC dX5_steps_10 (by decide) ?_
      first | refine rn_icmp_gt (pc := 12) (tgt := 139) hC dX5_steps_12 (by decide) (by omega) (by omega) (fun c12 => ?_) (fun c12 => ?_) | refine ri_icmp_gt (pc := 12) (tgt := 139) hC dX5_steps_12 (by decide) (fun c12 => ?_) (fun c12 => ?_)
      · -- taken
        exfalso; omega
      · -- not
        refine r_iload (pc := 15) hC dX5_steps_15 rfl ?_
        refine r_iload_n (pc := 17) hC dX5_steps_17 rfl ?_
        refine r_callS (pc := 18) hC (cm_has hC.fl (s := (bset (rch σ ok u (k)) 8)) (z := t9) (by have := bset_lt (rch σ ok u k) 8; omega) (by omega)) ks_X5_83 rfl rfl (Nat.le_of_ble_eq_true rfl) ⟨by decide, by decide, by decide, by decide⟩ dX5_steps_18 (fun _ _ h => h.elim) (fun v18 S18 h18 => ?_)
        obtain ⟨rfl, rfl⟩ := h18
        rw [bs_bit (show t9 < 8 by omega)]
        first | refine rb_if_eq (pc := 21) (tgt := 27) hC dX5_steps_21 (by decide) (fun c21 => ?_) (fun c21 => ?_) | refine rn_if_eq (pc := 21) (tgt := 27) hC dX5_steps_21 (by decide) (by omega) (fun c21 => ?_) (fun c21 => ?_) | refine ri_if_eq (pc := 21) (tgt := 27) hC dX5_steps_21 (by decide) (fun c21 => ?_) (fun c21 => ?_)
        · -- taken
          refine r_iload (pc := 27) hC dX5_steps_27 rfl ?_
          refine r_istore (pc := 29) hC dX5_steps_29 (by decide) ?_
          refine r_iconst (pc := 31) (nI 0) hC dX5_steps_31 (by decide) ?_
          refine r_istore (pc := 32) hC dX5_steps_32 (by decide) ?_
          have hk0 : rch σ ok u k t9 = false := c21
          have hin : ∀ n8 d, d + n8 = nd σ → At Γ G V 0 0 S [(0, .ref m), (1, .int (nI u)), (2, .int (nI t9)), (3, .int (nI a)), (4, .int (nI (bset (rch σ ok u (k)) 8))), (5, .int (nI (k))), (6, .int (nI (bset (rchP σ ok (rch σ ok u k) (d)) 8))), (7, .int (nI (d)))] 34 [] := by
            intro n8
            induction n8 with
            | zero =>
              intro d hd
              refine r_iload (pc := 34) hC dX5_steps_34 rfl ?_
              first | refine r_aload_n (pc := 36) hC dX5_steps_36 rfl ?_ | refine r_aload_nN (pc := 36) hC dX5_steps_36 rfl ?_
              refine r_gf (pc := 37) (κ := 6) (j := 7) hC cls6 (by decide) kf_X5_57 hM.k6 hM.s7 dX5_steps_37 ?_
              first | refine rn_icmp_ge (pc := 40) (tgt := 129) hC dX5_steps_40 (by decide) (by omega) (by omega) (fun c40 => ?_) (fun c40 => ?_) | refine ri_icmp_ge (pc := 40) (tgt := 129) hC dX5_steps_40 (by decide) (fun c40 => ?_) (fun c40 => ?_)
              · -- taken
                refine r_iload (pc := 129) hC dX5_steps_129 rfl ?_
                refine r_istore (pc := 131) hC dX5_steps_131 (by decide) ?_
                first | refine rn_iinc (pc := 133) (q := 1) hC dX5_steps_133 rfl (by decide) ?_ | refine r_iinc (pc := 133) _ hC dX5_steps_133 rfl rfl (by decide) ?_
                refine r_goto (pc := 136) (tgt := 8) hC dX5_steps_136 (by decide) ?_
                have e : d = nd σ := by omega
                subst e
                refine at_lv (lv' := [(0, .ref m), (1, .int (nI u)), (2, .int (nI t9)), (3, .int (nI a)), (4, .int (nI (bset (rch σ ok u (k + 1)) 8))), (5, .int (nI (k + 1)))]) ⟨rfl, rfl, rfl, rfl, rfl, rfl, trivial⟩ ?_
                refine ih (k + 1) (by omega) (fun i hi => ?_)
                by_cases ci : i = k
                · rw [ci]; exact hk0
                · exact hno i (by omega)
              · -- not
                exfalso; omega
            | succ n8 ih2 =>
              intro d hd
              have hi2 : d < nd σ := by omega
              have hv := hV.vd hi2
              refine r_iload (pc := 34) hC dX5_steps_34 rfl ?_
              first | refine r_aload_n (pc := 36) hC dX5_steps_36 rfl ?_ | refine r_aload_nN (pc := 36) hC dX5_steps_36 rfl ?_
              refine r_gf (pc := 37) (κ := 6) (j := 7) hC cls6 (by decide) kf_X5_57 hM.k6 hM.s7 dX5_steps_37 ?_
              first | refine rn_icmp_ge (pc := 40) (tgt := 129) hC dX5_steps_40 (by decide) (by omega) (by omega) (fun c40 => ?_) (fun c40 => ?_) | refine ri_icmp_ge (pc := 40) (tgt := 129) hC dX5_steps_40 (by decide) (fun c40 => ?_) (fun c40 => ?_)
              · -- taken
                exfalso; omega
              · -- not
                first | refine r_aload_n (pc := 43) hC dX5_steps_43 rfl ?_ | refine r_aload_nN (pc := 43) hC dX5_steps_43 rfl ?_
                refine r_gf (pc := 44) (κ := 6) (j := 8) hC cls6 (by decide) kf_X5_23 hM.k6 (hM.a (j := 8) (by decide)) dX5_steps_44 ?_
                refine r_iconst (pc := 47) (nI 2) hC dX5_steps_47 (by decide) ?_
                refine r_iload (pc := 48) hC dX5_steps_48 rfl ?_
                first | refine rn_imul (pc := 50) hC dX5_steps_50 ?_ | refine r_imul (pc := 50) hC dX5_steps_50 ?_
                refine r_iald (pc := 51) hC dX5_steps_51 (hM.kd (j := 8) (by decide)) (hM.r8a hi2).1 (hM.r8a hi2).2.1 (hM.r8a hi2).2.2 ?_
                refine r_istore (pc := 52) hC dX5_steps_52 (by decide) ?_
                first | refine r_aload_n (pc := 54) hC dX5_steps_54 rfl ?_ | refine r_aload_nN (pc := 54) hC dX5_steps_54 rfl ?_
                refine r_gf (pc := 55) (κ := 6) (j := 8) hC cls6 (by decide) kf_X5_23 hM.k6 (hM.a (j := 8) (by decide)) dX5_steps_55 ?_
                refine r_iconst (pc := 58) (nI 2) hC dX5_steps_58 (by decide) ?_
                refine r_iload (pc := 59) hC dX5_steps_59 rfl ?_
                first | refine rn_imul (pc := 61) hC dX5_steps_61 ?_ | refine r_imul (pc := 61) hC dX5_steps_61 ?_
                refine r_iconst (pc := 62) (nI 1) hC dX5_steps_62 (by decide) ?_
                first | refine rn_iadd (pc := 63) hC dX5_steps_63 ?_ | refine r_iadd (pc := 63) hC dX5_steps_63 ?_
                refine r_iald (pc := 64) hC dX5_steps_64 (hM.kd (j := 8) (by decide)) (hM.r8b hi2).1 (hM.r8b hi2).2.1 (hM.r8b hi2).2.2 ?_
                refine r_istore (pc := 65) hC dX5_steps_65 (by decide) ?_
                refine r_iload (pc := 67) hC dX5_steps_67 rfl ?_
                refine r_iload (pc := 69) hC dX5_steps_69 rfl ?_
                refine r_callS (pc := 71) hC (cm_has hC.fl (s := (bset (rch σ ok u (k)) 8)) (z := sda σ d) (by have := bset_lt (rch σ ok u k) 8; omega) (by omega)) ks_X5_83 rfl rfl (Nat.le_of_ble_eq_true rfl) ⟨by decide, by decide, by decide, by decide⟩ dX5_steps_71 (fun _ _ h => h.elim) (fun v71 S71 h71 => ?_)
                obtain ⟨rfl, rfl⟩ := h71
                rw [bs_bit (show sda σ d < 8 by omega)]
                first | refine rb_if_eq (pc := 74) (tgt := 95) hC dX5_steps_74 (by decide) (fun c74 => ?_) (fun c74 => ?_) | refine rn_if_eq (pc := 74) (tgt := 95) hC dX5_steps_74 (by decide) (by omega) (fun c74 => ?_) (fun c74 => ?_) | refine ri_if_eq (pc := 74) (tgt := 95) hC dX5_steps_74 (by decide) (fun c74 => ?_) (fun c74 => ?_)
                · -- taken
                  refine r_iload (pc := 95) hC dX5_steps_95 rfl ?_
                  refine r_iload (pc := 97) hC dX5_steps_97 rfl ?_
                  refine r_callS (pc := 99) hC (cm_has hC.fl (s := (bset (rch σ ok u (k)) 8)) (z := sdb σ d) (by have := bset_lt (rch σ ok u k) 8; omega) (by omega)) ks_X5_83 rfl rfl (Nat.le_of_ble_eq_true rfl) ⟨by decide, by decide, by decide, by decide⟩ dX5_steps_99 (fun _ _ h => h.elim) (fun v99 S99 h99 => ?_)
                  obtain ⟨rfl, rfl⟩ := h99
                  rw [bs_bit (show sdb σ d < 8 by omega)]
                  first | refine rb_if_eq (pc := 102) (tgt := 123) hC dX5_steps_102 (by decide) (fun c102 => ?_) (fun c102 => ?_) | refine rn_if_eq (pc := 102) (tgt := 123) hC dX5_steps_102 (by decide) (by omega) (fun c102 => ?_) (fun c102 => ?_) | refine ri_if_eq (pc := 102) (tgt := 123) hC dX5_steps_102 (by decide) (fun c102 => ?_) (fun c102 => ?_)
                  · -- taken
                    first | refine rn_iinc (pc := 123) (q := 1) hC dX5_steps_123 rfl (by decide) ?_ | refine r_iinc (pc := 123) _ hC dX5_steps_123 rfl rfl (by decide) ?_
                    refine r_goto (pc := 126) (tgt := 34) hC dX5_steps_126 (by decide) ?_
                    have e9 := rP_00 (σ := σ) (ok := ok) (F := rch σ ok u k) (n := d) (by rw [c74]; rfl) (by rw [c102]; rfl)
                    refine at_lv (lv' := [(0, .ref m), (1, .int (nI u)), (2, .int (nI t9)), (3, .int (nI a)), (4, .int (nI (bset (rch σ ok u (k)) 8))), (5, .int (nI (k))), (6, .int (nI (bset (rchP σ ok (rch σ ok u k) (d + 1)) 8))), (7, .int (nI (d + 1)))]) ⟨rfl, rfl, rfl, rfl, rfl, rfl, by rw [e9]; rfl, rfl, trivial⟩ ?_
                    exact ih2 (d + 1) (by omega)
                  · -- not
                    refine r_iload_n (pc := 105) hC dX5_steps_105 rfl ?_
                    refine r_iload (pc := 106) hC dX5_steps_106 rfl ?_
                    refine r_callS (pc := 108) hC (cm_has hC.fl (s := a) (z := sda σ d) ha31 (by omega)) ks_X5_83 rfl rfl (Nat.le_of_ble_eq_true rfl) ⟨by decide, by decide, by decide, by decide⟩ dX5_steps_108 (fun _ _ h => h.elim) (fun v108 S108 h108 => ?_)
                    obtain ⟨rfl, rfl⟩ := h108
                    rw [hA _ hv.1]
                    first | refine rb_if_eq (pc := 111) (tgt := 123) hC dX5_steps_111 (by decide) (fun c111 => ?_) (fun c111 => ?_) | refine rn_if_eq (pc := 111) (tgt := 123) hC dX5_steps_111 (by decide) (by omega) (fun c111 => ?_) (fun c111 => ?_) | refine ri_if_eq (pc := 111) (tgt := 123) hC dX5_steps_111 (by decide) (fun c111 => ?_) (fun c111 => ?_)
                    · -- taken
                      first | refine rn_iinc (pc := 123) (q := 1) hC dX5_steps_123 rfl (by decide) ?_ | refine r_iinc (pc := 123) _ hC dX5_steps_123 rfl rfl (by decide) ?_
                      refine r_goto (pc := 126) (tgt := 34) hC dX5_steps_126 (by decide) ?_
                      have e9 := rP_00 (σ := σ) (ok := ok) (F := rch σ ok u k) (n := d) (by rw [c74]; rfl) (by rw [c102, c111]; rfl)
                      refine at_lv (lv' := [(0, .ref m), (1, .int (nI u)), (2, .int (nI t9)), (3, .int (nI a)), (4, .int (nI (bset (rch σ ok u (k)) 8))), (5, .int (nI (k))), (6, .int (nI (bset (rchP σ ok (rch σ ok u k) (d + 1)) 8))), (7, .int (nI (d + 1)))]) ⟨rfl, rfl, rfl, rfl, rfl, rfl, by rw [e9]; rfl, rfl, trivial⟩ ?_
                      exact ih2 (d + 1) (by omega)
                    · -- not
                      refine r_iload (pc := 114) hC dX5_steps_114 rfl ?_
                      refine r_iconst (pc := 116) (nI 1) hC dX5_steps_116 (by decide) ?_
                      refine r_iload (pc := 117) hC dX5_steps_117 rfl ?_
                      refine r_ishl (pc := 119) hC dX5_steps_119 ?_
                      refine r_ior (pc := 120) hC dX5_steps_120 ?_
                      rw [bset_or (by omega) (by omega)]
                      refine r_istore (pc := 121) hC dX5_steps_121 (by decide) ?_
                      first | refine rn_iinc (pc := 123) (q := 1) hC dX5_steps_123 rfl (by decide) ?_ | refine r_iinc (pc := 123) _ hC dX5_steps_123 rfl rfl (by decide) ?_
                      refine r_goto (pc := 126) (tgt := 34) hC dX5_steps_126 (by decide) ?_
                      have e9 := rP_01 (σ := σ) (ok := ok) (F := rch σ ok u k) (n := d) (by rw [c74]; rfl) (by rw [c102, c111]; rfl)
                      refine at_lv (lv' := [(0, .ref m), (1, .int (nI u)), (2, .int (nI t9)), (3, .int (nI a)), (4, .int (nI (bset (rch σ ok u (k)) 8))), (5, .int (nI (k))), (6, .int (nI (bset (rchP σ ok (rch σ ok u k) (d + 1)) 8))), (7, .int (nI (d + 1)))]) ⟨rfl, rfl, rfl, rfl, rfl, rfl, by rw [e9]; rfl, rfl, trivial⟩ ?_
                      exact ih2 (d + 1) (by omega)
                · -- not
                  refine r_iload_n (pc := 77) hC dX5_steps_77 rfl ?_
                  refine r_iload (pc := 78) hC dX5_steps_78 rfl ?_
                  refine r_callS (pc := 80) hC (cm_has hC.fl (s := a) (z := sdb σ d) ha31 (by omega)) ks_X5_83 rfl rfl (Nat.le_of_ble_eq_true rfl) ⟨by decide, by decide, by decide, by decide⟩ dX5_steps_80 (fun _ _ h => h.elim) (fun v80 S80 h80 => ?_)
                  obtain ⟨rfl, rfl⟩ := h80
                  rw [hA _ hv.2.1]
                  first | refine rb_if_eq (pc := 83) (tgt := 95) hC dX5_steps_83 (by decide) (fun c83 => ?_) (fun c83 => ?_) | refine rn_if_eq (pc := 83) (tgt := 95) hC dX5_steps_83 (by decide) (by omega) (fun c83 => ?_) (fun c83 => ?_) | refine ri_if_eq (pc := 83) (tgt := 95) hC dX5_steps_83 (by decide) (fun c83 => ?_) (fun c83 => ?_)
                  · -- taken
                    refine r_iload (pc := 95) hC dX5_steps_95 rfl ?_
                    refine r_iload (pc := 97) hC dX5_steps_97 rfl ?_
                    refine r_callS (pc := 99) hC (cm_has hC.fl (s := (bset (rch σ ok u (k)) 8)) (z := sdb σ d) (by have := bset_lt (rch σ ok u k) 8; omega) (by omega)) ks_X5_83 rfl rfl (Nat.le_of_ble_eq_true rfl) ⟨by decide, by decide, by decide, by decide⟩ dX5_steps_99 (fun _ _ h => h.elim) (fun v99 S99 h99 => ?_)
                    obtain ⟨rfl, rfl⟩ := h99
                    rw [bs_bit (show sdb σ d < 8 by omega)]
                    first | refine rb_if_eq (pc := 102) (tgt := 123) hC dX5_steps_102 (by decide) (fun c102 => ?_) (fun c102 => ?_) | refine rn_if_eq (pc := 102) (tgt := 123) hC dX5_steps_102 (by decide) (by omega) (fun c102 => ?_) (fun c102 => ?_) | refine ri_if_eq (pc := 102) (tgt := 123) hC dX5_steps_102 (by decide) (fun c102 => ?_) (fun c102 => ?_)
                    · -- taken
                      first | refine rn_iinc (pc := 123) (q := 1) hC dX5_steps_123 rfl (by decide) ?_ | refine r_iinc (pc := 123) _ hC dX5_steps_123 rfl rfl (by decide) ?_
                      refine r_goto (pc := 126) (tgt := 34) hC dX5_steps_126 (by decide) ?_
                      have e9 := rP_00 (σ := σ) (ok := ok) (F := rch σ ok u k) (n := d) (by rw [c74, c83]; rfl) (by rw [c102]; rfl)
                      refine at_lv (lv' := [(0, .ref m), (1, .int (nI u)), (2, .int (nI t9)), (3, .int (nI a)), (4, .int (nI (bset (rch σ ok u (k)) 8))), (5, .int (nI (k))), (6, .int (nI (bset (rchP σ ok (rch σ ok u k) (d + 1)) 8))), (7, .int (nI (d + 1)))]) ⟨rfl, rfl, rfl, rfl, rfl, rfl, by rw [e9]; rfl, rfl, trivial⟩ ?_
                      exact ih2 (d + 1) (by omega)
                    · -- not
                      refine r_iload_n (pc := 105) hC dX5_steps_105 rfl ?_
                      refine r_iload (pc := 106) hC dX5_steps_106 rfl ?_
                      refine r_callS (pc := 108) hC (cm_has hC.fl (s := a) (z := sda σ d) ha31 (by omega)) ks_X5_83 rfl rfl (Nat.le_of_ble_eq_true rfl) ⟨by decide, by decide, by decide, by decide⟩ dX5_steps_108 (fun _ _ h => h.elim) (fun v108 S108 h108 => ?_)
                      obtain ⟨rfl, rfl⟩ := h108
                      rw [hA _ hv.1]
                      first | refine rb_if_eq (pc := 111) (tgt := 123) hC dX5_steps_111 (by decide) (fun c111 => ?_) (fun c111 => ?_) | refine rn_if_eq (pc := 111) (tgt := 123) hC dX5_steps_111 (by decide) (by omega) (fun c111 => ?_) (fun c111 => ?_) | refine ri_if_eq (pc := 111) (tgt := 123) hC dX5_steps_111 (by decide) (fun c111 => ?_) (fun c111 => ?_)
                      · -- taken
                        first | refine rn_iinc (pc := 123) (q := 1) hC dX5_steps_123 rfl (by decide) ?_ | refine r_iinc (pc := 123) _ hC dX5_steps_123 rfl rfl (by decide) ?_
                        refine r_goto (pc := 126) (tgt := 34) hC dX5_steps_126 (by decide) ?_
                        have e9 := rP_00 (σ := σ) (ok := ok) (F := rch σ ok u k) (n := d) (by rw [c74, c83]; rfl) (by rw [c102, c111]; rfl)
                        refine at_lv (lv' := [(0, .ref m), (1, .int (nI u)), (2, .int (nI t9)), (3, .int (nI a)), (4, .int (nI (bset (rch σ ok u (k)) 8))), (5, .int (nI (k))), (6, .int (nI (bset (rchP σ ok (rch σ ok u k) (d + 1)) 8))), (7, .int (nI (d + 1)))]) ⟨rfl, rfl, rfl, rfl, rfl, rfl, by rw [e9]; rfl, rfl, trivial⟩ ?_
                        exact ih2 (d + 1) (by omega)
                      · -- not
                        refine r_iload (pc := 114) hC dX5_steps_114 rfl ?_
                        refine r_iconst (pc := 116) (nI 1) hC dX5_steps_116 (by decide) ?_
                        refine r_iload (pc := 117) hC dX5_steps_117 rfl ?_
                        refine r_ishl (pc := 119) hC dX5_steps_119 ?_
                        refine r_ior (pc := 120) hC dX5_steps_120 ?_
                        rw [bset_or (by omega) (by omega)]
                        refine r_istore (pc := 121) hC dX5_steps_121 (by decide) ?_
                        first | refine rn_iinc (pc := 123) (q := 1) hC dX5_steps_123 rfl (by decide) ?_ | refine r_iinc (pc := 123) _ hC dX5_steps_123 rfl rfl (by decide) ?_
                        refine r_goto (pc := 126) (tgt := 34) hC dX5_steps_126 (by decide) ?_
                        have e9 := rP_01 (σ := σ) (ok := ok) (F := rch σ ok u k) (n := d) (by rw [c74, c83]; rfl) (by rw [c102, c111]; rfl)
                        refine at_lv (lv' := [(0, .ref m), (1, .int (nI u)), (2, .int (nI t9)), (3, .int (nI a)), (4, .int (nI (bset (rch σ ok u (k)) 8))), (5, .int (nI (k))), (6, .int (nI (bset (rchP σ ok (rch σ ok u k) (d + 1)) 8))), (7, .int (nI (d + 1)))]) ⟨rfl, rfl, rfl, rfl, rfl, rfl, by rw [e9]; rfl, rfl, trivial⟩ ?_
                        exact ih2 (d + 1) (by omega)
                  · -- not
                    refine r_iload (pc := 86) hC dX5_steps_86 rfl ?_
                    refine r_iconst (pc := 88) (nI 1) hC dX5_steps_88 (by decide) ?_
                    refine r_iload (pc := 89) hC dX5_steps_89 rfl ?_
                    refine r_ishl (pc := 91) hC dX5_steps_91 ?_
                    refine r_ior (pc := 92) hC dX5_steps_92 ?_
                    rw [bset_or (by omega) (by omega)]
                    refine r_istore (pc := 93) hC dX5_steps_93 (by decide) ?_
                    refine r_iload (pc := 95) hC dX5_steps_95 rfl ?_
                    refine r_iload (pc := 97) hC dX5_steps_97 rfl ?_
                    refine r_callS (pc := 99) hC (cm_has hC.fl (s := (bset (rch σ ok u (k)) 8)) (z := sdb σ d) (by have := bset_lt (rch σ ok u k) 8; omega) (by omega)) ks_X5_83 rfl rfl (Nat.le_of_ble_eq_true rfl) ⟨by decide, by decide, by decide, by decide⟩ dX5_steps_99 (fun _ _ h => h.elim) (fun v99 S99 h99 => ?_)
                    obtain ⟨rfl, rfl⟩ := h99
                    rw [bs_bit (show sdb σ d < 8 by omega)]
                    first | refine rb_if_eq (pc := 102) (tgt := 123) hC dX5_steps_102 (by decide) (fun c102 => ?_) (fun c102 => ?_) | refine rn_if_eq (pc := 102) (tgt := 123) hC dX5_steps_102 (by decide) (by omega) (fun c102 => ?_) (fun c102 => ?_) | refine ri_if_eq (pc := 102) (tgt := 123) hC dX5_steps_102 (by decide) (fun c102 => ?_) (fun c102 => ?_)
                    · -- taken
                      first | refine rn_iinc (pc := 123) (q := 1) hC dX5_steps_123 rfl (by decide) ?_ | refine r_iinc (pc := 123) _ hC dX5_steps_123 rfl rfl (by decide) ?_
                      refine r_goto (pc := 126) (tgt := 34) hC dX5_steps_126 (by decide) ?_
                      have e9 := rP_10 (σ := σ) (ok := ok) (F := rch σ ok u k) (n := d) (by rw [c74, c83]; rfl) (by rw [c102]; rfl)
                      refine at_lv (lv' := [(0, .ref m), (1, .int (nI u)), (2, .int (nI t9)), (3, .int (nI a)), (4, .int (nI (bset (rch σ ok u (k)) 8))), (5, .int (nI (k))), (6, .int (nI (bset (rchP σ ok (rch σ ok u k) (d + 1)) 8))), (7, .int (nI (d + 1)))]) ⟨rfl, rfl, rfl, rfl, rfl, rfl, by rw [e9]; rfl, rfl, trivial⟩ ?_
                      exact ih2 (d + 1) (by omega)
                    · -- not
                      refine r_iload_n (pc := 105) hC dX5_steps_105 rfl ?_
                      refine r_iload (pc := 106) hC dX5_steps_106 rfl ?_
                      refine r_callS (pc := 108) hC (cm_has hC.fl (s := a) (z := sda σ d) ha31 (by omega)) ks_X5_83 rfl rfl (Nat.le_of_ble_eq_true rfl) ⟨by decide, by decide, by decide, by decide⟩ dX5_steps_108 (fun _ _ h => h.elim) (fun v108 S108 h108 => ?_)
                      obtain ⟨rfl, rfl⟩ := h108
                      rw [hA _ hv.1]
                      first | refine rb_if_eq (pc := 111) (tgt := 123) hC dX5_steps_111 (by decide) (fun c111 => ?_) (fun c111 => ?_) | refine rn_if_eq (pc := 111) (tgt := 123) hC dX5_steps_111 (by decide) (by omega) (fun c111 => ?_) (fun c111 => ?_) | refine ri_if_eq (pc := 111) (tgt := 123) hC dX5_steps_111 (by decide) (fun c111 => ?_) (fun c111 => ?_)
                      · -- taken
                        first | refine rn_iinc (pc := 123) (q := 1) hC dX5_steps_123 rfl (by decide) ?_ | refine r_iinc (pc := 123) _ hC dX5_steps_123 rfl rfl (by decide) ?_
                        refine r_goto (pc := 126) (tgt := 34) hC dX5_steps_126 (by decide) ?_
                        have e9 := rP_10 (σ := σ) (ok := ok) (F := rch σ ok u k) (n := d) (by rw [c74, c83]; rfl) (by rw [c102, c111]; rfl)
                        refine at_lv (lv' := [(0, .ref m), (1, .int (nI u)), (2, .int (nI t9)), (3, .int (nI a)), (4, .int (nI (bset (rch σ ok u (k)) 8))), (5, .int (nI (k))), (6, .int (nI (bset (rchP σ ok (rch σ ok u k) (d + 1)) 8))), (7, .int (nI (d + 1)))]) ⟨rfl, rfl, rfl, rfl, rfl, rfl, by rw [e9]; rfl, rfl, trivial⟩ ?_
                        exact ih2 (d + 1) (by omega)
                      · -- not
                        refine r_iload (pc := 114) hC dX5_steps_114 rfl ?_
                        refine r_iconst (pc := 116) (nI 1) hC dX5_steps_116 (by decide) ?_
                        refine r_iload (pc := 117) hC dX5_steps_117 rfl ?_
                        refine r_ishl (pc := 119) hC dX5_steps_119 ?_
                        refine r_ior (pc := 120) hC dX5_steps_120 ?_
                        rw [bset_or (by omega) (by omega)]
                        refine r_istore (pc := 121) hC dX5_steps_121 (by decide) ?_
                        first | refine rn_iinc (pc := 123) (q := 1) hC dX5_steps_123 rfl (by decide) ?_ | refine r_iinc (pc := 123) _ hC dX5_steps_123 rfl rfl (by decide) ?_
                        refine r_goto (pc := 126) (tgt := 34) hC dX5_steps_126 (by decide) ?_
                        have e9 := rP_11 (σ := σ) (ok := ok) (F := rch σ ok u k) (n := d) (by rw [c74, c83]; rfl) (by rw [c102, c111]; rfl)
                        refine at_lv (lv' := [(0, .ref m), (1, .int (nI u)), (2, .int (nI t9)), (3, .int (nI a)), (4, .int (nI (bset (rch σ ok u (k)) 8))), (5, .int (nI (k))), (6, .int (nI (bset (rchP σ ok (rch σ ok u k) (d + 1)) 8))), (7, .int (nI (d + 1)))]) ⟨rfl, rfl, rfl, rfl, rfl, rfl, by rw [e9]; rfl, rfl, trivial⟩ ?_
                        exact ih2 (d + 1) (by omega)
          have e0 : bset (rchP σ ok (rch σ ok u k) 0) 8 = bset (rch σ ok u k) 8 := bset_congr (fun z _ => Bool.or_false _)
          refine at_lv (lv' := [(0, .ref m), (1, .int (nI u)), (2, .int (nI t9)), (3, .int (nI a)), (4, .int (nI (bset (rch σ ok u (k)) 8))), (5, .int (nI (k))), (6, .int (nI (bset (rchP σ ok (rch σ ok u k) (0)) 8))), (7, .int (nI (0)))]) ⟨rfl, rfl, rfl, rfl, rfl, rfl, by rw [e0]; rfl, rfl, trivial⟩ ?_
          exact hin (nd σ) 0 (by omega)
        · -- not
          refine r_iload (pc := 24) hC dX5_steps_24 rfl ?_
          refine r_iret (pc := 26) hC hR dX5_steps_26 ?_ (by decide) (by decide)
          have e : dst σ ok u t9 = k := (lst_iff (by omega) (by omega)).mpr ⟨by omega, c21, hno⟩
          exact ⟨by rw [e, dI_k (by omega)], rfl⟩
  refine r_iconst (pc := 0) (nI 1) hC dX5_steps_0 (by decide) ?_
  refine r_iload_n (pc := 1) hC dX5_steps_1 rfl ?_
  refine r_ishl (pc := 2) hC dX5_steps_2 ?_
  rw [sh1 (by omega), ← bs_u u (by omega)]
  refine r_istore (pc := 3) hC dX5_steps_3 (by decide) ?_
  refine r_iconst (pc := 5) (nI 0) hC dX5_steps_5 (by decide) ?_
  refine r_istore (pc := 6) hC dX5_steps_6 (by decide) ?_
  refine at_lv (lv' := [(0, .ref m), (1, .int (nI u)), (2, .int (nI t9)), (3, .int (nI a)), (4, .int (nI (bset (rch σ ok u (0)) 8))), (5, .int (nI (0)))]) ⟨rfl, rfl, rfl, rfl, rfl, rfl, trivial⟩ ?_
  exact hout 9 0 (by omega) (fun i hi => absurd hi (by omega))
abbrev rm_X5_isNearer : Room := { frames := 2, cells := 0, slots := 0, locals := 50 }
set_option maxHeartbeats 4000000 in
set_option maxRecDepth 100000 in
theorem cm_nearer {l : Launch} {G : Ids} {S : Ps} {M : Nat → Nat} {σ : Sg} {m t : Nat} {g z : Nat} (hfl : l.stackTraces = false) (hM : RM S M σ m t) (hV : InvC σ) (hg : g < nz σ) (hz9 : z < nz σ) : Ct l (Cond.code yX5_isNearer cX5_isNearer 5 (some .boolean)) yX5_isNearer rm_X5_isNearer G [.ref m, .int (nI g), .int (nI z)] S (fun v S9 => v = some (.int (b2i (decide (dst σ okA g 0 < dst σ okA z 0)))) ∧ S = S9) (fun _ _ => False) := by
  refine Ct.of hfl (by decide) (Nat.le_of_ble_eq_true rfl) (fun Γ V hC hR hT hI => ?_)
  have hn := hV.n
  first | refine r_aload_n (pc := 0) hC dX5_isNearer_0 rfl ?_ | refine r_aload_nN (pc := 0) hC dX5_isNearer_0 rfl ?_
  refine r_iload_n (pc := 1) hC dX5_isNearer_1 rfl ?_
  refine r_iconst (pc := 2) (nI 0) hC dX5_isNearer_2 (by decide) ?_
  refine r_sipush (pc := 3) (nI 255) hC dX5_isNearer_3 (by decide) ?_
  refine r_callV (pc := 6) hC (cm_steps hC.fl hM hV (ok := okA) hg hn.1 (by decide) (fun z hz => a255 z (by omega))) kv_X5_87 cls6 hM.k6 rfl rfl (Nat.le_of_ble_eq_true rfl) ⟨by decide, by decide, by decide, by decide⟩ dX5_isNearer_6 (fun _ _ h => h.elim) (fun v6 S6 h6 => ?_)
  obtain ⟨rfl, rfl⟩ := h6
  refine r_istore_n (pc := 9) hC dX5_isNearer_9 (by decide) ?_
  first | refine r_aload_n (pc := 10) hC dX5_isNearer_10 rfl ?_ | refine r_aload_nN (pc := 10) hC dX5_isNearer_10 rfl ?_
  refine r_iload_n (pc := 11) hC dX5_isNearer_11 rfl ?_
  refine r_iconst (pc := 12) (nI 0) hC dX5_isNearer_12 (by decide) ?_
  refine r_sipush (pc := 13) (nI 255) hC dX5_isNearer_13 (by decide) ?_
  refine r_callV (pc := 16) hC (cm_steps hC.fl hM hV (ok := okA) hz9 hn.1 (by decide) (fun z hz => a255 z (by omega))) kv_X5_87 cls6 hM.k6 rfl rfl (Nat.le_of_ble_eq_true rfl) ⟨by decide, by decide, by decide, by decide⟩ dX5_isNearer_16 (fun _ _ h => h.elim) (fun v16 S16 h16 => ?_)
  obtain ⟨rfl, rfl⟩ := h16
  refine r_istore (pc := 19) hC dX5_isNearer_19 (by decide) ?_
  refine r_iload_n (pc := 21) hC dX5_isNearer_21 rfl ?_
  refine r_iconst (pc := 22) (-1) hC dX5_isNearer_22 (by decide) ?_
  refine r_icmp_eq (pc := 23) (tgt := 42) hC dX5_isNearer_23 (by decide) (fun c23 => ?_) (fun c23 => ?_)
  · -- taken
    refine r_iconst (pc := 42) (nI 0) hC dX5_isNearer_42 (by decide) ?_
    refine r_zret (pc := 43) hC hR dX5_isNearer_43 (by first | rfl | exact b2i_z _ | decide) ?_ (by decide) (by decide)
    have e1 := dI_no (a := dst σ okA g 0) dst_le
    have e2 := dI_no (a := dst σ okA z 0) dst_le
    have l1 := dst_le (σ := σ) (w := okA) (z := g) (t := 0)
    have l2 := dst_le (σ := σ) (w := okA) (z := z) (t := 0)
    have q1 := e1.mp c23
    exact ⟨ret_f (decide_eq_false (by omega)), rfl⟩
  · -- not
    refine r_iload (pc := 26) hC dX5_isNearer_26 rfl ?_
    refine r_iconst (pc := 28) (-1) hC dX5_isNearer_28 (by decide) ?_
    refine r_icmp_eq (pc := 29) (tgt := 38) hC dX5_isNearer_29 (by decide) (fun c29 => ?_) (fun c29 => ?_)
    · -- taken
      refine r_iconst (pc := 38) (nI 1) hC dX5_isNearer_38 (by decide) ?_
      refine r_goto (pc := 39) (tgt := 43) hC dX5_isNearer_39 (by decide) ?_
      refine r_zret (pc := 43) hC hR dX5_isNearer_43 (by first | rfl | exact b2i_z _ | decide) ?_ (by decide) (by decide)
      have e1 := dI_no (a := dst σ okA g 0) dst_le
      have e2 := dI_no (a := dst σ okA z 0) dst_le
      have l1 := dst_le (σ := σ) (w := okA) (z := g) (t := 0)
      have l2 := dst_le (σ := σ) (w := okA) (z := z) (t := 0)
      have q1 : ¬ dst σ okA g 0 = 9 := fun q => c23 (e1.mpr q)
      have q2 := e2.mp c29
      exact ⟨ret_t (decide_eq_true (by omega)), rfl⟩
    · -- not
      refine r_iload_n (pc := 32) hC dX5_isNearer_32 rfl ?_
      refine r_iload (pc := 33) hC dX5_isNearer_33 rfl ?_
      first | refine rn_icmp_ge (pc := 35) (tgt := 42) hC dX5_isNearer_35 (by decide) (by omega) (by omega) (fun c35 => ?_) (fun c35 => ?_) | refine ri_icmp_ge (pc := 35) (tgt := 42) hC dX5_isNearer_35 (by decide) (fun c35 => ?_) (fun c35 => ?_)
      · -- taken
        refine r_iconst (pc := 42) (nI 0) hC dX5_isNearer_42 (by decide) ?_
        refine r_zret (pc := 43) hC hR dX5_isNearer_43 (by first | rfl | exact b2i_z _ | decide) ?_ (by decide) (by decide)
        have e1 := dI_no (a := dst σ okA g 0) dst_le
        have e2 := dI_no (a := dst σ okA z 0) dst_le
        have l1 := dst_le (σ := σ) (w := okA) (z := g) (t := 0)
        have l2 := dst_le (σ := σ) (w := okA) (z := z) (t := 0)
        have q1 : ¬ dst σ okA g 0 = 9 := fun q => c23 (e1.mpr q)
        have q2 : ¬ dst σ okA z 0 = 9 := fun q => c29 (e2.mpr q)
        rw [dI_tI l1, dI_tI l2, if_neg q1, if_neg q2] at c35
        exact ⟨ret_f (decide_eq_false (by omega)), rfl⟩
      · -- not
        refine r_iconst (pc := 38) (nI 1) hC dX5_isNearer_38 (by decide) ?_
        refine r_goto (pc := 39) (tgt := 43) hC dX5_isNearer_39 (by decide) ?_
        refine r_zret (pc := 43) hC hR dX5_isNearer_43 (by first | rfl | exact b2i_z _ | decide) ?_ (by decide) (by decide)
        have e1 := dI_no (a := dst σ okA g 0) dst_le
        have e2 := dI_no (a := dst σ okA z 0) dst_le
        have l1 := dst_le (σ := σ) (w := okA) (z := g) (t := 0)
        have l2 := dst_le (σ := σ) (w := okA) (z := z) (t := 0)
        have q1 : ¬ dst σ okA g 0 = 9 := fun q => c23 (e1.mpr q)
        have q2 : ¬ dst σ okA z 0 = 9 := fun q => c29 (e2.mpr q)
        rw [dI_tI l1, dI_tI l2, if_neg q1, if_neg q2] at c35
        exact ⟨ret_t (decide_eq_true (by omega)), rfl⟩
abbrev rm_X5_allowed : Room := { frames := 1, cells := 0, slots := 0, locals := 22 }
set_option maxHeartbeats 4000000 in
set_option maxRecDepth 100000 in
theorem cm_allowed {l : Launch} {G : Ids} {S : Ps} {M : Nat → Nat} {σ : Sg} {m t : Nat} {b : Nat} (hfl : l.stackTraces = false) (hM : RM S M σ m t) (hV : InvC σ) (hb : b < nb σ) : Ct l (Cond.code yX5_allowed cX5_allowed 4 (some .int)) yX5_allowed rm_X5_allowed G [.ref m, .int (nI b)] S (fun v S9 => v = some (.int (nI (bset (okB σ b) (nz σ)))) ∧ S = S9) (fun _ _ => False) := by
  refine Ct.of hfl (by decide) (Nat.le_of_ble_eq_true rfl) (fun Γ V hC hR hT hI => ?_)
  have hn := hV.n
  have hr := hV.r hb
  have hlp : ∀ n9 i, i + n9 = nz σ → 1 ≤ i → At Γ G V 0 0 S [(0, .ref m), (1, .int (nI b)), (2, .int (nI (bset (okB σ b) (i)))), (3, .int (nI (i)))] 4 [] := by
    intro n9
    induction n9 with
    | zero =>
      intro i hi h1
      refine r_iload_n (pc := 4) hC dX5_allowed_4 rfl ?_
      first | refine r_aload_n (pc := 5) hC dX5_allowed_5 rfl ?_ | refine r_aload_nN (pc := 5) hC dX5_allowed_5 rfl ?_
      refine r_gf (pc := 6) (κ := 6) (j := 3) hC cls6 (by decide) kf_X5_7 hM.k6 hM.s3 dX5_allowed_6 ?_
      first | refine rn_icmp_ge (pc := 9) (tgt := 44) hC dX5_allowed_9 (by decide) (by omega) (by omega) (fun c9 => ?_) (fun c9 => ?_) | refine ri_icmp_ge (pc := 9) (tgt := 44) hC dX5_allowed_9 (by decide) (fun c9 => ?_) (fun c9 => ?_)
      · -- taken
        refine r_iload_n (pc := 44) hC dX5_allowed_44 rfl ?_
        refine r_iret (pc := 45) hC hR dX5_allowed_45 ?_ (by decide) (by decide)
        have e : i = nz σ := by omega
        subst e
        exact ⟨rfl, rfl⟩
      · -- not
        exfalso; omega
    | succ n9 ih =>
      intro i hi h1
      have hi2 : i < nz σ := by omega
      refine r_iload_n (pc := 4) hC dX5_allowed_4 rfl ?_
      first | refine r_aload_n (pc := 5) hC dX5_allowed_5 rfl ?_ | refine r_aload_nN (pc := 5) hC dX5_allowed_5 rfl ?_
      refine r_gf (pc := 6) (κ := 6) (j := 3) hC cls6 (by decide) kf_X5_7 hM.k6 hM.s3 dX5_allowed_6 ?_
      first | refine rn_icmp_ge (pc := 9) (tgt := 44) hC dX5_allowed_9 (by decide) (by omega) (by omega) (fun c9 => ?_) (fun c9 => ?_) | refine ri_icmp_ge (pc := 9) (tgt := 44) hC dX5_allowed_9 (by decide) (fun c9 => ?_) (fun c9 => ?_)
      · -- taken
        exfalso; omega
      · -- not
        first | refine r_aload_n (pc := 12) hC dX5_allowed_12 rfl ?_ | refine r_aload_nN (pc := 12) hC dX5_allowed_12 rfl ?_
        refine r_iload_n (pc := 13) hC dX5_allowed_13 rfl ?_
        refine r_callV (pc := 14) hC (cm_open hC.fl hM hV hi2) kv_X5_94 cls6 hM.k6 rfl rfl (Nat.le_of_ble_eq_true rfl) ⟨by decide, by decide, by decide, by decide⟩ dX5_allowed_14 (fun _ _ h => h.elim) (fun v14 S14 h14 => ?_)
        obtain ⟨rfl, rfl⟩ := h14
        first | refine rb_if_eq (pc := 17) (tgt := 38) hC dX5_allowed_17 (by decide) (fun c17 => ?_) (fun c17 => ?_) | refine rn_if_eq (pc := 17) (tgt := 38) hC dX5_allowed_17 (by decide) (by omega) (fun c17 => ?_) (fun c17 => ?_) | refine ri_if_eq (pc := 17) (tgt := 38) hC dX5_allowed_17 (by decide) (fun c17 => ?_) (fun c17 => ?_)
        · -- taken
          first | refine rn_iinc (pc := 38) (q := 1) hC dX5_allowed_38 rfl (by decide) ?_ | refine r_iinc (pc := 38) _ hC dX5_allowed_38 rfl rfl (by decide) ?_
          refine r_goto (pc := 41) (tgt := 4) hC dX5_allowed_41 (by decide) ?_
          have e2 := bset_n (p := okB σ b) (i := i) (by show (opn σ i && hasR σ b i) = false; rw [c17]; rfl)
          refine at_lv (lv' := [(0, .ref m), (1, .int (nI b)), (2, .int (nI (bset (okB σ b) (i + 1)))), (3, .int (nI (i + 1)))]) ⟨rfl, rfl, by rw [e2]; rfl, rfl, trivial⟩ ?_
          exact ih (i + 1) (by omega) (by omega)
        · -- not
          first | refine r_aload_n (pc := 20) hC dX5_allowed_20 rfl ?_ | refine r_aload_nN (pc := 20) hC dX5_allowed_20 rfl ?_
          refine r_iload_n (pc := 21) hC dX5_allowed_21 rfl ?_
          refine r_callV (pc := 22) hC (cm_rights hC.fl hM hV hb) kv_X5_115 cls6 hM.k6 rfl rfl (Nat.le_of_ble_eq_true rfl) ⟨by decide, by decide, by decide, by decide⟩ dX5_allowed_22 (fun _ _ h => h.elim) (fun v22 S22 h22 => ?_)
          obtain ⟨rfl, rfl⟩ := h22
          refine r_iload_n (pc := 25) hC dX5_allowed_25 rfl ?_
          refine r_callS (pc := 26) hC (cm_has hC.fl (s := rgs σ b) (z := i) (by omega) (by omega)) ks_X5_83 rfl rfl (Nat.le_of_ble_eq_true rfl) ⟨by decide, by decide, by decide, by decide⟩ dX5_allowed_26 (fun _ _ h => h.elim) (fun v26 S26 h26 => ?_)
          obtain ⟨rfl, rfl⟩ := h26
          first | refine rb_if_eq (pc := 29) (tgt := 38) hC dX5_allowed_29 (by decide) (fun c29 => ?_) (fun c29 => ?_) | refine rn_if_eq (pc := 29) (tgt := 38) hC dX5_allowed_29 (by decide) (by omega) (fun c29 => ?_) (fun c29 => ?_) | refine ri_if_eq (pc := 29) (tgt := 38) hC dX5_allowed_29 (by decide) (fun c29 => ?_) (fun c29 => ?_)
          · -- taken
            first | refine rn_iinc (pc := 38) (q := 1) hC dX5_allowed_38 rfl (by decide) ?_ | refine r_iinc (pc := 38) _ hC dX5_allowed_38 rfl rfl (by decide) ?_
            refine r_goto (pc := 41) (tgt := 4) hC dX5_allowed_41 (by decide) ?_
            have e2 := bset_n (p := okB σ b) (i := i) (by show (opn σ i && (decide (i = 0) || decide (rgs σ b / 2 ^ i % 2 = 1))) = false; rw [c17, c29, decide_eq_false (show ¬ i = 0 by omega)]; rfl)
            refine at_lv (lv' := [(0, .ref m), (1, .int (nI b)), (2, .int (nI (bset (okB σ b) (i + 1)))), (3, .int (nI (i + 1)))]) ⟨rfl, rfl, by rw [e2]; rfl, rfl, trivial⟩ ?_
            exact ih (i + 1) (by omega) (by omega)
          · -- not
            refine r_iload_n (pc := 32) hC dX5_allowed_32 rfl ?_
            refine r_iconst (pc := 33) (nI 1) hC dX5_allowed_33 (by decide) ?_
            refine r_iload_n (pc := 34) hC dX5_allowed_34 rfl ?_
            refine r_ishl (pc := 35) hC dX5_allowed_35 ?_
            refine r_ior (pc := 36) hC dX5_allowed_36 ?_
            rw [bit_or _ (by omega) _ (bset_lt _ _)]
            refine r_istore_n (pc := 37) hC dX5_allowed_37 (by decide) ?_
            first | refine rn_iinc (pc := 38) (q := 1) hC dX5_allowed_38 rfl (by decide) ?_ | refine r_iinc (pc := 38) _ hC dX5_allowed_38 rfl rfl (by decide) ?_
            refine r_goto (pc := 41) (tgt := 4) hC dX5_allowed_41 (by decide) ?_
            have e2 := bset_s (p := okB σ b) (i := i) (by show (opn σ i && (decide (i = 0) || decide (rgs σ b / 2 ^ i % 2 = 1))) = true; rw [c17, c29, Bool.or_true]; rfl)
            refine at_lv (lv' := [(0, .ref m), (1, .int (nI b)), (2, .int (nI (bset (okB σ b) (i + 1)))), (3, .int (nI (i + 1)))]) ⟨rfl, rfl, by rw [e2]; rfl, rfl, trivial⟩ ?_
            exact ih (i + 1) (by omega) (by omega)
  refine r_iconst (pc := 0) (nI 1) hC dX5_allowed_0 (by decide) ?_
  refine r_istore_n (pc := 1) hC dX5_allowed_1 (by decide) ?_
  refine r_iconst (pc := 2) (nI 1) hC dX5_allowed_2 (by decide) ?_
  refine r_istore_n (pc := 3) hC dX5_allowed_3 (by decide) ?_
  refine at_lv (lv' := [(0, .ref m), (1, .int (nI b)), (2, .int (nI (bset (okB σ b) (1)))), (3, .int (nI (1)))]) ⟨rfl, rfl, by rw [bset1 (show okB σ b 0 = true by show (opn σ 0 && hasR σ b 0) = true; rw [opn_0 hV, hasR_0]; rfl)]; rfl, rfl, trivial⟩ ?_
  exact hlp (nz σ - 1) 1 (by omega) (by omega)
abbrev rm_X5_wayOf : Room := { frames := 2, cells := 0, slots := 0, locals := 50 }
set_option maxHeartbeats 4000000 in
set_option maxRecDepth 100000 in
theorem cm_wayOf {l : Launch} {G : Ids} {S : Ps} {M : Nat → Nat} {σ : Sg} {m t : Nat} {b z : Nat} (hfl : l.stackTraces = false) (hM : RM S M σ m t) (hV : InvC σ) (hb : b < nb σ) (hz : z < nz σ) : Ct l (Cond.code yX5_wayOf cX5_wayOf 3 (some .int)) yX5_wayOf rm_X5_wayOf G [.ref m, .int (nI b), .int (nI z)] S (fun v S9 => v = some (.int (wayI σ b z)) ∧ S = S9) (fun _ _ => False) := by
  refine Ct.of hfl (by decide) (Nat.le_of_ble_eq_true rfl) (fun Γ V hC hR hT hI => ?_)
  have hn := hV.n
  have hb9 : bset (okB σ b) (nz σ) < 2 ^ 31 := Nat.lt_of_lt_of_le (bset_lt _ _) (Nat.pow_le_pow_right (by decide) (by omega))
  first | refine r_aload_n (pc := 0) hC dX5_wayOf_0 rfl ?_ | refine r_aload_nN (pc := 0) hC dX5_wayOf_0 rfl ?_
  first | refine r_aload_n (pc := 1) hC dX5_wayOf_1 rfl ?_ | refine r_aload_nN (pc := 1) hC dX5_wayOf_1 rfl ?_
  refine r_gf (pc := 2) (κ := 6) (j := 13) hC cls6 (by decide) kf_X5_35 hM.k6 (hM.a (j := 13) (by decide)) dX5_wayOf_2 ?_
  refine r_iload_n (pc := 5) hC dX5_wayOf_5 rfl ?_
  refine r_iald (pc := 6) hC dX5_wayOf_6 (hM.kd (j := 13) (by decide)) (hM.r13 (by assumption)).1 (hM.r13 (by assumption)).2.1 (hM.r13 (by assumption)).2.2 ?_
  refine r_iload_n (pc := 7) hC dX5_wayOf_7 rfl ?_
  first | refine r_aload_n (pc := 8) hC dX5_wayOf_8 rfl ?_ | refine r_aload_nN (pc := 8) hC dX5_wayOf_8 rfl ?_
  refine r_iload_n (pc := 9) hC dX5_wayOf_9 rfl ?_
  refine r_callV (pc := 10) hC (cm_allowed hC.fl hM hV hb) kv_X5_157 cls6 hM.k6 rfl rfl (Nat.le_of_ble_eq_true rfl) ⟨by decide, by decide, by decide, by decide⟩ dX5_wayOf_10 (fun _ _ h => h.elim) (fun v10 S10 h10 => ?_)
  obtain ⟨rfl, rfl⟩ := h10
  refine r_callV (pc := 13) hC (cm_steps hC.fl hM hV (ok := okB σ b) (hV.vb hb).1 hz hb9 (fun z hz => bs_bit hz)) kv_X5_87 cls6 hM.k6 rfl rfl (Nat.le_of_ble_eq_true rfl) ⟨by decide, by decide, by decide, by decide⟩ dX5_wayOf_13 (fun _ _ h => h.elim) (fun v13 S13 h13 => ?_)
  obtain ⟨rfl, rfl⟩ := h13
  refine r_iret (pc := 16) hC hR dX5_wayOf_16 ?_ (by decide) (by decide)
  exact ⟨rfl, rfl⟩
abbrev rm_X5_answer : Room := { frames := 3, cells := 0, slots := 0, locals := 74 }
set_option maxHeartbeats 4000000 in
set_option maxRecDepth 100000 in
theorem cm_ans {l : Launch} {G : Ids} {S : Ps} {M : Nat → Nat} {σ : Sg} {m t : Nat} {b d : Nat} (hfl : l.stackTraces = false) (hM : RM S M σ m t) (hV : InvC σ) (hb : b < nb σ) (hd : d < nd σ) : Ct l (Cond.code yX5_answer cX5_answer 4 (some .int)) yX5_answer rm_X5_answer G [.ref m, .int (nI b), .int (nI d)] S (fun v S9 => v = some (.int (nI (ans σ b d))) ∧ S = S9) (fun _ _ => False) := by
  refine Ct.of hfl (by decide) (Nat.le_of_ble_eq_true rfl) (fun Γ V hC hR hT hI => ?_)
  have hn := hV.n
  have hb2 := hV.vb hb
  have hp := hb2.1
  by_cases hh : oth σ d (plc σ b) = 0
  · skip
    first | refine r_aload_n (pc := 0) hC dX5_answer_0 rfl ?_ | refine r_aload_nN (pc := 0) hC dX5_answer_0 rfl ?_
    refine r_iload_n (pc := 1) hC dX5_answer_1 rfl ?_
    first | refine r_aload_n (pc := 2) hC dX5_answer_2 rfl ?_ | refine r_aload_nN (pc := 2) hC dX5_answer_2 rfl ?_
    refine r_gf (pc := 3) (κ := 6) (j := 13) hC cls6 (by decide) kf_X5_35 hM.k6 (hM.a (j := 13) (by decide)) dX5_answer_3 ?_
    refine r_iload_n (pc := 6) hC dX5_answer_6 rfl ?_
    refine r_iald (pc := 7) hC dX5_answer_7 (hM.kd (j := 13) (by decide)) (hM.r13 hb).1 (hM.r13 hb).2.1 (hM.r13 hb).2.2 ?_
    refine r_callV (pc := 8) hC (cm_across hC.fl hM hV hd hp) kv_X5_126 cls6 hM.k6 rfl rfl (Nat.le_of_ble_eq_true rfl) ⟨by decide, by decide, by decide, by decide⟩ dX5_answer_8 (fun _ _ h => h.elim) (fun v8 S8 h8 => ?_)
    obtain ⟨rfl, rfl⟩ := h8
    rw [acI_n hh]
    refine r_istore_n (pc := 11) hC dX5_answer_11 (by decide) ?_
    first | refine r_aload_n (pc := 12) hC dX5_answer_12 rfl ?_ | refine r_aload_nN (pc := 12) hC dX5_answer_12 rfl ?_
    refine r_gf (pc := 13) (κ := 6) (j := 16) hC cls6 (by decide) kf_X5_44 hM.k6 (hM.a (j := 16) (by decide)) dX5_answer_13 ?_
    refine r_iload_n (pc := 16) hC dX5_answer_16 rfl ?_
    refine r_zald (pc := 17) hC dX5_answer_17 (hM.kd (j := 16) (by decide)) (hM.r16 (by assumption)).1 (hM.r16 (by assumption)).2.1 (hM.r16 (by assumption)).2.2 ?_
    first | refine rb_if_eq (pc := 18) (tgt := 24) hC dX5_answer_18 (by decide) (fun c18 => ?_) (fun c18 => ?_) | refine rn_if_eq (pc := 18) (tgt := 24) hC dX5_answer_18 (by decide) (by omega) (fun c18 => ?_) (fun c18 => ?_) | refine ri_if_eq (pc := 18) (tgt := 24) hC dX5_answer_18 (by decide) (fun c18 => ?_) (fun c18 => ?_)
    · -- taken
      refine r_iload_n (pc := 24) hC dX5_answer_24 rfl ?_
      refine r_iconst (pc := 25) (-1) hC dX5_answer_25 (by decide) ?_
      refine r_m1_neN (pc := 26) (tgt := 31) hC dX5_answer_26 (by decide) ?_
      refine r_iconst (pc := 29) (nI 1) hC dX5_answer_29 (by decide) ?_
      refine r_iret (pc := 30) hC hR dX5_answer_30 ?_ (by decide) (by decide)
      exact ⟨by unfold ans; rw [if_neg (by omega), if_pos hh], rfl⟩
    · -- not
      refine r_bipush (pc := 21) (nI 8) hC dX5_answer_21 (by decide) ?_
      refine r_iret (pc := 23) hC hR dX5_answer_23 ?_ (by decide) (by decide)
      exact ⟨by unfold ans; rw [if_pos (by omega)], rfl⟩
  · skip
    first | refine r_aload_n (pc := 0) hC dX5_answer_0 rfl ?_ | refine r_aload_nN (pc := 0) hC dX5_answer_0 rfl ?_
    refine r_iload_n (pc := 1) hC dX5_answer_1 rfl ?_
    first | refine r_aload_n (pc := 2) hC dX5_answer_2 rfl ?_ | refine r_aload_nN (pc := 2) hC dX5_answer_2 rfl ?_
    refine r_gf (pc := 3) (κ := 6) (j := 13) hC cls6 (by decide) kf_X5_35 hM.k6 (hM.a (j := 13) (by decide)) dX5_answer_3 ?_
    refine r_iload_n (pc := 6) hC dX5_answer_6 rfl ?_
    refine r_iald (pc := 7) hC dX5_answer_7 (hM.kd (j := 13) (by decide)) (hM.r13 hb).1 (hM.r13 hb).2.1 (hM.r13 hb).2.2 ?_
    refine r_callV (pc := 8) hC (cm_across hC.fl hM hV hd hp) kv_X5_126 cls6 hM.k6 rfl rfl (Nat.le_of_ble_eq_true rfl) ⟨by decide, by decide, by decide, by decide⟩ dX5_answer_8 (fun _ _ h => h.elim) (fun v8 S8 h8 => ?_)
    obtain ⟨rfl, rfl⟩ := h8
    rw [acI_s hh]
    refine r_istore_n (pc := 11) hC dX5_answer_11 (by decide) ?_
    have ho := oth_lt hV hd hh
    first | refine r_aload_n (pc := 12) hC dX5_answer_12 rfl ?_ | refine r_aload_nN (pc := 12) hC dX5_answer_12 rfl ?_
    refine r_gf (pc := 13) (κ := 6) (j := 16) hC cls6 (by decide) kf_X5_44 hM.k6 (hM.a (j := 16) (by decide)) dX5_answer_13 ?_
    refine r_iload_n (pc := 16) hC dX5_answer_16 rfl ?_
    refine r_zald (pc := 17) hC dX5_answer_17 (hM.kd (j := 16) (by decide)) (hM.r16 (by assumption)).1 (hM.r16 (by assumption)).2.1 (hM.r16 (by assumption)).2.2 ?_
    first | refine rb_if_eq (pc := 18) (tgt := 24) hC dX5_answer_18 (by decide) (fun c18 => ?_) (fun c18 => ?_) | refine rn_if_eq (pc := 18) (tgt := 24) hC dX5_answer_18 (by decide) (by omega) (fun c18 => ?_) (fun c18 => ?_) | refine ri_if_eq (pc := 18) (tgt := 24) hC dX5_answer_18 (by decide) (fun c18 => ?_) (fun c18 => ?_)
    · -- taken
      refine r_iload_n (pc := 24) hC dX5_answer_24 rfl ?_
      refine r_iconst (pc := 25) (-1) hC dX5_answer_25 (by decide) ?_
      refine r_m1_neS (pc := 26) (tgt := 31) hC dX5_answer_26 (by decide) (by omega) ?_
      first | refine r_aload_n (pc := 31) hC dX5_answer_31 rfl ?_ | refine r_aload_nN (pc := 31) hC dX5_answer_31 rfl ?_
      refine r_gf (pc := 32) (κ := 6) (j := 2) hC cls6 (by decide) kf_X5_122 hM.k6 hM.s2 dX5_answer_32 ?_
      first | refine rb_if_eq (pc := 35) (tgt := 73) hC dX5_answer_35 (by decide) (fun c35 => ?_) (fun c35 => ?_) | refine rn_if_eq (pc := 35) (tgt := 73) hC dX5_answer_35 (by decide) (by omega) (fun c35 => ?_) (fun c35 => ?_) | refine ri_if_eq (pc := 35) (tgt := 73) hC dX5_answer_35 (by decide) (fun c35 => ?_) (fun c35 => ?_)
      · -- taken
        have hr := hV.r hb
        refine r_iload_n (pc := 73) hC dX5_answer_73 rfl ?_
        first | refine rb_if_eq (pc := 74) (tgt := 91) hC dX5_answer_74 (by decide) (fun c74 => ?_) (fun c74 => ?_) | refine rn_if_eq (pc := 74) (tgt := 91) hC dX5_answer_74 (by decide) (by omega) (fun c74 => ?_) (fun c74 => ?_) | refine ri_if_eq (pc := 74) (tgt := 91) hC dX5_answer_74 (by decide) (fun c74 => ?_) (fun c74 => ?_)
        · -- taken
          first | refine r_aload_n (pc := 91) hC dX5_answer_91 rfl ?_ | refine r_aload_nN (pc := 91) hC dX5_answer_91 rfl ?_
          refine r_iload_n (pc := 92) hC dX5_answer_92 rfl ?_
          refine r_callV (pc := 93) hC (cm_open hC.fl hM hV ho) kv_X5_94 cls6 hM.k6 rfl rfl (Nat.le_of_ble_eq_true rfl) ⟨by decide, by decide, by decide, by decide⟩ dX5_answer_93 (fun _ _ h => h.elim) (fun v93 S93 h93 => ?_)
          obtain ⟨rfl, rfl⟩ := h93
          first | refine rb_if_ne (pc := 96) (tgt := 101) hC dX5_answer_96 (by decide) (fun c96 => ?_) (fun c96 => ?_) | refine rn_if_ne (pc := 96) (tgt := 101) hC dX5_answer_96 (by decide) (by omega) (fun c96 => ?_) (fun c96 => ?_) | refine ri_if_ne (pc := 96) (tgt := 101) hC dX5_answer_96 (by decide) (fun c96 => ?_) (fun c96 => ?_)
          · -- taken
            refine r_iload_n (pc := 101) hC dX5_answer_101 rfl ?_
            first | refine rb_if_eq (pc := 102) (tgt := 124) hC dX5_answer_102 (by decide) (fun c102 => ?_) (fun c102 => ?_) | refine rn_if_eq (pc := 102) (tgt := 124) hC dX5_answer_102 (by decide) (by omega) (fun c102 => ?_) (fun c102 => ?_) | refine ri_if_eq (pc := 102) (tgt := 124) hC dX5_answer_102 (by decide) (fun c102 => ?_) (fun c102 => ?_)
            · -- taken
              first | refine r_aload_n (pc := 124) hC dX5_answer_124 rfl ?_ | refine r_aload_nN (pc := 124) hC dX5_answer_124 rfl ?_
              refine r_iload_n (pc := 125) hC dX5_answer_125 rfl ?_
              refine r_callV (pc := 126) hC (cm_excl hC.fl hM hV hd) kv_X5_135 cls6 hM.k6 rfl rfl (Nat.le_of_ble_eq_true rfl) ⟨by decide, by decide, by decide, by decide⟩ dX5_answer_126 (fun _ _ h => h.elim) (fun v126 S126 h126 => ?_)
              obtain ⟨rfl, rfl⟩ := h126
              first | refine rb_if_eq (pc := 129) (tgt := 134) hC dX5_answer_129 (by decide) (fun c129 => ?_) (fun c129 => ?_) | refine rn_if_eq (pc := 129) (tgt := 134) hC dX5_answer_129 (by decide) (by omega) (fun c129 => ?_) (fun c129 => ?_) | refine ri_if_eq (pc := 129) (tgt := 134) hC dX5_answer_129 (by decide) (fun c129 => ?_) (fun c129 => ?_)
              · -- taken
                first | refine r_aload_n (pc := 134) hC dX5_answer_134 rfl ?_ | refine r_aload_nN (pc := 134) hC dX5_answer_134 rfl ?_
                refine r_iload_n (pc := 135) hC dX5_answer_135 rfl ?_
                refine r_iload_n (pc := 136) hC dX5_answer_136 rfl ?_
                refine r_callV (pc := 137) hC (cm_nohost hC.fl hM hV hb ho) kv_X5_132 cls6 hM.k6 rfl rfl (Nat.le_of_ble_eq_true rfl) ⟨by decide, by decide, by decide, by decide⟩ dX5_answer_137 (fun _ _ h => h.elim) (fun v137 S137 h137 => ?_)
                obtain ⟨rfl, rfl⟩ := h137
                first | refine rb_if_eq (pc := 140) (tgt := 146) hC dX5_answer_140 (by decide) (fun c140 => ?_) (fun c140 => ?_) | refine rn_if_eq (pc := 140) (tgt := 146) hC dX5_answer_140 (by decide) (by omega) (fun c140 => ?_) (fun c140 => ?_) | refine ri_if_eq (pc := 140) (tgt := 146) hC dX5_answer_140 (by decide) (fun c140 => ?_) (fun c140 => ?_)
                · -- taken
                  first | refine r_aload_n (pc := 146) hC dX5_answer_146 rfl ?_ | refine r_aload_nN (pc := 146) hC dX5_answer_146 rfl ?_
                  refine r_iload_n (pc := 147) hC dX5_answer_147 rfl ?_
                  refine r_callV (pc := 148) hC (cm_leaves hC.fl hM hV hb) kv_X5_138 cls6 hM.k6 rfl rfl (Nat.le_of_ble_eq_true rfl) ⟨by decide, by decide, by decide, by decide⟩ dX5_answer_148 (fun _ _ h => h.elim) (fun v148 S148 h148 => ?_)
                  obtain ⟨rfl, rfl⟩ := h148
                  first | refine rb_if_eq (pc := 151) (tgt := 159) hC dX5_answer_151 (by decide) (fun c151 => ?_) (fun c151 => ?_) | refine rn_if_eq (pc := 151) (tgt := 159) hC dX5_answer_151 (by decide) (by omega) (fun c151 => ?_) (fun c151 => ?_) | refine ri_if_eq (pc := 151) (tgt := 159) hC dX5_answer_151 (by decide) (fun c151 => ?_) (fun c151 => ?_)
                  · -- taken
                    refine r_iconst (pc := 159) (nI 0) hC dX5_answer_159 (by decide) ?_
                    refine r_iret (pc := 160) hC hR dX5_answer_160 ?_ (by decide) (by decide)
                    have e0 : ans σ b d = ansP σ b d (oth σ d (plc σ b) - 1) := by unfold ans; rw [if_neg (by omega), if_neg hh, if_neg (by omega)]
                    have e1 : hasR σ b (oth σ d (plc σ b) - 1) = true := by rw [show oth σ d (plc σ b) - 1 = 0 by omega]; exact hasR_0
                    have e2 : ¬ cap σ (oth σ d (plc σ b) - 1) ≤ popc (insB σ (oth σ d (plc σ b) - 1)) := by rw [show oth σ d (plc σ b) - 1 = 0 by omega, hV.2.2.1.1]; have := popc_le _ (insB_lt hn.2.2.2.1 0); omega
                    exact ⟨by rw [e0]; unfold ansP; rw [if_neg (by rw [e1]; decide), if_neg (by rw [c96]; decide), if_neg e2, if_neg (by rw [c129]; decide), if_neg (by rw [c140]; decide), if_neg (by rw [c151]; decide)], rfl⟩
                  · -- not
                    refine r_bipush (pc := 154) (nI 7) hC dX5_answer_154 (by decide) ?_
                    refine r_goto (pc := 156) (tgt := 160) hC dX5_answer_156 (by decide) ?_
                    refine r_iret (pc := 160) hC hR dX5_answer_160 ?_ (by decide) (by decide)
                    have e0 : ans σ b d = ansP σ b d (oth σ d (plc σ b) - 1) := by unfold ans; rw [if_neg (by omega), if_neg hh, if_neg (by omega)]
                    have e1 : hasR σ b (oth σ d (plc σ b) - 1) = true := by rw [show oth σ d (plc σ b) - 1 = 0 by omega]; exact hasR_0
                    have e2 : ¬ cap σ (oth σ d (plc σ b) - 1) ≤ popc (insB σ (oth σ d (plc σ b) - 1)) := by rw [show oth σ d (plc σ b) - 1 = 0 by omega, hV.2.2.1.1]; have := popc_le _ (insB_lt hn.2.2.2.1 0); omega
                    exact ⟨by rw [e0]; unfold ansP; rw [if_neg (by rw [e1]; decide), if_neg (by rw [c96]; decide), if_neg e2, if_neg (by rw [c129]; decide), if_neg (by rw [c140]; decide), if_pos c151], rfl⟩
                · -- not
                  refine r_bipush (pc := 143) (nI 6) hC dX5_answer_143 (by decide) ?_
                  refine r_iret (pc := 145) hC hR dX5_answer_145 ?_ (by decide) (by decide)
                  have e0 : ans σ b d = ansP σ b d (oth σ d (plc σ b) - 1) := by unfold ans; rw [if_neg (by omega), if_neg hh, if_neg (by omega)]
                  have e1 : hasR σ b (oth σ d (plc σ b) - 1) = true := by rw [show oth σ d (plc σ b) - 1 = 0 by omega]; exact hasR_0
                  have e2 : ¬ cap σ (oth σ d (plc σ b) - 1) ≤ popc (insB σ (oth σ d (plc σ b) - 1)) := by rw [show oth σ d (plc σ b) - 1 = 0 by omega, hV.2.2.1.1]; have := popc_le _ (insB_lt hn.2.2.2.1 0); omega
                  exact ⟨by rw [e0]; unfold ansP; rw [if_neg (by rw [e1]; decide), if_neg (by rw [c96]; decide), if_neg e2, if_neg (by rw [c129]; decide), if_pos c140], rfl⟩
              · -- not
                refine r_iconst (pc := 132) (nI 5) hC dX5_answer_132 (by decide) ?_
                refine r_iret (pc := 133) hC hR dX5_answer_133 ?_ (by decide) (by decide)
                have e0 : ans σ b d = ansP σ b d (oth σ d (plc σ b) - 1) := by unfold ans; rw [if_neg (by omega), if_neg hh, if_neg (by omega)]
                have e1 : hasR σ b (oth σ d (plc σ b) - 1) = true := by rw [show oth σ d (plc σ b) - 1 = 0 by omega]; exact hasR_0
                have e2 : ¬ cap σ (oth σ d (plc σ b) - 1) ≤ popc (insB σ (oth σ d (plc σ b) - 1)) := by rw [show oth σ d (plc σ b) - 1 = 0 by omega, hV.2.2.1.1]; have := popc_le _ (insB_lt hn.2.2.2.1 0); omega
                exact ⟨by rw [e0]; unfold ansP; rw [if_neg (by rw [e1]; decide), if_neg (by rw [c96]; decide), if_neg e2, if_pos c129], rfl⟩
            · -- not
              have hp10 := popc_le _ (insB_lt hn.2.2.2.1 (oth σ d (plc σ b) - 1))
              have hvz := hV.vz ho
              first | refine r_aload_n (pc := 105) hC dX5_answer_105 rfl ?_ | refine r_aload_nN (pc := 105) hC dX5_answer_105 rfl ?_
              refine r_iload_n (pc := 106) hC dX5_answer_106 rfl ?_
              refine r_callV (pc := 107) hC (cm_inside hC.fl hM hV ho) kv_X5_75 cls6 hM.k6 rfl rfl (Nat.le_of_ble_eq_true rfl) ⟨by decide, by decide, by decide, by decide⟩ dX5_answer_107 (fun _ _ h => h.elim) (fun v107 S107 h107 => ?_)
              obtain ⟨rfl, rfl⟩ := h107
              refine r_callS (pc := 110) hC (ct_bitc hC.fl (insB_lt hn.2.2.2.1 _)) ks_X5_78 rfl rfl (Nat.le_of_ble_eq_true rfl) ⟨by decide, by decide, by decide, by decide⟩ dX5_answer_110 (fun _ _ h => h.elim) (fun v110 S110 h110 => ?_)
              obtain ⟨rfl, rfl⟩ := h110
              first | refine r_aload_n (pc := 113) hC dX5_answer_113 rfl ?_ | refine r_aload_nN (pc := 113) hC dX5_answer_113 rfl ?_
              refine r_gf (pc := 114) (κ := 6) (j := 4) hC cls6 (by decide) kf_X5_13 hM.k6 (hM.a (j := 4) (by decide)) dX5_answer_114 ?_
              refine r_iload_n (pc := 117) hC dX5_answer_117 rfl ?_
              refine r_iald (pc := 118) hC dX5_answer_118 (hM.kd (j := 4) (by decide)) (hM.r4 (by omega) ho).1 (hM.r4 (by omega) ho).2.1 (hM.r4 (by omega) ho).2.2 ?_
              first | refine rn_icmp_lt (pc := 119) (tgt := 124) hC dX5_answer_119 (by decide) (by omega) (by omega) (fun c119 => ?_) (fun c119 => ?_) | refine ri_icmp_lt (pc := 119) (tgt := 124) hC dX5_answer_119 (by decide) (fun c119 => ?_) (fun c119 => ?_)
              · -- taken
                first | refine r_aload_n (pc := 124) hC dX5_answer_124 rfl ?_ | refine r_aload_nN (pc := 124) hC dX5_answer_124 rfl ?_
                refine r_iload_n (pc := 125) hC dX5_answer_125 rfl ?_
                refine r_callV (pc := 126) hC (cm_excl hC.fl hM hV hd) kv_X5_135 cls6 hM.k6 rfl rfl (Nat.le_of_ble_eq_true rfl) ⟨by decide, by decide, by decide, by decide⟩ dX5_answer_126 (fun _ _ h => h.elim) (fun v126 S126 h126 => ?_)
                obtain ⟨rfl, rfl⟩ := h126
                first | refine rb_if_eq (pc := 129) (tgt := 134) hC dX5_answer_129 (by decide) (fun c129 => ?_) (fun c129 => ?_) | refine rn_if_eq (pc := 129) (tgt := 134) hC dX5_answer_129 (by decide) (by omega) (fun c129 => ?_) (fun c129 => ?_) | refine ri_if_eq (pc := 129) (tgt := 134) hC dX5_answer_129 (by decide) (fun c129 => ?_) (fun c129 => ?_)
                · -- taken
                  first | refine r_aload_n (pc := 134) hC dX5_answer_134 rfl ?_ | refine r_aload_nN (pc := 134) hC dX5_answer_134 rfl ?_
                  refine r_iload_n (pc := 135) hC dX5_answer_135 rfl ?_
                  refine r_iload_n (pc := 136) hC dX5_answer_136 rfl ?_
                  refine r_callV (pc := 137) hC (cm_nohost hC.fl hM hV hb ho) kv_X5_132 cls6 hM.k6 rfl rfl (Nat.le_of_ble_eq_true rfl) ⟨by decide, by decide, by decide, by decide⟩ dX5_answer_137 (fun _ _ h => h.elim) (fun v137 S137 h137 => ?_)
                  obtain ⟨rfl, rfl⟩ := h137
                  first | refine rb_if_eq (pc := 140) (tgt := 146) hC dX5_answer_140 (by decide) (fun c140 => ?_) (fun c140 => ?_) | refine rn_if_eq (pc := 140) (tgt := 146) hC dX5_answer_140 (by decide) (by omega) (fun c140 => ?_) (fun c140 => ?_) | refine ri_if_eq (pc := 140) (tgt := 146) hC dX5_answer_140 (by decide) (fun c140 => ?_) (fun c140 => ?_)
                  · -- taken
                    first | refine r_aload_n (pc := 146) hC dX5_answer_146 rfl ?_ | refine r_aload_nN (pc := 146) hC dX5_answer_146 rfl ?_
                    refine r_iload_n (pc := 147) hC dX5_answer_147 rfl ?_
                    refine r_callV (pc := 148) hC (cm_leaves hC.fl hM hV hb) kv_X5_138 cls6 hM.k6 rfl rfl (Nat.le_of_ble_eq_true rfl) ⟨by decide, by decide, by decide, by decide⟩ dX5_answer_148 (fun _ _ h => h.elim) (fun v148 S148 h148 => ?_)
                    obtain ⟨rfl, rfl⟩ := h148
                    first | refine rb_if_eq (pc := 151) (tgt := 159) hC dX5_answer_151 (by decide) (fun c151 => ?_) (fun c151 => ?_) | refine rn_if_eq (pc := 151) (tgt := 159) hC dX5_answer_151 (by decide) (by omega) (fun c151 => ?_) (fun c151 => ?_) | refine ri_if_eq (pc := 151) (tgt := 159) hC dX5_answer_151 (by decide) (fun c151 => ?_) (fun c151 => ?_)
                    · -- taken
                      refine r_iconst (pc := 159) (nI 0) hC dX5_answer_159 (by decide) ?_
                      refine r_iret (pc := 160) hC hR dX5_answer_160 ?_ (by decide) (by decide)
                      have e0 : ans σ b d = ansP σ b d (oth σ d (plc σ b) - 1) := by unfold ans; rw [if_neg (by omega), if_neg hh, if_neg (by omega)]
                      have e1 : hasR σ b (oth σ d (plc σ b) - 1) = true := by rw [show oth σ d (plc σ b) - 1 = 0 by omega]; exact hasR_0
                      have e2 : ¬ cap σ (oth σ d (plc σ b) - 1) ≤ popc (insB σ (oth σ d (plc σ b) - 1)) := by omega
                      exact ⟨by rw [e0]; unfold ansP; rw [if_neg (by rw [e1]; decide), if_neg (by rw [c96]; decide), if_neg e2, if_neg (by rw [c129]; decide), if_neg (by rw [c140]; decide), if_neg (by rw [c151]; decide)], rfl⟩
                    · -- not
                      refine r_bipush (pc := 154) (nI 7) hC dX5_answer_154 (by decide) ?_
                      refine r_goto (pc := 156) (tgt := 160) hC dX5_answer_156 (by decide) ?_
                      refine r_iret (pc := 160) hC hR dX5_answer_160 ?_ (by decide) (by decide)
                      have e0 : ans σ b d = ansP σ b d (oth σ d (plc σ b) - 1) := by unfold ans; rw [if_neg (by omega), if_neg hh, if_neg (by omega)]
                      have e1 : hasR σ b (oth σ d (plc σ b) - 1) = true := by rw [show oth σ d (plc σ b) - 1 = 0 by omega]; exact hasR_0
                      have e2 : ¬ cap σ (oth σ d (plc σ b) - 1) ≤ popc (insB σ (oth σ d (plc σ b) - 1)) := by omega
                      exact ⟨by rw [e0]; unfold ansP; rw [if_neg (by rw [e1]; decide), if_neg (by rw [c96]; decide), if_neg e2, if_neg (by rw [c129]; decide), if_neg (by rw [c140]; decide), if_pos c151], rfl⟩
                  · -- not
                    refine r_bipush (pc := 143) (nI 6) hC dX5_answer_143 (by decide) ?_
                    refine r_iret (pc := 145) hC hR dX5_answer_145 ?_ (by decide) (by decide)
                    have e0 : ans σ b d = ansP σ b d (oth σ d (plc σ b) - 1) := by unfold ans; rw [if_neg (by omega), if_neg hh, if_neg (by omega)]
                    have e1 : hasR σ b (oth σ d (plc σ b) - 1) = true := by rw [show oth σ d (plc σ b) - 1 = 0 by omega]; exact hasR_0
                    have e2 : ¬ cap σ (oth σ d (plc σ b) - 1) ≤ popc (insB σ (oth σ d (plc σ b) - 1)) := by omega
                    exact ⟨by rw [e0]; unfold ansP; rw [if_neg (by rw [e1]; decide), if_neg (by rw [c96]; decide), if_neg e2, if_neg (by rw [c129]; decide), if_pos c140], rfl⟩
                · -- not
                  refine r_iconst (pc := 132) (nI 5) hC dX5_answer_132 (by decide) ?_
                  refine r_iret (pc := 133) hC hR dX5_answer_133 ?_ (by decide) (by decide)
                  have e0 : ans σ b d = ansP σ b d (oth σ d (plc σ b) - 1) := by unfold ans; rw [if_neg (by omega), if_neg hh, if_neg (by omega)]
                  have e1 : hasR σ b (oth σ d (plc σ b) - 1) = true := by rw [show oth σ d (plc σ b) - 1 = 0 by omega]; exact hasR_0
                  have e2 : ¬ cap σ (oth σ d (plc σ b) - 1) ≤ popc (insB σ (oth σ d (plc σ b) - 1)) := by omega
                  exact ⟨by rw [e0]; unfold ansP; rw [if_neg (by rw [e1]; decide), if_neg (by rw [c96]; decide), if_neg e2, if_pos c129], rfl⟩
              · -- not
                refine r_iconst (pc := 122) (nI 4) hC dX5_answer_122 (by decide) ?_
                refine r_iret (pc := 123) hC hR dX5_answer_123 ?_ (by decide) (by decide)
                have e0 : ans σ b d = ansP σ b d (oth σ d (plc σ b) - 1) := by unfold ans; rw [if_neg (by omega), if_neg hh, if_neg (by omega)]
                have e1 : hasR σ b (oth σ d (plc σ b) - 1) = true := by rw [show oth σ d (plc σ b) - 1 = 0 by omega]; exact hasR_0
                exact ⟨by rw [e0]; unfold ansP; rw [if_neg (by rw [e1]; decide), if_neg (by rw [c96]; decide), if_pos (by omega)], rfl⟩
          · -- not
            refine r_iconst (pc := 99) (nI 3) hC dX5_answer_99 (by decide) ?_
            refine r_iret (pc := 100) hC hR dX5_answer_100 ?_ (by decide) (by decide)
            have e0 : ans σ b d = ansP σ b d (oth σ d (plc σ b) - 1) := by unfold ans; rw [if_neg (by omega), if_neg hh, if_neg (by omega)]
            have e1 : hasR σ b (oth σ d (plc σ b) - 1) = true := by rw [show oth σ d (plc σ b) - 1 = 0 by omega]; exact hasR_0
            exact ⟨by rw [e0]; unfold ansP; rw [if_neg (by rw [e1]; decide), if_pos c96], rfl⟩
        · -- not
          first | refine r_aload_n (pc := 77) hC dX5_answer_77 rfl ?_ | refine r_aload_nN (pc := 77) hC dX5_answer_77 rfl ?_
          refine r_iload_n (pc := 78) hC dX5_answer_78 rfl ?_
          refine r_callV (pc := 79) hC (cm_rights hC.fl hM hV hb) kv_X5_115 cls6 hM.k6 rfl rfl (Nat.le_of_ble_eq_true rfl) ⟨by decide, by decide, by decide, by decide⟩ dX5_answer_79 (fun _ _ h => h.elim) (fun v79 S79 h79 => ?_)
          obtain ⟨rfl, rfl⟩ := h79
          refine r_iload_n (pc := 82) hC dX5_answer_82 rfl ?_
          refine r_callS (pc := 83) hC (cm_has hC.fl (s := rgs σ b) (z := oth σ d (plc σ b) - 1) (by omega) (by omega)) ks_X5_83 rfl rfl (Nat.le_of_ble_eq_true rfl) ⟨by decide, by decide, by decide, by decide⟩ dX5_answer_83 (fun _ _ h => h.elim) (fun v83 S83 h83 => ?_)
          obtain ⟨rfl, rfl⟩ := h83
          first | refine rb_if_ne (pc := 86) (tgt := 91) hC dX5_answer_86 (by decide) (fun c86 => ?_) (fun c86 => ?_) | refine rn_if_ne (pc := 86) (tgt := 91) hC dX5_answer_86 (by decide) (by omega) (fun c86 => ?_) (fun c86 => ?_) | refine ri_if_ne (pc := 86) (tgt := 91) hC dX5_answer_86 (by decide) (fun c86 => ?_) (fun c86 => ?_)
          · -- taken
            first | refine r_aload_n (pc := 91) hC dX5_answer_91 rfl ?_ | refine r_aload_nN (pc := 91) hC dX5_answer_91 rfl ?_
            refine r_iload_n (pc := 92) hC dX5_answer_92 rfl ?_
            refine r_callV (pc := 93) hC (cm_open hC.fl hM hV ho) kv_X5_94 cls6 hM.k6 rfl rfl (Nat.le_of_ble_eq_true rfl) ⟨by decide, by decide, by decide, by decide⟩ dX5_answer_93 (fun _ _ h => h.elim) (fun v93 S93 h93 => ?_)
            obtain ⟨rfl, rfl⟩ := h93
            first | refine rb_if_ne (pc := 96) (tgt := 101) hC dX5_answer_96 (by decide) (fun c96 => ?_) (fun c96 => ?_) | refine rn_if_ne (pc := 96) (tgt := 101) hC dX5_answer_96 (by decide) (by omega) (fun c96 => ?_) (fun c96 => ?_) | refine ri_if_ne (pc := 96) (tgt := 101) hC dX5_answer_96 (by decide) (fun c96 => ?_) (fun c96 => ?_)
            · -- taken
              refine r_iload_n (pc := 101) hC dX5_answer_101 rfl ?_
              first | refine rb_if_eq (pc := 102) (tgt := 124) hC dX5_answer_102 (by decide) (fun c102 => ?_) (fun c102 => ?_) | refine rn_if_eq (pc := 102) (tgt := 124) hC dX5_answer_102 (by decide) (by omega) (fun c102 => ?_) (fun c102 => ?_) | refine ri_if_eq (pc := 102) (tgt := 124) hC dX5_answer_102 (by decide) (fun c102 => ?_) (fun c102 => ?_)
              · -- taken
                first | refine r_aload_n (pc := 124) hC dX5_answer_124 rfl ?_ | refine r_aload_nN (pc := 124) hC dX5_answer_124 rfl ?_
                refine r_iload_n (pc := 125) hC dX5_answer_125 rfl ?_
                refine r_callV (pc := 126) hC (cm_excl hC.fl hM hV hd) kv_X5_135 cls6 hM.k6 rfl rfl (Nat.le_of_ble_eq_true rfl) ⟨by decide, by decide, by decide, by decide⟩ dX5_answer_126 (fun _ _ h => h.elim) (fun v126 S126 h126 => ?_)
                obtain ⟨rfl, rfl⟩ := h126
                first | refine rb_if_eq (pc := 129) (tgt := 134) hC dX5_answer_129 (by decide) (fun c129 => ?_) (fun c129 => ?_) | refine rn_if_eq (pc := 129) (tgt := 134) hC dX5_answer_129 (by decide) (by omega) (fun c129 => ?_) (fun c129 => ?_) | refine ri_if_eq (pc := 129) (tgt := 134) hC dX5_answer_129 (by decide) (fun c129 => ?_) (fun c129 => ?_)
                · -- taken
                  first | refine r_aload_n (pc := 134) hC dX5_answer_134 rfl ?_ | refine r_aload_nN (pc := 134) hC dX5_answer_134 rfl ?_
                  refine r_iload_n (pc := 135) hC dX5_answer_135 rfl ?_
                  refine r_iload_n (pc := 136) hC dX5_answer_136 rfl ?_
                  refine r_callV (pc := 137) hC (cm_nohost hC.fl hM hV hb ho) kv_X5_132 cls6 hM.k6 rfl rfl (Nat.le_of_ble_eq_true rfl) ⟨by decide, by decide, by decide, by decide⟩ dX5_answer_137 (fun _ _ h => h.elim) (fun v137 S137 h137 => ?_)
                  obtain ⟨rfl, rfl⟩ := h137
                  first | refine rb_if_eq (pc := 140) (tgt := 146) hC dX5_answer_140 (by decide) (fun c140 => ?_) (fun c140 => ?_) | refine rn_if_eq (pc := 140) (tgt := 146) hC dX5_answer_140 (by decide) (by omega) (fun c140 => ?_) (fun c140 => ?_) | refine ri_if_eq (pc := 140) (tgt := 146) hC dX5_answer_140 (by decide) (fun c140 => ?_) (fun c140 => ?_)
                  · -- taken
                    first | refine r_aload_n (pc := 146) hC dX5_answer_146 rfl ?_ | refine r_aload_nN (pc := 146) hC dX5_answer_146 rfl ?_
                    refine r_iload_n (pc := 147) hC dX5_answer_147 rfl ?_
                    refine r_callV (pc := 148) hC (cm_leaves hC.fl hM hV hb) kv_X5_138 cls6 hM.k6 rfl rfl (Nat.le_of_ble_eq_true rfl) ⟨by decide, by decide, by decide, by decide⟩ dX5_answer_148 (fun _ _ h => h.elim) (fun v148 S148 h148 => ?_)
                    obtain ⟨rfl, rfl⟩ := h148
                    first | refine rb_if_eq (pc := 151) (tgt := 159) hC dX5_answer_151 (by decide) (fun c151 => ?_) (fun c151 => ?_) | refine rn_if_eq (pc := 151) (tgt := 159) hC dX5_answer_151 (by decide) (by omega) (fun c151 => ?_) (fun c151 => ?_) | refine ri_if_eq (pc := 151) (tgt := 159) hC dX5_answer_151 (by decide) (fun c151 => ?_) (fun c151 => ?_)
                    · -- taken
                      refine r_iconst (pc := 159) (nI 0) hC dX5_answer_159 (by decide) ?_
                      refine r_iret (pc := 160) hC hR dX5_answer_160 ?_ (by decide) (by decide)
                      have e0 : ans σ b d = ansP σ b d (oth σ d (plc σ b) - 1) := by unfold ans; rw [if_neg (by omega), if_neg hh, if_neg (by omega)]
                      have e1 : hasR σ b (oth σ d (plc σ b) - 1) = true := by exact hasR_iff.mpr (Or.inr (of_decide_eq_true c86))
                      have e2 : ¬ cap σ (oth σ d (plc σ b) - 1) ≤ popc (insB σ (oth σ d (plc σ b) - 1)) := by rw [show oth σ d (plc σ b) - 1 = 0 by omega, hV.2.2.1.1]; have := popc_le _ (insB_lt hn.2.2.2.1 0); omega
                      exact ⟨by rw [e0]; unfold ansP; rw [if_neg (by rw [e1]; decide), if_neg (by rw [c96]; decide), if_neg e2, if_neg (by rw [c129]; decide), if_neg (by rw [c140]; decide), if_neg (by rw [c151]; decide)], rfl⟩
                    · -- not
                      refine r_bipush (pc := 154) (nI 7) hC dX5_answer_154 (by decide) ?_
                      refine r_goto (pc := 156) (tgt := 160) hC dX5_answer_156 (by decide) ?_
                      refine r_iret (pc := 160) hC hR dX5_answer_160 ?_ (by decide) (by decide)
                      have e0 : ans σ b d = ansP σ b d (oth σ d (plc σ b) - 1) := by unfold ans; rw [if_neg (by omega), if_neg hh, if_neg (by omega)]
                      have e1 : hasR σ b (oth σ d (plc σ b) - 1) = true := by exact hasR_iff.mpr (Or.inr (of_decide_eq_true c86))
                      have e2 : ¬ cap σ (oth σ d (plc σ b) - 1) ≤ popc (insB σ (oth σ d (plc σ b) - 1)) := by rw [show oth σ d (plc σ b) - 1 = 0 by omega, hV.2.2.1.1]; have := popc_le _ (insB_lt hn.2.2.2.1 0); omega
                      exact ⟨by rw [e0]; unfold ansP; rw [if_neg (by rw [e1]; decide), if_neg (by rw [c96]; decide), if_neg e2, if_neg (by rw [c129]; decide), if_neg (by rw [c140]; decide), if_pos c151], rfl⟩
                  · -- not
                    refine r_bipush (pc := 143) (nI 6) hC dX5_answer_143 (by decide) ?_
                    refine r_iret (pc := 145) hC hR dX5_answer_145 ?_ (by decide) (by decide)
                    have e0 : ans σ b d = ansP σ b d (oth σ d (plc σ b) - 1) := by unfold ans; rw [if_neg (by omega), if_neg hh, if_neg (by omega)]
                    have e1 : hasR σ b (oth σ d (plc σ b) - 1) = true := by exact hasR_iff.mpr (Or.inr (of_decide_eq_true c86))
                    have e2 : ¬ cap σ (oth σ d (plc σ b) - 1) ≤ popc (insB σ (oth σ d (plc σ b) - 1)) := by rw [show oth σ d (plc σ b) - 1 = 0 by omega, hV.2.2.1.1]; have := popc_le _ (insB_lt hn.2.2.2.1 0); omega
                    exact ⟨by rw [e0]; unfold ansP; rw [if_neg (by rw [e1]; decide), if_neg (by rw [c96]; decide), if_neg e2, if_neg (by rw [c129]; decide), if_pos c140], rfl⟩
                · -- not
                  refine r_iconst (pc := 132) (nI 5) hC dX5_answer_132 (by decide) ?_
                  refine r_iret (pc := 133) hC hR dX5_answer_133 ?_ (by decide) (by decide)
                  have e0 : ans σ b d = ansP σ b d (oth σ d (plc σ b) - 1) := by unfold ans; rw [if_neg (by omega), if_neg hh, if_neg (by omega)]
                  have e1 : hasR σ b (oth σ d (plc σ b) - 1) = true := by exact hasR_iff.mpr (Or.inr (of_decide_eq_true c86))
                  have e2 : ¬ cap σ (oth σ d (plc σ b) - 1) ≤ popc (insB σ (oth σ d (plc σ b) - 1)) := by rw [show oth σ d (plc σ b) - 1 = 0 by omega, hV.2.2.1.1]; have := popc_le _ (insB_lt hn.2.2.2.1 0); omega
                  exact ⟨by rw [e0]; unfold ansP; rw [if_neg (by rw [e1]; decide), if_neg (by rw [c96]; decide), if_neg e2, if_pos c129], rfl⟩
              · -- not
                have hp10 := popc_le _ (insB_lt hn.2.2.2.1 (oth σ d (plc σ b) - 1))
                have hvz := hV.vz ho
                first | refine r_aload_n (pc := 105) hC dX5_answer_105 rfl ?_ | refine r_aload_nN (pc := 105) hC dX5_answer_105 rfl ?_
                refine r_iload_n (pc := 106) hC dX5_answer_106 rfl ?_
                refine r_callV (pc := 107) hC (cm_inside hC.fl hM hV ho) kv_X5_75 cls6 hM.k6 rfl rfl (Nat.le_of_ble_eq_true rfl) ⟨by decide, by decide, by decide, by decide⟩ dX5_answer_107 (fun _ _ h => h.elim) (fun v107 S107 h107 => ?_)
                obtain ⟨rfl, rfl⟩ := h107
                refine r_callS (pc := 110) hC (ct_bitc hC.fl (insB_lt hn.2.2.2.1 _)) ks_X5_78 rfl rfl (Nat.le_of_ble_eq_true rfl) ⟨by decide, by decide, by decide, by decide⟩ dX5_answer_110 (fun _ _ h => h.elim) (fun v110 S110 h110 => ?_)
                obtain ⟨rfl, rfl⟩ := h110
                first | refine r_aload_n (pc := 113) hC dX5_answer_113 rfl ?_ | refine r_aload_nN (pc := 113) hC dX5_answer_113 rfl ?_
                refine r_gf (pc := 114) (κ := 6) (j := 4) hC cls6 (by decide) kf_X5_13 hM.k6 (hM.a (j := 4) (by decide)) dX5_answer_114 ?_
                refine r_iload_n (pc := 117) hC dX5_answer_117 rfl ?_
                refine r_iald (pc := 118) hC dX5_answer_118 (hM.kd (j := 4) (by decide)) (hM.r4 (by omega) ho).1 (hM.r4 (by omega) ho).2.1 (hM.r4 (by omega) ho).2.2 ?_
                first | refine rn_icmp_lt (pc := 119) (tgt := 124) hC dX5_answer_119 (by decide) (by omega) (by omega) (fun c119 => ?_) (fun c119 => ?_) | refine ri_icmp_lt (pc := 119) (tgt := 124) hC dX5_answer_119 (by decide) (fun c119 => ?_) (fun c119 => ?_)
                · -- taken
                  first | refine r_aload_n (pc := 124) hC dX5_answer_124 rfl ?_ | refine r_aload_nN (pc := 124) hC dX5_answer_124 rfl ?_
                  refine r_iload_n (pc := 125) hC dX5_answer_125 rfl ?_
                  refine r_callV (pc := 126) hC (cm_excl hC.fl hM hV hd) kv_X5_135 cls6 hM.k6 rfl rfl (Nat.le_of_ble_eq_true rfl) ⟨by decide, by decide, by decide, by decide⟩ dX5_answer_126 (fun _ _ h => h.elim) (fun v126 S126 h126 => ?_)
                  obtain ⟨rfl, rfl⟩ := h126
                  first | refine rb_if_eq (pc := 129) (tgt := 134) hC dX5_answer_129 (by decide) (fun c129 => ?_) (fun c129 => ?_) | refine rn_if_eq (pc := 129) (tgt := 134) hC dX5_answer_129 (by decide) (by omega) (fun c129 => ?_) (fun c129 => ?_) | refine ri_if_eq (pc := 129) (tgt := 134) hC dX5_answer_129 (by decide) (fun c129 => ?_) (fun c129 => ?_)
                  · -- taken
                    first | refine r_aload_n (pc := 134) hC dX5_answer_134 rfl ?_ | refine r_aload_nN (pc := 134) hC dX5_answer_134 rfl ?_
                    refine r_iload_n (pc := 135) hC dX5_answer_135 rfl ?_
                    refine r_iload_n (pc := 136) hC dX5_answer_136 rfl ?_
                    refine r_callV (pc := 137) hC (cm_nohost hC.fl hM hV hb ho) kv_X5_132 cls6 hM.k6 rfl rfl (Nat.le_of_ble_eq_true rfl) ⟨by decide, by decide, by decide, by decide⟩ dX5_answer_137 (fun _ _ h => h.elim) (fun v137 S137 h137 => ?_)
                    obtain ⟨rfl, rfl⟩ := h137
                    first | refine rb_if_eq (pc := 140) (tgt := 146) hC dX5_answer_140 (by decide) (fun c140 => ?_) (fun c140 => ?_) | refine rn_if_eq (pc := 140) (tgt := 146) hC dX5_answer_140 (by decide) (by omega) (fun c140 => ?_) (fun c140 => ?_) | refine ri_if_eq (pc := 140) (tgt := 146) hC dX5_answer_140 (by decide) (fun c140 => ?_) (fun c140 => ?_)
                    · -- taken
                      first | refine r_aload_n (pc := 146) hC dX5_answer_146 rfl ?_ | refine r_aload_nN (pc := 146) hC dX5_answer_146 rfl ?_
                      refine r_iload_n (pc := 147) hC dX5_answer_147 rfl ?_
                      refine r_callV (pc := 148) hC (cm_leaves hC.fl hM hV hb) kv_X5_138 cls6 hM.k6 rfl rfl (Nat.le_of_ble_eq_true rfl) ⟨by decide, by decide, by decide, by decide⟩ dX5_answer_148 (fun _ _ h => h.elim) (fun v148 S148 h148 => ?_)
                      obtain ⟨rfl, rfl⟩ := h148
                      first | refine rb_if_eq (pc := 151) (tgt := 159) hC dX5_answer_151 (by decide) (fun c151 => ?_) (fun c151 => ?_) | refine rn_if_eq (pc := 151) (tgt := 159) hC dX5_answer_151 (by decide) (by omega) (fun c151 => ?_) (fun c151 => ?_) | refine ri_if_eq (pc := 151) (tgt := 159) hC dX5_answer_151 (by decide) (fun c151 => ?_) (fun c151 => ?_)
                      · -- taken
                        refine r_iconst (pc := 159) (nI 0) hC dX5_answer_159 (by decide) ?_
                        refine r_iret (pc := 160) hC hR dX5_answer_160 ?_ (by decide) (by decide)
                        have e0 : ans σ b d = ansP σ b d (oth σ d (plc σ b) - 1) := by unfold ans; rw [if_neg (by omega), if_neg hh, if_neg (by omega)]
                        have e1 : hasR σ b (oth σ d (plc σ b) - 1) = true := by exact hasR_iff.mpr (Or.inr (of_decide_eq_true c86))
                        have e2 : ¬ cap σ (oth σ d (plc σ b) - 1) ≤ popc (insB σ (oth σ d (plc σ b) - 1)) := by omega
                        exact ⟨by rw [e0]; unfold ansP; rw [if_neg (by rw [e1]; decide), if_neg (by rw [c96]; decide), if_neg e2, if_neg (by rw [c129]; decide), if_neg (by rw [c140]; decide), if_neg (by rw [c151]; decide)], rfl⟩
                      · -- not
                        refine r_bipush (pc := 154) (nI 7) hC dX5_answer_154 (by decide) ?_
                        refine r_goto (pc := 156) (tgt := 160) hC dX5_answer_156 (by decide) ?_
                        refine r_iret (pc := 160) hC hR dX5_answer_160 ?_ (by decide) (by decide)
                        have e0 : ans σ b d = ansP σ b d (oth σ d (plc σ b) - 1) := by unfold ans; rw [if_neg (by omega), if_neg hh, if_neg (by omega)]
                        have e1 : hasR σ b (oth σ d (plc σ b) - 1) = true := by exact hasR_iff.mpr (Or.inr (of_decide_eq_true c86))
                        have e2 : ¬ cap σ (oth σ d (plc σ b) - 1) ≤ popc (insB σ (oth σ d (plc σ b) - 1)) := by omega
                        exact ⟨by rw [e0]; unfold ansP; rw [if_neg (by rw [e1]; decide), if_neg (by rw [c96]; decide), if_neg e2, if_neg (by rw [c129]; decide), if_neg (by rw [c140]; decide), if_pos c151], rfl⟩
                    · -- not
                      refine r_bipush (pc := 143) (nI 6) hC dX5_answer_143 (by decide) ?_
                      refine r_iret (pc := 145) hC hR dX5_answer_145 ?_ (by decide) (by decide)
                      have e0 : ans σ b d = ansP σ b d (oth σ d (plc σ b) - 1) := by unfold ans; rw [if_neg (by omega), if_neg hh, if_neg (by omega)]
                      have e1 : hasR σ b (oth σ d (plc σ b) - 1) = true := by exact hasR_iff.mpr (Or.inr (of_decide_eq_true c86))
                      have e2 : ¬ cap σ (oth σ d (plc σ b) - 1) ≤ popc (insB σ (oth σ d (plc σ b) - 1)) := by omega
                      exact ⟨by rw [e0]; unfold ansP; rw [if_neg (by rw [e1]; decide), if_neg (by rw [c96]; decide), if_neg e2, if_neg (by rw [c129]; decide), if_pos c140], rfl⟩
                  · -- not
                    refine r_iconst (pc := 132) (nI 5) hC dX5_answer_132 (by decide) ?_
                    refine r_iret (pc := 133) hC hR dX5_answer_133 ?_ (by decide) (by decide)
                    have e0 : ans σ b d = ansP σ b d (oth σ d (plc σ b) - 1) := by unfold ans; rw [if_neg (by omega), if_neg hh, if_neg (by omega)]
                    have e1 : hasR σ b (oth σ d (plc σ b) - 1) = true := by exact hasR_iff.mpr (Or.inr (of_decide_eq_true c86))
                    have e2 : ¬ cap σ (oth σ d (plc σ b) - 1) ≤ popc (insB σ (oth σ d (plc σ b) - 1)) := by omega
                    exact ⟨by rw [e0]; unfold ansP; rw [if_neg (by rw [e1]; decide), if_neg (by rw [c96]; decide), if_neg e2, if_pos c129], rfl⟩
                · -- not
                  refine r_iconst (pc := 122) (nI 4) hC dX5_answer_122 (by decide) ?_
                  refine r_iret (pc := 123) hC hR dX5_answer_123 ?_ (by decide) (by decide)
                  have e0 : ans σ b d = ansP σ b d (oth σ d (plc σ b) - 1) := by unfold ans; rw [if_neg (by omega), if_neg hh, if_neg (by omega)]
                  have e1 : hasR σ b (oth σ d (plc σ b) - 1) = true := by exact hasR_iff.mpr (Or.inr (of_decide_eq_true c86))
                  exact ⟨by rw [e0]; unfold ansP; rw [if_neg (by rw [e1]; decide), if_neg (by rw [c96]; decide), if_pos (by omega)], rfl⟩
            · -- not
              refine r_iconst (pc := 99) (nI 3) hC dX5_answer_99 (by decide) ?_
              refine r_iret (pc := 100) hC hR dX5_answer_100 ?_ (by decide) (by decide)
              have e0 : ans σ b d = ansP σ b d (oth σ d (plc σ b) - 1) := by unfold ans; rw [if_neg (by omega), if_neg hh, if_neg (by omega)]
              have e1 : hasR σ b (oth σ d (plc σ b) - 1) = true := by exact hasR_iff.mpr (Or.inr (of_decide_eq_true c86))
              exact ⟨by rw [e0]; unfold ansP; rw [if_neg (by rw [e1]; decide), if_pos c96], rfl⟩
          · -- not
            refine r_iconst (pc := 89) (nI 2) hC dX5_answer_89 (by decide) ?_
            refine r_iret (pc := 90) hC hR dX5_answer_90 ?_ (by decide) (by decide)
            have e0 : ans σ b d = ansP σ b d (oth σ d (plc σ b) - 1) := by unfold ans; rw [if_neg (by omega), if_neg hh, if_neg (by omega)]
            have e1 : hasR σ b (oth σ d (plc σ b) - 1) = false := by rw [← Bool.not_eq_true, hasR_iff]; have := of_decide_eq_false c86; omega
            exact ⟨by rw [e0]; unfold ansP; rw [if_pos e1], rfl⟩
      · -- not
        first | refine r_aload_n (pc := 38) hC dX5_answer_38 rfl ?_ | refine r_aload_nN (pc := 38) hC dX5_answer_38 rfl ?_
        refine r_iload_n (pc := 39) hC dX5_answer_39 rfl ?_
        first | refine r_aload_n (pc := 40) hC dX5_answer_40 rfl ?_ | refine r_aload_nN (pc := 40) hC dX5_answer_40 rfl ?_
        refine r_gf (pc := 41) (κ := 6) (j := 13) hC cls6 (by decide) kf_X5_35 hM.k6 (hM.a (j := 13) (by decide)) dX5_answer_41 ?_
        refine r_iload_n (pc := 44) hC dX5_answer_44 rfl ?_
        refine r_iald (pc := 45) hC dX5_answer_45 (hM.kd (j := 13) (by decide)) (hM.r13 hb).1 (hM.r13 hb).2.1 (hM.r13 hb).2.2 ?_
        refine r_callV (pc := 46) hC (cm_nearer hC.fl hM hV ho hp) kv_X5_129 cls6 hM.k6 rfl rfl (Nat.le_of_ble_eq_true rfl) ⟨by decide, by decide, by decide, by decide⟩ dX5_answer_46 (fun _ _ h => h.elim) (fun v46 S46 h46 => ?_)
        obtain ⟨rfl, rfl⟩ := h46
        first | refine rb_if_ne (pc := 49) (tgt := 57) hC dX5_answer_49 (by decide) (fun c49 => ?_) (fun c49 => ?_) | refine rn_if_ne (pc := 49) (tgt := 57) hC dX5_answer_49 (by decide) (by omega) (fun c49 => ?_) (fun c49 => ?_) | refine ri_if_ne (pc := 49) (tgt := 57) hC dX5_answer_49 (by decide) (fun c49 => ?_) (fun c49 => ?_)
        · -- taken
          first | refine r_aload_n (pc := 57) hC dX5_answer_57 rfl ?_ | refine r_aload_nN (pc := 57) hC dX5_answer_57 rfl ?_
          refine r_iload_n (pc := 58) hC dX5_answer_58 rfl ?_
          refine r_iload_n (pc := 59) hC dX5_answer_59 rfl ?_
          refine r_callV (pc := 60) hC (cm_nohost hC.fl hM hV hb ho) kv_X5_132 cls6 hM.k6 rfl rfl (Nat.le_of_ble_eq_true rfl) ⟨by decide, by decide, by decide, by decide⟩ dX5_answer_60 (fun _ _ h => h.elim) (fun v60 S60 h60 => ?_)
          obtain ⟨rfl, rfl⟩ := h60
          first | refine rb_if_eq (pc := 63) (tgt := 71) hC dX5_answer_63 (by decide) (fun c63 => ?_) (fun c63 => ?_) | refine rn_if_eq (pc := 63) (tgt := 71) hC dX5_answer_63 (by decide) (by omega) (fun c63 => ?_) (fun c63 => ?_) | refine ri_if_eq (pc := 63) (tgt := 71) hC dX5_answer_63 (by decide) (fun c63 => ?_) (fun c63 => ?_)
          · -- taken
            refine r_iconst (pc := 71) (nI 0) hC dX5_answer_71 (by decide) ?_
            refine r_iret (pc := 72) hC hR dX5_answer_72 ?_ (by decide) (by decide)
            exact ⟨by unfold ans; rw [if_neg (by omega), if_neg hh, if_pos (by omega)]; unfold ansA; rw [if_pos (of_decide_eq_true c49), if_neg (by rw [c63]; decide)], rfl⟩
          · -- not
            refine r_bipush (pc := 66) (nI 6) hC dX5_answer_66 (by decide) ?_
            refine r_goto (pc := 68) (tgt := 72) hC dX5_answer_68 (by decide) ?_
            refine r_iret (pc := 72) hC hR dX5_answer_72 ?_ (by decide) (by decide)
            exact ⟨by unfold ans; rw [if_neg (by omega), if_neg hh, if_pos (by omega)]; unfold ansA; rw [if_pos (of_decide_eq_true c49), if_pos c63], rfl⟩
        · -- not
          refine r_bipush (pc := 52) (nI 9) hC dX5_answer_52 (by decide) ?_
          refine r_goto (pc := 54) (tgt := 72) hC dX5_answer_54 (by decide) ?_
          refine r_iret (pc := 72) hC hR dX5_answer_72 ?_ (by decide) (by decide)
          exact ⟨by unfold ans; rw [if_neg (by omega), if_neg hh, if_pos (by omega)]; unfold ansA; rw [if_neg (of_decide_eq_false c49)], rfl⟩
    · -- not
      refine r_bipush (pc := 21) (nI 8) hC dX5_answer_21 (by decide) ?_
      refine r_iret (pc := 23) hC hR dX5_answer_23 ?_ (by decide) (by decide)
      exact ⟨by unfold ans; rw [if_pos (by omega)], rfl⟩
