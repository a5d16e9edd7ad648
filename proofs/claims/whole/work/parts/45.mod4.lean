theorem hI_m1 {k : Nat} (hk : k ≤ 100) (h : hI k = -1) : k = 0 := by
  by_cases c : k = 0
  · exact c
  · unfold hI at h
    rw [if_neg c] at h
    exact absurd h (nI_m1 (by omega))
theorem acI_m1 {σ : Sg} {d z : Nat} (hk : oth σ d z ≤ 100) (h : acI σ d z = -1) : oth σ d z = 0 := by
  by_cases c : oth σ d z = 0
  · exact c
  · rw [acI_s c] at h
    exact absurd h (nI_m1 (by omega))
theorem lgA2_lt {σ : Sg} {n b : Nat} (hL : InvL σ n) (h1 : 1 ≤ nz σ) : ∀ k, k ≤ mv σ → (lgA σ b k).2 < nz σ
  | 0, _ => h1
  | k + 1, hk => by
    unfold lgA
    split
    · exact (hL.2.1 k (by omega)).2.2
    · exact lgA2_lt hL h1 k (by omega)
theorem lgA_k {σ : Sg} {b k : Nat} (h : lgb σ k = b) : lgA σ b (k + 1) = (lgm σ k, lgz σ k) := if_pos h
theorem lgA_o {σ : Sg} {b k : Nat} (h : ¬ lgb σ k = b) : lgA σ b (k + 1) = lgA σ b k := if_neg h
theorem lgM_y {σ : Sg} {b z k : Nat} (h : lgb σ k = b) (h2 : (lgA σ b k).2 = z) : lgM σ b z (k + 1) = lgM σ b z k + (lgm σ k - (lgA σ b k).1) := by
  show (if lgb σ k = b then lgM σ b z k + (if (lgA σ b k).2 = z then lgm σ k - (lgA σ b k).1 else 0) else lgM σ b z k) = _
  rw [if_pos h, if_pos h2]
theorem lgM_n {σ : Sg} {b z k : Nat} (h : lgb σ k = b) (h2 : ¬ (lgA σ b k).2 = z) : lgM σ b z (k + 1) = lgM σ b z k + 0 := by
  show (if lgb σ k = b then lgM σ b z k + (if (lgA σ b k).2 = z then lgm σ k - (lgA σ b k).1 else 0) else lgM σ b z k) = _
  rw [if_pos h, if_neg h2]
theorem lgM_o {σ : Sg} {b z k : Nat} (h : ¬ lgb σ k = b) : lgM σ b z (k + 1) = lgM σ b z k := if_neg h
theorem dg_5549 {x : Int32} : (5549 : Int64) + x.toInt64 = dgA 179 x := by
  unfold dgA
  rw [show (179 : Int64) * 31 = 5549 from rfl]
theorem dgA_i {d : Int64} {x : Int32} : d * 31 + x.toInt64 = dgA d x := rfl
theorem dg_1 {d : Int64} : d * 31 + 1 = dgA d (nI 1) := rfl
theorem dg_0 {d : Int64} : d * 31 + 0 = dgA d (nI 0) := rfl
theorem dg_t {d : Int64} {b : Bool} (h : b = true) : d * 31 + 1 = dgA d (b2i b) := by rw [h]; rfl
theorem dg_f {d : Int64} {b : Bool} (h : b = false) : d * 31 + 0 = dgA d (b2i b) := by rw [h]; rfl
/-- the reference's object at its start -/
theorem RM.st {S : Ps} {M : Nat → Nat} {m : Nat} (h6 : isK S 6 m) (hs : ∀ s, s ∈ [0, 1, 2, 7, 12, 18] → pF S s m = .int (nI 0)) (h3 : pF S 3 m = .int (nI 1)) (ha : ∀ j, j ∈ mAs → pF S j m = .ref (M j) ∧ isK S (mK j) (M j) ∧ pN S (M j) = (if j = 19 then 48 else mNn j)) (hi : ∀ i, i ∈ mAs → ∀ j, j ∈ mAs → M i = M j → i = j) : RM S M sg0 m 0 := by
  have hn : ∀ j, mNn j ≤ 24 := fun j => by unfold mNn; repeat' split <;> try omega
  refine ⟨⟨h6, fun s hs9 => ?_, fun j hj => ⟨(ha j hj).1, (ha j hj).2.1, ?_⟩, hi, fun j hj h9 => by rw [(ha j hj).2.2, if_neg h9], fun j hj i hd => ?_⟩, ?_⟩
  · simp only [List.mem_cons, List.not_mem_nil, or_false] at hs9
    rcases hs9 with rfl | rfl | rfl | rfl | rfl | rfl | rfl
    · exact hs 0 (by decide)
    · exact hs 1 (by decide)
    · exact hs 2 (by decide)
    · exact h3
    · exact hs 7 (by decide)
    · exact hs 12 (by decide)
    · exact hs 18 (by decide)
  · rw [(ha j hj).2.2]
    have := hn j
    split <;> omega
  · exfalso
    unfold rD at hd
    split at hd
    · have h1 := of_decide_eq_true hd
      have h2 : nz sg0 = 1 := rfl
      omega
    · split at hd
      · have h1 := of_decide_eq_true hd
        have h2 : nd sg0 = 0 := rfl
        omega
      · split at hd
        · have h1 := of_decide_eq_true hd
          have h2 : nd sg0 = 0 := rfl
          omega
        · split at hd
          · have h1 := of_decide_eq_true hd
            have h2 : nb sg0 = 0 := rfl
            omega
          · have h1 := of_decide_eq_true hd
            have h2 : mv sg0 = 0 := rfl
            omega
  · rw [(ha 19 (by decide)).2.2, if_pos rfl]
    have h2 : mv sg0 = 0 := rfl
    omega
/-- while the reference is made: the rows that it has already (slot, address) -/
def RI (S0 S : Ps) (m : Nat) (L : List (Nat × Nat)) : Prop := isK S 6 m ∧ Fr (fun q => q = m) S0 S ∧ (∀ q, q ∈ L → pF S q.1 m = .ref q.2 ∧ isK S (mK q.1) q.2 ∧ pN S q.2 = (if q.1 = 19 then 48 else mNn q.1)) ∧ (∀ q q' : Nat × Nat, q ∈ L → q' ∈ L → q.2 = q'.2 → q.1 = q'.1) ∧ (∀ j, L.all (fun q => !(q.1 == j)) = true → pF S j m = pF S0 j m)
theorem RI.st {S : Ps} {m : Nat} (h : isK S 6 m) : RI S S m [] := ⟨h, Fr.rfl, fun q hq => absurd hq List.not_mem_nil, fun q q' hq => absurd hq List.not_mem_nil, fun _ _ => rfl⟩
theorem RI.add {S0 S : Ps} {m a j k N : Nat} {L : List (Nat × Nat)} (h : RI S0 S m L) (ha : a ∉ pL S) (hj : L.all (fun q => !(q.1 == j)) = true) (hk : k = mK j) (hN : N = (if j = 19 then 48 else mNn j)) : RI S0 (sF (nwA S a k N) j m (.ref a)) m ((j, a) :: L) := by
  obtain ⟨h1, h2, h3, h4, h5⟩ := h
  have hj9 : ∀ q, q ∈ L → q.1 ≠ j := fun q hq e => by
    have h9 := List.all_eq_true.mp hj q hq
    rw [e] at h9
    simp at h9
  have na : ∀ q, q ∈ L → q.2 ≠ a := fun q hq => isK_fr (h3 q hq).2.1 ha
  refine ⟨isK_sF.mpr (isK_nwA h1 ha), fr_sF (h2.trans (Fr.nwA ha)) rfl, fun q hq => ?_, fun q q' hq hq' e => ?_, fun j' hj' => ?_⟩
  · rcases List.mem_cons.mp hq with rfl | hq
    · refine ⟨pF_sF_eq _ _ _ _, ?_, ?_⟩
      · rw [← hk]; exact isK_sF.mpr isK_nwA'
      · rw [← hN]; exact if_pos rfl
    · refine ⟨(pF_sF_j _ _ _ _ (hj9 q hq)).trans (h3 q hq).1, isK_sF.mpr (isK_nwA (h3 q hq).2.1 ha), ?_⟩
      exact (if_neg (na q hq)).trans (h3 q hq).2.2
  · rcases List.mem_cons.mp hq with rfl | hq
    · rcases List.mem_cons.mp hq' with rfl | hq'
      · rfl
      · exact absurd e.symm (na q' hq')
    · rcases List.mem_cons.mp hq' with rfl | hq'
      · exact absurd e (na q hq)
      · exact h4 q q' hq hq' e
  · rw [List.all_cons, Bool.and_eq_true] at hj'
    have e : j' ≠ j := fun e => by
      have h9 := hj'.1
      rw [e] at h9
      simp at h9
    exact (pF_sF_j _ _ _ _ e).trans (h5 j' hj'.2)
abbrev rm_X5_alone : Room := { frames := 0, cells := 0, slots := 0, locals := 0 }
set_option maxHeartbeats 4000000 in
set_option maxRecDepth 100000 in
theorem cq_alone {l : Launch} {G : Ids} {S : Ps} {M : Nat → Nat} {σ : Sg} {m t : Nat} (hfl : l.stackTraces = false) (hM : RM S M σ m t) (hV : InvC σ) : Ct l (Cond.code yX5_alone cX5_alone 3 (some .int)) yX5_alone rm_X5_alone G [.ref m] S (fun v S9 => RQ S [] (.int (nI (aln σ))) σ (σ) m v S9) (fun _ _ => False) := by
  refine Ct.of hfl (by decide) (Nat.le_of_ble_eq_true rfl) (fun Γ V hC hR hT hI => ?_)
  have hn := hV.n
  have hM0 := hM.th (v := 0)
  have hlp : ∀ n9 i, i + n9 = nb σ → At Γ G V 0 0 (sF S 0 m (.int (nI 0))) [(0, .ref m), (1, .int (nI (bset (fun b => decide (hst σ b ≠ 0) && (decide (plc σ b ≠ 0) && decide (plc σ b ≠ plc σ (hst σ b - 1)))) (i)))), (2, .int (nI (i)))] 9 [] := by
    intro n9
    induction n9 with
    | zero =>
      intro i hi
      refine r_iload_n (pc := 9) hC dX5_alone_9 rfl ?_
      first | refine r_aload_n (pc := 10) hC dX5_alone_10 rfl ?_ | refine r_aload_nN (pc := 10) hC dX5_alone_10 rfl ?_
      refine r_gf (pc := 11) (κ := 6) (j := 12) hC cls6 (by decide) kf_X5_60 hM0.k6 hM0.s12 dX5_alone_11 ?_
      first | refine rn_icmp_ge (pc := 14) (tgt := 68) hC dX5_alone_14 (by decide) (by omega) (by omega) (fun c14 => ?_) (fun c14 => ?_) | refine ri_icmp_ge (pc := 14) (tgt := 68) hC dX5_alone_14 (by decide) (fun c14 => ?_) (fun c14 => ?_)
      · -- taken
        refine r_iload_n (pc := 68) hC dX5_alone_68 rfl ?_
        refine r_iret (pc := 69) hC hR dX5_alone_69 ?_ (by decide) (by decide)
        have e : i = nb σ := by omega
        subst e
        exact RQ.ok (rfl) (rfl) (MO.t0 hM)
      · -- not
        exfalso; omega
    | succ n9 ih =>
      intro i hi
      have hi2 : i < nb σ := by omega
      refine r_iload_n (pc := 9) hC dX5_alone_9 rfl ?_
      first | refine r_aload_n (pc := 10) hC dX5_alone_10 rfl ?_ | refine r_aload_nN (pc := 10) hC dX5_alone_10 rfl ?_
      refine r_gf (pc := 11) (κ := 6) (j := 12) hC cls6 (by decide) kf_X5_60 hM0.k6 hM0.s12 dX5_alone_11 ?_
      first | refine rn_icmp_ge (pc := 14) (tgt := 68) hC dX5_alone_14 (by decide) (by omega) (by omega) (fun c14 => ?_) (fun c14 => ?_) | refine ri_icmp_ge (pc := 14) (tgt := 68) hC dX5_alone_14 (by decide) (fun c14 => ?_) (fun c14 => ?_)
      · -- taken
        exfalso; omega
      · -- not
        first | refine r_aload_n (pc := 17) hC dX5_alone_17 rfl ?_ | refine r_aload_nN (pc := 17) hC dX5_alone_17 rfl ?_
        refine r_gf (pc := 18) (κ := 6) (j := 15) hC cls6 (by decide) kf_X5_41 hM0.k6 (hM0.a (j := 15) (by decide)) dX5_alone_18 ?_
        refine r_iload_n (pc := 21) hC dX5_alone_21 rfl ?_
        refine r_iald (pc := 22) hC dX5_alone_22 (hM0.kd (j := 15) (by decide)) (hM0.r15 hi2).1 (hM0.r15 hi2).2.1 (hM0.r15 hi2).2.2 ?_
        refine r_iconst (pc := 23) (-1) hC dX5_alone_23 (by decide) ?_
        refine r_icmp_eq (pc := 24) (tgt := 62) hC dX5_alone_24 (by decide) (fun c24 => ?_) (fun c24 => ?_)
        · -- taken
          first | refine rn_iinc (pc := 62) (q := 1) hC dX5_alone_62 rfl (by decide) ?_ | refine r_iinc (pc := 62) _ hC dX5_alone_62 rfl rfl (by decide) ?_
          refine r_goto (pc := 65) (tgt := 9) hC dX5_alone_65 (by decide) ?_
          have e2 := bset_n (p := (fun b => decide (hst σ b ≠ 0) && (decide (plc σ b ≠ 0) && decide (plc σ b ≠ plc σ (hst σ b - 1))))) (i := i) (by have hh := hI_m1 (by have := (hV.vb hi2).2.2.1; omega) c24; simp [hh])
          refine at_lv (lv' := [(0, .ref m), (1, .int (nI (bset (fun b => decide (hst σ b ≠ 0) && (decide (plc σ b ≠ 0) && decide (plc σ b ≠ plc σ (hst σ b - 1)))) (i + 1)))), (2, .int (nI (i + 1)))]) ⟨rfl, by rw [e2]; rfl, rfl, trivial⟩ ?_
          exact ih (i + 1) (by omega)
        · -- not
          have hh : ¬ hst σ i = 0 := fun q => c24 (by rw [q]; rfl)
          have h2 := hV.h hi2 hh
          have hp := (hV.vb hi2).1
          have hp2 := (hV.vb h2).1
          first | refine r_aload_n (pc := 27) hC dX5_alone_27 rfl ?_ | refine r_aload_nN (pc := 27) hC dX5_alone_27 rfl ?_
          refine r_gf (pc := 28) (κ := 6) (j := 13) hC cls6 (by decide) kf_X5_35 hM0.k6 (hM0.a (j := 13) (by decide)) dX5_alone_28 ?_
          refine r_iload_n (pc := 31) hC dX5_alone_31 rfl ?_
          refine r_iald (pc := 32) hC dX5_alone_32 (hM0.kd (j := 13) (by decide)) (hM0.r13 hi2).1 (hM0.r13 hi2).2.1 (hM0.r13 hi2).2.2 ?_
          first | refine rb_if_eq (pc := 33) (tgt := 62) hC dX5_alone_33 (by decide) (fun c33 => ?_) (fun c33 => ?_) | refine rn_if_eq (pc := 33) (tgt := 62) hC dX5_alone_33 (by decide) (by omega) (fun c33 => ?_) (fun c33 => ?_) | refine ri_if_eq (pc := 33) (tgt := 62) hC dX5_alone_33 (by decide) (fun c33 => ?_) (fun c33 => ?_)
          · -- taken
            first | refine rn_iinc (pc := 62) (q := 1) hC dX5_alone_62 rfl (by decide) ?_ | refine r_iinc (pc := 62) _ hC dX5_alone_62 rfl rfl (by decide) ?_
            refine r_goto (pc := 65) (tgt := 9) hC dX5_alone_65 (by decide) ?_
            have e2 := bset_n (p := (fun b => decide (hst σ b ≠ 0) && (decide (plc σ b ≠ 0) && decide (plc σ b ≠ plc σ (hst σ b - 1))))) (i := i) (by simp [c33])
            refine at_lv (lv' := [(0, .ref m), (1, .int (nI (bset (fun b => decide (hst σ b ≠ 0) && (decide (plc σ b ≠ 0) && decide (plc σ b ≠ plc σ (hst σ b - 1)))) (i + 1)))), (2, .int (nI (i + 1)))]) ⟨rfl, by rw [e2]; rfl, rfl, trivial⟩ ?_
            exact ih (i + 1) (by omega)
          · -- not
            first | refine r_aload_n (pc := 36) hC dX5_alone_36 rfl ?_ | refine r_aload_nN (pc := 36) hC dX5_alone_36 rfl ?_
            refine r_gf (pc := 37) (κ := 6) (j := 13) hC cls6 (by decide) kf_X5_35 hM0.k6 (hM0.a (j := 13) (by decide)) dX5_alone_37 ?_
            refine r_iload_n (pc := 40) hC dX5_alone_40 rfl ?_
            refine r_iald (pc := 41) hC dX5_alone_41 (hM0.kd (j := 13) (by decide)) (hM0.r13 hi2).1 (hM0.r13 hi2).2.1 (hM0.r13 hi2).2.2 ?_
            first | refine r_aload_n (pc := 42) hC dX5_alone_42 rfl ?_ | refine r_aload_nN (pc := 42) hC dX5_alone_42 rfl ?_
            refine r_gf (pc := 43) (κ := 6) (j := 13) hC cls6 (by decide) kf_X5_35 hM0.k6 (hM0.a (j := 13) (by decide)) dX5_alone_43 ?_
            first | refine r_aload_n (pc := 46) hC dX5_alone_46 rfl ?_ | refine r_aload_nN (pc := 46) hC dX5_alone_46 rfl ?_
            refine r_gf (pc := 47) (κ := 6) (j := 15) hC cls6 (by decide) kf_X5_41 hM0.k6 (hM0.a (j := 15) (by decide)) dX5_alone_47 ?_
            refine r_iload_n (pc := 50) hC dX5_alone_50 rfl ?_
            refine r_iald (pc := 51) hC dX5_alone_51 (hM0.kd (j := 15) (by decide)) (hM0.r15s hi2 hh).1 (hM0.r15s hi2 hh).2.1 (hM0.r15s hi2 hh).2.2 ?_
            refine r_iald (pc := 52) hC dX5_alone_52 (hM0.kd (j := 13) (by decide)) (hM0.r13 h2).1 (hM0.r13 h2).2.1 (hM0.r13 h2).2.2 ?_
            first | refine rn_icmp_eq (pc := 53) (tgt := 62) hC dX5_alone_53 (by decide) (by omega) (by omega) (fun c53 => ?_) (fun c53 => ?_) | refine ri_icmp_eq (pc := 53) (tgt := 62) hC dX5_alone_53 (by decide) (fun c53 => ?_) (fun c53 => ?_)
            · -- taken
              first | refine rn_iinc (pc := 62) (q := 1) hC dX5_alone_62 rfl (by decide) ?_ | refine r_iinc (pc := 62) _ hC dX5_alone_62 rfl rfl (by decide) ?_
              refine r_goto (pc := 65) (tgt := 9) hC dX5_alone_65 (by decide) ?_
              have e2 := bset_n (p := (fun b => decide (hst σ b ≠ 0) && (decide (plc σ b ≠ 0) && decide (plc σ b ≠ plc σ (hst σ b - 1))))) (i := i) (by simp [c53])
              refine at_lv (lv' := [(0, .ref m), (1, .int (nI (bset (fun b => decide (hst σ b ≠ 0) && (decide (plc σ b ≠ 0) && decide (plc σ b ≠ plc σ (hst σ b - 1)))) (i + 1)))), (2, .int (nI (i + 1)))]) ⟨rfl, by rw [e2]; rfl, rfl, trivial⟩ ?_
              exact ih (i + 1) (by omega)
            · -- not
              refine r_iload_n (pc := 56) hC dX5_alone_56 rfl ?_
              refine r_iconst (pc := 57) (nI 1) hC dX5_alone_57 (by decide) ?_
              refine r_iload_n (pc := 58) hC dX5_alone_58 rfl ?_
              refine r_ishl (pc := 59) hC dX5_alone_59 ?_
              refine r_ior (pc := 60) hC dX5_alone_60 ?_
              rw [bit_or _ (by omega) _ (bset_lt _ _)]
              refine r_istore_n (pc := 61) hC dX5_alone_61 (by decide) ?_
              first | refine rn_iinc (pc := 62) (q := 1) hC dX5_alone_62 rfl (by decide) ?_ | refine r_iinc (pc := 62) _ hC dX5_alone_62 rfl rfl (by decide) ?_
              refine r_goto (pc := 65) (tgt := 9) hC dX5_alone_65 (by decide) ?_
              have e2 := bset_s (p := (fun b => decide (hst σ b ≠ 0) && (decide (plc σ b ≠ 0) && decide (plc σ b ≠ plc σ (hst σ b - 1))))) (i := i) (by simp [hh, c33, c53])
              refine at_lv (lv' := [(0, .ref m), (1, .int (nI (bset (fun b => decide (hst σ b ≠ 0) && (decide (plc σ b ≠ 0) && decide (plc σ b ≠ plc σ (hst σ b - 1)))) (i + 1)))), (2, .int (nI (i + 1)))]) ⟨rfl, by rw [e2]; rfl, rfl, trivial⟩ ?_
              exact ih (i + 1) (by omega)
  first | refine r_aload_n (pc := 0) hC dX5_alone_0 rfl ?_ | refine r_aload_nN (pc := 0) hC dX5_alone_0 rfl ?_
  refine r_iconst (pc := 1) (nI 0) hC dX5_alone_1 (by decide) ?_
  refine r_pf (pc := 2) (κ := 6) (j := 0) hC cls6 (by decide) kf_X5_54 hM.k6 rfl rfl rfl dX5_alone_2 ?_
  refine r_iconst (pc := 5) (nI 0) hC dX5_alone_5 (by decide) ?_
  refine r_istore_n (pc := 6) hC dX5_alone_6 (by decide) ?_
  refine r_iconst (pc := 7) (nI 0) hC dX5_alone_7 (by decide) ?_
  refine r_istore_n (pc := 8) hC dX5_alone_8 (by decide) ?_
  refine at_lv (lv' := [(0, .ref m), (1, .int (nI (bset (fun b => decide (hst σ b ≠ 0) && (decide (plc σ b ≠ 0) && decide (plc σ b ≠ plc σ (hst σ b - 1)))) (0)))), (2, .int (nI (0)))]) ⟨rfl, rfl, rfl, trivial⟩ ?_
  exact hlp (nb σ) 0 (by omega)
abbrev rm_X5_canCome : Room := { frames := 3, cells := 0, slots := 0, locals := 72 }
set_option maxHeartbeats 4000000 in
set_option maxRecDepth 100000 in
theorem cq_canCome {l : Launch} {G : Ids} {S : Ps} {M : Nat → Nat} {σ : Sg} {m t : Nat} {p : Int32} (hfl : l.stackTraces = false) (hM : RM S M σ m t) (hV : InvC σ) : Ct l (Cond.code yX5_canCome cX5_canCome 4 (some .int)) yX5_canCome rm_X5_canCome G [.ref m, .int p] S (fun v S9 => RQ S [(1, inZ σ p)] (.int (nI (canC σ (iN p)))) σ (σ) m v S9) (fun _ _ => False) := by
  refine Ct.of hfl (by decide) (Nat.le_of_ble_eq_true rfl) (fun Γ V hC hR hT hI => ?_)
  have hn := hV.n
  have hM0 := hM.th (v := 0)
  first | refine r_aload_n (pc := 0) hC dX5_canCome_0 rfl ?_ | refine r_aload_nN (pc := 0) hC dX5_canCome_0 rfl ?_
  refine r_iconst (pc := 1) (nI 0) hC dX5_canCome_1 (by decide) ?_
  refine r_pf (pc := 2) (κ := 6) (j := 0) hC cls6 (by decide) kf_X5_54 hM.k6 rfl rfl rfl dX5_canCome_2 ?_
  first | refine r_aload_n (pc := 5) hC dX5_canCome_5 rfl ?_ | refine r_aload_nN (pc := 5) hC dX5_canCome_5 rfl ?_
  refine r_iload_n (pc := 6) hC dX5_canCome_6 rfl ?_
  refine r_callV (pc := 7) hC (cm_isZone hC.fl hM0 hV (p := p)) kv_X5_71 cls6 (show isK S 6 m from hM.k6) rfl rfl (Nat.le_of_ble_eq_true rfl) ⟨by decide, by decide, by decide, by decide⟩ dX5_canCome_7 (fun _ _ h => h.elim) (fun v7 S7 h7 => ?_)
  obtain ⟨rfl, rfl⟩ := h7
  first | refine rb_if_ne (pc := 10) (tgt := 19) hC dX5_canCome_10 (by decide) (fun c10 => ?_) (fun c10 => ?_) | refine rn_if_ne (pc := 10) (tgt := 19) hC dX5_canCome_10 (by decide) (by omega) (fun c10 => ?_) (fun c10 => ?_) | refine ri_if_ne (pc := 10) (tgt := 19) hC dX5_canCome_10 (by decide) (fun c10 => ?_) (fun c10 => ?_)
  · -- taken
    have hZp := inZ_n c10
    have hdp := inZ_d c10
    rw [show Value.int p = Value.int (nI (iN p)) by rw [nI_iN (by omega)]]
    refine r_iconst (pc := 19) (nI 0) hC dX5_canCome_19 (by decide) ?_
    refine r_istore_n (pc := 20) hC dX5_canCome_20 (by decide) ?_
    refine r_iconst (pc := 21) (nI 0) hC dX5_canCome_21 (by decide) ?_
    refine r_istore_n (pc := 22) hC dX5_canCome_22 (by decide) ?_
    have hlp : ∀ n9 i, i + n9 = nb σ → At Γ G V 0 0 (sF S 0 m (.int (nI 0))) [(0, .ref m), (1, .int (nI (iN p))), (2, .int (nI (bset (fun b => decide (dst σ (okB σ b) (plc σ b) (iN p) ≠ 9)) (i)))), (3, .int (nI (i)))] 23 [] := by
      intro n9
      induction n9 with
      | zero =>
        intro i hi
        refine r_iload_n (pc := 23) hC dX5_canCome_23 rfl ?_
        first | refine r_aload_n (pc := 24) hC dX5_canCome_24 rfl ?_ | refine r_aload_nN (pc := 24) hC dX5_canCome_24 rfl ?_
        refine r_gf (pc := 25) (κ := 6) (j := 12) hC cls6 (by decide) kf_X5_60 hM0.k6 hM0.s12 dX5_canCome_25 ?_
        first | refine rn_icmp_ge (pc := 28) (tgt := 53) hC dX5_canCome_28 (by decide) (by omega) (by omega) (fun c28 => ?_) (fun c28 => ?_) | refine ri_icmp_ge (pc := 28) (tgt := 53) hC dX5_canCome_28 (by decide) (fun c28 => ?_) (fun c28 => ?_)
        · -- taken
          refine r_iload_n (pc := 53) hC dX5_canCome_53 rfl ?_
          refine r_iret (pc := 54) hC hR dX5_canCome_54 ?_ (by decide) (by decide)
          have e : i = nb σ := by omega
          subst e
          exact RQ.ok ((kd_t (c10)).trans (rfl)) (rfl) (MO.t0 hM)
        · -- not
          exfalso; omega
      | succ n9 ih =>
        intro i hi
        have hi2 : i < nb σ := by omega
        refine r_iload_n (pc := 23) hC dX5_canCome_23 rfl ?_
        first | refine r_aload_n (pc := 24) hC dX5_canCome_24 rfl ?_ | refine r_aload_nN (pc := 24) hC dX5_canCome_24 rfl ?_
        refine r_gf (pc := 25) (κ := 6) (j := 12) hC cls6 (by decide) kf_X5_60 hM0.k6 hM0.s12 dX5_canCome_25 ?_
        first | refine rn_icmp_ge (pc := 28) (tgt := 53) hC dX5_canCome_28 (by decide) (by omega) (by omega) (fun c28 => ?_) (fun c28 => ?_) | refine ri_icmp_ge (pc := 28) (tgt := 53) hC dX5_canCome_28 (by decide) (fun c28 => ?_) (fun c28 => ?_)
        · -- taken
          exfalso; omega
        · -- not
          first | refine r_aload_n (pc := 31) hC dX5_canCome_31 rfl ?_ | refine r_aload_nN (pc := 31) hC dX5_canCome_31 rfl ?_
          refine r_iload_n (pc := 32) hC dX5_canCome_32 rfl ?_
          refine r_iload_n (pc := 33) hC dX5_canCome_33 rfl ?_
          refine r_callV (pc := 34) hC (cm_wayOf hC.fl hM0 hV hi2 hZp) kv_X5_160 cls6 (show isK S 6 m from hM.k6) rfl rfl (Nat.le_of_ble_eq_true rfl) ⟨by decide, by decide, by decide, by decide⟩ dX5_canCome_34 (fun _ _ h => h.elim) (fun v34 S34 h34 => ?_)
          obtain ⟨rfl, rfl⟩ := h34
          refine r_iconst (pc := 37) (-1) hC dX5_canCome_37 (by decide) ?_
          refine r_icmp_eq (pc := 38) (tgt := 47) hC dX5_canCome_38 (by decide) (fun c38 => ?_) (fun c38 => ?_)
          · -- taken
            first | refine rn_iinc (pc := 47) (q := 1) hC dX5_canCome_47 rfl (by decide) ?_ | refine r_iinc (pc := 47) _ hC dX5_canCome_47 rfl rfl (by decide) ?_
            refine r_goto (pc := 50) (tgt := 23) hC dX5_canCome_50 (by decide) ?_
            have e9 := (dI_no dst_le).mp c38
            have e2 := bset_n (p := (fun b => decide (dst σ (okB σ b) (plc σ b) (iN p) ≠ 9))) (i := i) (decide_eq_false (by rw [e9]; simp))
            refine at_lv (lv' := [(0, .ref m), (1, .int (nI (iN p))), (2, .int (nI (bset (fun b => decide (dst σ (okB σ b) (plc σ b) (iN p) ≠ 9)) (i + 1)))), (3, .int (nI (i + 1)))]) ⟨rfl, rfl, by rw [e2]; rfl, rfl, trivial⟩ ?_
            exact ih (i + 1) (by omega)
          · -- not
            refine r_iload_n (pc := 41) hC dX5_canCome_41 rfl ?_
            refine r_iconst (pc := 42) (nI 1) hC dX5_canCome_42 (by decide) ?_
            refine r_iload_n (pc := 43) hC dX5_canCome_43 rfl ?_
            refine r_ishl (pc := 44) hC dX5_canCome_44 ?_
            refine r_ior (pc := 45) hC dX5_canCome_45 ?_
            rw [bit_or _ (by omega) _ (bset_lt _ _)]
            refine r_istore_n (pc := 46) hC dX5_canCome_46 (by decide) ?_
            first | refine rn_iinc (pc := 47) (q := 1) hC dX5_canCome_47 rfl (by decide) ?_ | refine r_iinc (pc := 47) _ hC dX5_canCome_47 rfl rfl (by decide) ?_
            refine r_goto (pc := 50) (tgt := 23) hC dX5_canCome_50 (by decide) ?_
            have e9 := fun q => c38 ((dI_no dst_le).mpr q)
            have e2 := bset_s (p := (fun b => decide (dst σ (okB σ b) (plc σ b) (iN p) ≠ 9))) (i := i) (decide_eq_true e9)
            refine at_lv (lv' := [(0, .ref m), (1, .int (nI (iN p))), (2, .int (nI (bset (fun b => decide (dst σ (okB σ b) (plc σ b) (iN p) ≠ 9)) (i + 1)))), (3, .int (nI (i + 1)))]) ⟨rfl, rfl, by rw [e2]; rfl, rfl, trivial⟩ ?_
            exact ih (i + 1) (by omega)
    refine at_lv (lv' := [(0, .ref m), (1, .int (nI (iN p))), (2, .int (nI (bset (fun b => decide (dst σ (okB σ b) (plc σ b) (iN p) ≠ 9)) (0)))), (3, .int (nI (0)))]) ⟨rfl, rfl, rfl, rfl, trivial⟩ ?_
    exact hlp (nb σ) 0 (by omega)
  · -- not
    first | refine r_aload_n (pc := 13) hC dX5_canCome_13 rfl ?_ | refine r_aload_nN (pc := 13) hC dX5_canCome_13 rfl ?_
    refine r_iconst (pc := 14) (nI 1) hC dX5_canCome_14 (by decide) ?_
    refine r_callV (pc := 15) hC (cm_fail hC.fl hM0 hV (k := 1)) kv_X5_67 cls6 (show isK S 6 m from hM.k6) rfl rfl (Nat.le_of_ble_eq_true rfl) ⟨by decide, by decide, by decide, by decide⟩ dX5_canCome_15 (fun _ _ h => h.elim) (fun v15 S15 h15 => ?_)
    obtain ⟨rfl, hM9, hF9⟩ := h15
    refine r_iret (pc := 18) hC hR dX5_canCome_18 ?_ (by decide) (by decide)
    exact RQ.no (k := 1) (kd_f (c10)) (by decide) (rfl) (MO.of (fr_th hM) hF9 hM9)
abbrev rm_X5_wasIn : Room := { frames := 1, cells := 0, slots := 0, locals := 21 }
set_option maxHeartbeats 4000000 in
set_option maxRecDepth 100000 in
theorem cq_wasIn {l : Launch} {G : Ids} {S : Ps} {M : Nat → Nat} {σ : Sg} {m t : Nat} {p q : Int32} {n9 : Nat} (hfl : l.stackTraces = false) (hM : RM S M σ m t) (hV : InvC σ) (hJ : Inv σ n9) : Ct l (Cond.code yX5_wasIn cX5_wasIn 5 (some .int)) yX5_wasIn rm_X5_wasIn G [.ref m, .int p, .int q] S (fun v S9 => RQ S [(1, inB σ p), (2, wi 0 (mi σ) q)] (.int (nI (lkL σ (iN p) (iN q) (mv σ)))) σ (σ) m v S9) (fun _ _ => False) := by
  refine Ct.of hfl (by decide) (Nat.le_of_ble_eq_true rfl) (fun Γ V hC hR hT hI => ?_)
  have hn := hV.n
  have hM0 := hM.th (v := 0)
  have hl9 := hM.2
  have hL19 := hM.l (j := 19) (by decide)
  have hL := hJ.2.2.1
  first | refine r_aload_n (pc := 0) hC dX5_wasIn_0 rfl ?_ | refine r_aload_nN (pc := 0) hC dX5_wasIn_0 rfl ?_
  refine r_iconst (pc := 1) (nI 0) hC dX5_wasIn_1 (by decide) ?_
  refine r_pf (pc := 2) (κ := 6) (j := 0) hC cls6 (by decide) kf_X5_54 hM.k6 rfl rfl rfl dX5_wasIn_2 ?_
  first | refine r_aload_n (pc := 5) hC dX5_wasIn_5 rfl ?_ | refine r_aload_nN (pc := 5) hC dX5_wasIn_5 rfl ?_
  refine r_iload_n (pc := 6) hC dX5_wasIn_6 rfl ?_
  refine r_callV (pc := 7) hC (cm_isBadge hC.fl hM0 hV (p := p)) kv_X5_112 cls6 (show isK S 6 m from hM.k6) rfl rfl (Nat.le_of_ble_eq_true rfl) ⟨by decide, by decide, by decide, by decide⟩ dX5_wasIn_7 (fun _ _ h => h.elim) (fun v7 S7 h7 => ?_)
  obtain ⟨rfl, rfl⟩ := h7
  first | refine rb_if_ne (pc := 10) (tgt := 19) hC dX5_wasIn_10 (by decide) (fun c10 => ?_) (fun c10 => ?_) | refine rn_if_ne (pc := 10) (tgt := 19) hC dX5_wasIn_10 (by decide) (by omega) (fun c10 => ?_) (fun c10 => ?_) | refine ri_if_ne (pc := 10) (tgt := 19) hC dX5_wasIn_10 (by decide) (fun c10 => ?_) (fun c10 => ?_)
  · -- taken
    have hBp := inB_n c10
    have hh9 := (hV.vb hBp).2.2.1
    have hdp := inB_d c10
    rw [show Value.int p = Value.int (nI (iN p)) by rw [nI_iN (by omega)]]
    have qm : (nI (mi σ)).toInt = mi σ := nI_toInt (by omega)
    refine r_iload_n (pc := 19) hC dX5_wasIn_19 rfl ?_
    refine ri_if_lt (pc := 20) (tgt := 31) hC dX5_wasIn_20 (by decide) (fun c20 => ?_) (fun c20 => ?_)
    · -- taken
      first | refine r_aload_n (pc := 31) hC dX5_wasIn_31 rfl ?_ | refine r_aload_nN (pc := 31) hC dX5_wasIn_31 rfl ?_
      refine r_iconst (pc := 32) (nI 2) hC dX5_wasIn_32 (by decide) ?_
      refine r_callV (pc := 33) hC (cm_fail hC.fl hM0 hV (k := 2)) kv_X5_67 cls6 (show isK S 6 m from hM.k6) rfl rfl (Nat.le_of_ble_eq_true rfl) ⟨by decide, by decide, by decide, by decide⟩ dX5_wasIn_33 (fun _ _ h => h.elim) (fun v33 S33 h33 => ?_)
      obtain ⟨rfl, hM9, hF9⟩ := h33
      refine r_iret (pc := 36) hC hR dX5_wasIn_36 ?_ (by decide) (by decide)
      exact RQ.no (k := 2) ((kd_t (c10)).trans (kd_f (decide_eq_false (by omega)))) (by decide) (rfl) (MO.of (fr_th hM) hF9 hM9)
    · -- not
      refine r_iload_n (pc := 23) hC dX5_wasIn_23 rfl ?_
      first | refine r_aload_n (pc := 24) hC dX5_wasIn_24 rfl ?_ | refine r_aload_nN (pc := 24) hC dX5_wasIn_24 rfl ?_
      refine r_gf (pc := 25) (κ := 6) (j := 1) hC cls6 (by decide) kf_X5_91 hM0.k6 hM0.s1 dX5_wasIn_25 ?_
      first | refine rn_icmp_le (pc := 28) (tgt := 37) hC dX5_wasIn_28 (by decide) (by omega) (by omega) (fun c28 => ?_) (fun c28 => ?_) | refine ri_icmp_le (pc := 28) (tgt := 37) hC dX5_wasIn_28 (by decide) (fun c28 => ?_) (fun c28 => ?_)
      · -- taken
        have hw : wi 0 (mi σ) q = true := decide_eq_true (by omega)
        have eq9 := iN_toInt (p := q) (by omega)
        rw [show Value.int q = Value.int (nI (iN q)) by rw [nI_iN (by omega)]]
        refine r_iconst (pc := 37) (nI 0) hC dX5_wasIn_37 (by decide) ?_
        refine r_istore_n (pc := 38) hC dX5_wasIn_38 (by decide) ?_
        refine r_iconst (pc := 39) (nI 0) hC dX5_wasIn_39 (by decide) ?_
        refine r_istore (pc := 40) hC dX5_wasIn_40 (by decide) ?_
        have hlp : ∀ n9 i, i + n9 = mv σ → At Γ G V 0 0 (sF S 0 m (.int (nI 0))) [(0, .ref m), (1, .int (nI (iN p))), (2, .int (nI (iN q))), (3, .int (nI (lkL σ (iN p) (iN q) (i)))), (4, .int (nI (i)))] 42 [] := by
          intro n9
          induction n9 with
          | zero =>
            intro i hi
            refine r_iload (pc := 42) hC dX5_wasIn_42 rfl ?_
            first | refine r_aload_n (pc := 44) hC dX5_wasIn_44 rfl ?_ | refine r_aload_nN (pc := 44) hC dX5_wasIn_44 rfl ?_
            refine r_gf (pc := 45) (κ := 6) (j := 18) hC cls6 (by decide) kf_X5_141 hM0.k6 hM0.s18 dX5_wasIn_45 ?_
            first | refine rn_icmp_ge (pc := 48) (tgt := 97) hC dX5_wasIn_48 (by decide) (by omega) (by omega) (fun c48 => ?_) (fun c48 => ?_) | refine ri_icmp_ge (pc := 48) (tgt := 97) hC dX5_wasIn_48 (by decide) (fun c48 => ?_) (fun c48 => ?_)
            · -- taken
              refine r_iload_n (pc := 97) hC dX5_wasIn_97 rfl ?_
              refine r_iret (pc := 98) hC hR dX5_wasIn_98 ?_ (by decide) (by decide)
              have e : i = mv σ := by omega
              subst e
              exact RQ.ok ((kd_t (c10)).trans ((kd_t (hw)).trans (rfl))) (rfl) (MO.t0 hM)
            · -- not
              exfalso; omega
          | succ n9 ih =>
            intro i hi
            have hi2 : i < mv σ := by omega
            have hl2 := hL.2.1 i hi2
            refine r_iload (pc := 42) hC dX5_wasIn_42 rfl ?_
            first | refine r_aload_n (pc := 44) hC dX5_wasIn_44 rfl ?_ | refine r_aload_nN (pc := 44) hC dX5_wasIn_44 rfl ?_
            refine r_gf (pc := 45) (κ := 6) (j := 18) hC cls6 (by decide) kf_X5_141 hM0.k6 hM0.s18 dX5_wasIn_45 ?_
            first | refine rn_icmp_ge (pc := 48) (tgt := 97) hC dX5_wasIn_48 (by decide) (by omega) (by omega) (fun c48 => ?_) (fun c48 => ?_) | refine ri_icmp_ge (pc := 48) (tgt := 97) hC dX5_wasIn_48 (by decide) (fun c48 => ?_) (fun c48 => ?_)
            · -- taken
              exfalso; omega
            · -- not
              first | refine r_aload_n (pc := 51) hC dX5_wasIn_51 rfl ?_ | refine r_aload_nN (pc := 51) hC dX5_wasIn_51 rfl ?_
              refine r_gf (pc := 52) (κ := 6) (j := 19) hC cls6 (by decide) kf_X5_51 hM0.k6 (hM0.a (j := 19) (by decide)) dX5_wasIn_52 ?_
              refine r_iconst (pc := 55) (nI 3) hC dX5_wasIn_55 (by decide) ?_
              refine r_iload (pc := 56) hC dX5_wasIn_56 rfl ?_
              first | refine rn_imul (pc := 58) hC dX5_wasIn_58 ?_ | refine r_imul (pc := 58) hC dX5_wasIn_58 ?_
              refine r_iald (pc := 59) hC dX5_wasIn_59 (hM0.kd (j := 19) (by decide)) (hM0.r19a hi2).1 (hM0.r19a hi2).2.1 (hM0.r19a hi2).2.2 ?_
              refine r_iload_n (pc := 60) hC dX5_wasIn_60 rfl ?_
              first | refine rn_icmp_ne (pc := 61) (tgt := 91) hC dX5_wasIn_61 (by decide) (by omega) (by omega) (fun c61 => ?_) (fun c61 => ?_) | refine ri_icmp_ne (pc := 61) (tgt := 91) hC dX5_wasIn_61 (by decide) (fun c61 => ?_) (fun c61 => ?_)
              · -- taken
                first | refine rn_iinc (pc := 91) (q := 1) hC dX5_wasIn_91 rfl (by decide) ?_ | refine r_iinc (pc := 91) _ hC dX5_wasIn_91 rfl rfl (by decide) ?_
                refine r_goto (pc := 94) (tgt := 42) hC dX5_wasIn_94 (by decide) ?_
                have e2 : lkL σ (iN p) (iN q) (i + 1) = lkL σ (iN p) (iN q) i := if_neg (fun q => c61 q.1)
                refine at_lv (lv' := [(0, .ref m), (1, .int (nI (iN p))), (2, .int (nI (iN q))), (3, .int (nI (lkL σ (iN p) (iN q) (i + 1)))), (4, .int (nI (i + 1)))]) ⟨rfl, rfl, rfl, by rw [e2]; rfl, rfl, trivial⟩ ?_
                exact ih (i + 1) (by omega)
              · -- not
                first | refine r_aload_n (pc := 64) hC dX5_wasIn_64 rfl ?_ | refine r_aload_nN (pc := 64) hC dX5_wasIn_64 rfl ?_
                refine r_gf (pc := 65) (κ := 6) (j := 19) hC cls6 (by decide) kf_X5_51 hM0.k6 (hM0.a (j := 19) (by decide)) dX5_wasIn_65 ?_
                refine r_iconst (pc := 68) (nI 3) hC dX5_wasIn_68 (by decide) ?_
                refine r_iload (pc := 69) hC dX5_wasIn_69 rfl ?_
                first | refine rn_imul (pc := 71) hC dX5_wasIn_71 ?_ | refine r_imul (pc := 71) hC dX5_wasIn_71 ?_
                refine r_iconst (pc := 72) (nI 1) hC dX5_wasIn_72 (by decide) ?_
                first | refine rn_iadd (pc := 73) hC dX5_wasIn_73 ?_ | refine r_iadd (pc := 73) hC dX5_wasIn_73 ?_
                refine r_iald (pc := 74) hC dX5_wasIn_74 (hM0.kd (j := 19) (by decide)) (hM0.r19b hi2).1 (hM0.r19b hi2).2.1 (hM0.r19b hi2).2.2 ?_
                refine r_iload_n (pc := 75) hC dX5_wasIn_75 rfl ?_
                first | refine rn_icmp_gt (pc := 76) (tgt := 91) hC dX5_wasIn_76 (by decide) (by omega) (by omega) (fun c76 => ?_) (fun c76 => ?_) | refine ri_icmp_gt (pc := 76) (tgt := 91) hC dX5_wasIn_76 (by decide) (fun c76 => ?_) (fun c76 => ?_)
                · -- taken
                  first | refine rn_iinc (pc := 91) (q := 1) hC dX5_wasIn_91 rfl (by decide) ?_ | refine r_iinc (pc := 91) _ hC dX5_wasIn_91 rfl rfl (by decide) ?_
                  refine r_goto (pc := 94) (tgt := 42) hC dX5_wasIn_94 (by decide) ?_
                  have e2 : lkL σ (iN p) (iN q) (i + 1) = lkL σ (iN p) (iN q) i := if_neg (fun q => absurd q.2 (by omega))
                  refine at_lv (lv' := [(0, .ref m), (1, .int (nI (iN p))), (2, .int (nI (iN q))), (3, .int (nI (lkL σ (iN p) (iN q) (i + 1)))), (4, .int (nI (i + 1)))]) ⟨rfl, rfl, rfl, by rw [e2]; rfl, rfl, trivial⟩ ?_
                  exact ih (i + 1) (by omega)
                · -- not
                  first | refine r_aload_n (pc := 79) hC dX5_wasIn_79 rfl ?_ | refine r_aload_nN (pc := 79) hC dX5_wasIn_79 rfl ?_
                  refine r_gf (pc := 80) (κ := 6) (j := 19) hC cls6 (by decide) kf_X5_51 hM0.k6 (hM0.a (j := 19) (by decide)) dX5_wasIn_80 ?_
                  refine r_iconst (pc := 83) (nI 3) hC dX5_wasIn_83 (by decide) ?_
                  refine r_iload (pc := 84) hC dX5_wasIn_84 rfl ?_
                  first | refine rn_imul (pc := 86) hC dX5_wasIn_86 ?_ | refine r_imul (pc := 86) hC dX5_wasIn_86 ?_
                  refine r_iconst (pc := 87) (nI 2) hC dX5_wasIn_87 (by decide) ?_
                  first | refine rn_iadd (pc := 88) hC dX5_wasIn_88 ?_ | refine r_iadd (pc := 88) hC dX5_wasIn_88 ?_
                  refine r_iald (pc := 89) hC dX5_wasIn_89 (hM0.kd (j := 19) (by decide)) (hM0.r19c hi2).1 (hM0.r19c hi2).2.1 (hM0.r19c hi2).2.2 ?_
                  refine r_istore_n (pc := 90) hC dX5_wasIn_90 (by decide) ?_
                  first | refine rn_iinc (pc := 91) (q := 1) hC dX5_wasIn_91 rfl (by decide) ?_ | refine r_iinc (pc := 91) _ hC dX5_wasIn_91 rfl rfl (by decide) ?_
                  refine r_goto (pc := 94) (tgt := 42) hC dX5_wasIn_94 (by decide) ?_
                  have e2 : lkL σ (iN p) (iN q) (i + 1) = lgz σ i := if_pos ⟨c61, by omega⟩
                  refine at_lv (lv' := [(0, .ref m), (1, .int (nI (iN p))), (2, .int (nI (iN q))), (3, .int (nI (lkL σ (iN p) (iN q) (i + 1)))), (4, .int (nI (i + 1)))]) ⟨rfl, rfl, rfl, by rw [e2]; rfl, rfl, trivial⟩ ?_
                  exact ih (i + 1) (by omega)
        refine at_lv (lv' := [(0, .ref m), (1, .int (nI (iN p))), (2, .int (nI (iN q))), (3, .int (nI (lkL σ (iN p) (iN q) (0)))), (4, .int (nI (0)))]) ⟨rfl, rfl, rfl, rfl, rfl, trivial⟩ ?_
        exact hlp (mv σ) 0 (by omega)
      · -- not
        first | refine r_aload_n (pc := 31) hC dX5_wasIn_31 rfl ?_ | refine r_aload_nN (pc := 31) hC dX5_wasIn_31 rfl ?_
        refine r_iconst (pc := 32) (nI 2) hC dX5_wasIn_32 (by decide) ?_
        refine r_callV (pc := 33) hC (cm_fail hC.fl hM0 hV (k := 2)) kv_X5_67 cls6 (show isK S 6 m from hM.k6) rfl rfl (Nat.le_of_ble_eq_true rfl) ⟨by decide, by decide, by decide, by decide⟩ dX5_wasIn_33 (fun _ _ h => h.elim) (fun v33 S33 h33 => ?_)
        obtain ⟨rfl, hM9, hF9⟩ := h33
        refine r_iret (pc := 36) hC hR dX5_wasIn_36 ?_ (by decide) (by decide)
        exact RQ.no (k := 2) ((kd_t (c10)).trans (kd_f (decide_eq_false (by omega)))) (by decide) (rfl) (MO.of (fr_th hM) hF9 hM9)
  · -- not
    first | refine r_aload_n (pc := 13) hC dX5_wasIn_13 rfl ?_ | refine r_aload_nN (pc := 13) hC dX5_wasIn_13 rfl ?_
    refine r_iconst (pc := 14) (nI 1) hC dX5_wasIn_14 (by decide) ?_
    refine r_callV (pc := 15) hC (cm_fail hC.fl hM0 hV (k := 1)) kv_X5_67 cls6 (show isK S 6 m from hM.k6) rfl rfl (Nat.le_of_ble_eq_true rfl) ⟨by decide, by decide, by decide, by decide⟩ dX5_wasIn_15 (fun _ _ h => h.elim) (fun v15 S15 h15 => ?_)
    obtain ⟨rfl, hM9, hF9⟩ := h15
    refine r_iret (pc := 18) hC hR dX5_wasIn_18 ?_ (by decide) (by decide)
    exact RQ.no (k := 1) (kd_f (c10)) (by decide) (rfl) (MO.of (fr_th hM) hF9 hM9)
abbrev rm_X5_minutesIn : Room := { frames := 1, cells := 0, slots := 0, locals := 21 }
set_option maxHeartbeats 4000000 in
set_option maxRecDepth 100000 in
theorem cq_minutesIn {l : Launch} {G : Ids} {S : Ps} {M : Nat → Nat} {σ : Sg} {m t : Nat} {p q : Int32} {n9 : Nat} (hfl : l.stackTraces = false) (hM : RM S M σ m t) (hV : InvC σ) (hJ : Inv σ n9) : Ct l (Cond.code yX5_minutesIn cX5_minutesIn 7 (some .int)) yX5_minutesIn rm_X5_minutesIn G [.ref m, .int p, .int q] S (fun v S9 => RQ S [(1, inB σ p), (1, inZ σ q)] (.int (nI (minZ σ (iN p) (iN q)))) σ (σ) m v S9) (fun _ _ => False) := by
  refine Ct.of hfl (by decide) (Nat.le_of_ble_eq_true rfl) (fun Γ V hC hR hT hI => ?_)
  have hn := hV.n
  have hM0 := hM.th (v := 0)
  have hl9 := hM.2
  have hL19 := hM.l (j := 19) (by decide)
  have hL := hJ.2.2.1
  first | refine r_aload_n (pc := 0) hC dX5_minutesIn_0 rfl ?_ | refine r_aload_nN (pc := 0) hC dX5_minutesIn_0 rfl ?_
  refine r_iconst (pc := 1) (nI 0) hC dX5_minutesIn_1 (by decide) ?_
  refine r_pf (pc := 2) (κ := 6) (j := 0) hC cls6 (by decide) kf_X5_54 hM.k6 rfl rfl rfl dX5_minutesIn_2 ?_
  first | refine r_aload_n (pc := 5) hC dX5_minutesIn_5 rfl ?_ | refine r_aload_nN (pc := 5) hC dX5_minutesIn_5 rfl ?_
  refine r_iload_n (pc := 6) hC dX5_minutesIn_6 rfl ?_
  refine r_callV (pc := 7) hC (cm_isBadge hC.fl hM0 hV (p := p)) kv_X5_112 cls6 (show isK S 6 m from hM.k6) rfl rfl (Nat.le_of_ble_eq_true rfl) ⟨by decide, by decide, by decide, by decide⟩ dX5_minutesIn_7 (fun _ _ h => h.elim) (fun v7 S7 h7 => ?_)
  obtain ⟨rfl, rfl⟩ := h7
  first | refine rb_if_eq (pc := 10) (tgt := 21) hC dX5_minutesIn_10 (by decide) (fun c10 => ?_) (fun c10 => ?_) | refine rn_if_eq (pc := 10) (tgt := 21) hC dX5_minutesIn_10 (by decide) (by omega) (fun c10 => ?_) (fun c10 => ?_) | refine ri_if_eq (pc := 10) (tgt := 21) hC dX5_minutesIn_10 (by decide) (fun c10 => ?_) (fun c10 => ?_)
  · -- taken
    first | refine r_aload_n (pc := 21) hC dX5_minutesIn_21 rfl ?_ | refine r_aload_nN (pc := 21) hC dX5_minutesIn_21 rfl ?_
    refine r_iconst (pc := 22) (nI 1) hC dX5_minutesIn_22 (by decide) ?_
    refine r_callV (pc := 23) hC (cm_fail hC.fl hM0 hV (k := 1)) kv_X5_67 cls6 (show isK S 6 m from hM.k6) rfl rfl (Nat.le_of_ble_eq_true rfl) ⟨by decide, by decide, by decide, by decide⟩ dX5_minutesIn_23 (fun _ _ h => h.elim) (fun v23 S23 h23 => ?_)
    obtain ⟨rfl, hM9, hF9⟩ := h23
    refine r_iret (pc := 26) hC hR dX5_minutesIn_26 ?_ (by decide) (by decide)
    exact RQ.no (k := 1) (kd_f (c10)) (by decide) (rfl) (MO.of (fr_th hM) hF9 hM9)
  · -- not
    first | refine r_aload_n (pc := 13) hC dX5_minutesIn_13 rfl ?_ | refine r_aload_nN (pc := 13) hC dX5_minutesIn_13 rfl ?_
    refine r_iload_n (pc := 14) hC dX5_minutesIn_14 rfl ?_
    refine r_callV (pc := 15) hC (cm_isZone hC.fl hM0 hV (p := q)) kv_X5_71 cls6 (show isK S 6 m from hM.k6) rfl rfl (Nat.le_of_ble_eq_true rfl) ⟨by decide, by decide, by decide, by decide⟩ dX5_minutesIn_15 (fun _ _ h => h.elim) (fun v15 S15 h15 => ?_)
    obtain ⟨rfl, rfl⟩ := h15
    first | refine rb_if_ne (pc := 18) (tgt := 27) hC dX5_minutesIn_18 (by decide) (fun c18 => ?_) (fun c18 => ?_) | refine rn_if_ne (pc := 18) (tgt := 27) hC dX5_minutesIn_18 (by decide) (by omega) (fun c18 => ?_) (fun c18 => ?_) | refine ri_if_ne (pc := 18) (tgt := 27) hC dX5_minutesIn_18 (by decide) (fun c18 => ?_) (fun c18 => ?_)
    · -- taken
      have hBp := inB_n c10
      have hh9 := (hV.vb hBp).2.2.1
      have hdp := inB_d c10
      rw [show Value.int p = Value.int (nI (iN p)) by rw [nI_iN (by omega)]]
      have hZq := inZ_n c18
      have hdq := inZ_d c18
      rw [show Value.int q = Value.int (nI (iN q)) by rw [nI_iN (by omega)]]
      refine r_iconst (pc := 27) (nI 0) hC dX5_minutesIn_27 (by decide) ?_
      refine r_istore_n (pc := 28) hC dX5_minutesIn_28 (by decide) ?_
      refine r_iconst (pc := 29) (nI 0) hC dX5_minutesIn_29 (by decide) ?_
      refine r_istore (pc := 30) hC dX5_minutesIn_30 (by decide) ?_
      refine r_iconst (pc := 32) (nI 0) hC dX5_minutesIn_32 (by decide) ?_
      refine r_istore (pc := 33) hC dX5_minutesIn_33 (by decide) ?_
      refine r_iconst (pc := 35) (nI 0) hC dX5_minutesIn_35 (by decide) ?_
      refine r_istore (pc := 36) hC dX5_minutesIn_36 (by decide) ?_
      have hlp : ∀ n9 i, i + n9 = mv σ → At Γ G V 0 0 (sF S 0 m (.int (nI 0))) [(0, .ref m), (1, .int (nI (iN p))), (2, .int (nI (iN q))), (3, .int (nI (lgM σ (iN p) (iN q) (i)))), (4, .int (nI (lgA σ (iN p) (i)).1)), (5, .int (nI (lgA σ (iN p) (i)).2)), (6, .int (nI (i)))] 38 [] := by
        intro n9
        induction n9 with
        | zero =>
          intro i hi
          have e : i = mv σ := by omega
          subst e
          have h1 := (lgA_le (b := (iN p)) hL (mv σ) (Nat.le_refl _)).1
          have h2 := lgA2_lt (b := (iN p)) hL hn.1 (mv σ) (Nat.le_refl _)
          refine r_iload (pc := 38) hC dX5_minutesIn_38 rfl ?_
          first | refine r_aload_n (pc := 40) hC dX5_minutesIn_40 rfl ?_ | refine r_aload_nN (pc := 40) hC dX5_minutesIn_40 rfl ?_
          refine r_gf (pc := 41) (κ := 6) (j := 18) hC cls6 (by decide) kf_X5_141 hM0.k6 hM0.s18 dX5_minutesIn_41 ?_
          first | refine rn_icmp_ge (pc := 44) (tgt := 122) hC dX5_minutesIn_44 (by decide) (by omega) (by omega) (fun c44 => ?_) (fun c44 => ?_) | refine ri_icmp_ge (pc := 44) (tgt := 122) hC dX5_minutesIn_44 (by decide) (fun c44 => ?_) (fun c44 => ?_)
          · -- taken
            refine r_iload_n (pc := 122) hC dX5_minutesIn_122 rfl ?_
            refine r_iload (pc := 123) hC dX5_minutesIn_123 rfl ?_
            refine r_iload_n (pc := 125) hC dX5_minutesIn_125 rfl ?_
            first | refine rn_icmp_ne (pc := 126) (tgt := 139) hC dX5_minutesIn_126 (by decide) (by omega) (by omega) (fun c126 => ?_) (fun c126 => ?_) | refine ri_icmp_ne (pc := 126) (tgt := 139) hC dX5_minutesIn_126 (by decide) (fun c126 => ?_) (fun c126 => ?_)
            · -- taken
              refine r_iconst (pc := 139) (nI 0) hC dX5_minutesIn_139 (by decide) ?_
              first | refine rn_iadd (pc := 140) hC dX5_minutesIn_140 ?_ | refine r_iadd (pc := 140) hC dX5_minutesIn_140 ?_
              refine r_iret (pc := 141) hC hR dX5_minutesIn_141 ?_ (by decide) (by decide)
              exact RQ.ok ((kd_t (c10)).trans ((kd_t (c18)).trans (rfl))) (by have h9 := lgM_min (b := (iN p)) (z := (iN q)) hJ; rw [if_neg c126] at h9; rw [← h9]) (MO.t0 hM)
            · -- not
              first | refine r_aload_n (pc := 129) hC dX5_minutesIn_129 rfl ?_ | refine r_aload_nN (pc := 129) hC dX5_minutesIn_129 rfl ?_
              refine r_gf (pc := 130) (κ := 6) (j := 1) hC cls6 (by decide) kf_X5_91 hM0.k6 hM0.s1 dX5_minutesIn_130 ?_
              refine r_iload (pc := 133) hC dX5_minutesIn_133 rfl ?_
              first | refine rn_isub (pc := 135) hC dX5_minutesIn_135 (by omega) ?_ | refine r_isub (pc := 135) hC dX5_minutesIn_135 ?_
              refine r_goto (pc := 136) (tgt := 140) hC dX5_minutesIn_136 (by decide) ?_
              first | refine rn_iadd (pc := 140) hC dX5_minutesIn_140 ?_ | refine r_iadd (pc := 140) hC dX5_minutesIn_140 ?_
              refine r_iret (pc := 141) hC hR dX5_minutesIn_141 ?_ (by decide) (by decide)
              exact RQ.ok ((kd_t (c10)).trans ((kd_t (c18)).trans (rfl))) (by have h9 := lgM_min (b := (iN p)) (z := (iN q)) hJ; rw [if_pos c126] at h9; rw [← h9]) (MO.t0 hM)
          · -- not
            exfalso; omega
        | succ n9 ih =>
          intro i hi
          have hi2 : i < mv σ := by omega
          have hl2 := hL.2.1 i hi2
          have h1 := (lgA_le (b := (iN p)) hL i (by omega)).2 i (Nat.le_refl _) hi2
          have h2 := lgA2_lt (b := (iN p)) hL hn.1 i (by omega)
          refine r_iload (pc := 38) hC dX5_minutesIn_38 rfl ?_
          first | refine r_aload_n (pc := 40) hC dX5_minutesIn_40 rfl ?_ | refine r_aload_nN (pc := 40) hC dX5_minutesIn_40 rfl ?_
          refine r_gf (pc := 41) (κ := 6) (j := 18) hC cls6 (by decide) kf_X5_141 hM0.k6 hM0.s18 dX5_minutesIn_41 ?_
          first | refine rn_icmp_ge (pc := 44) (tgt := 122) hC dX5_minutesIn_44 (by decide) (by omega) (by omega) (fun c44 => ?_) (fun c44 => ?_) | refine ri_icmp_ge (pc := 44) (tgt := 122) hC dX5_minutesIn_44 (by decide) (fun c44 => ?_) (fun c44 => ?_)
          · -- taken
            exfalso; omega
          · -- not
            first | refine r_aload_n (pc := 47) hC dX5_minutesIn_47 rfl ?_ | refine r_aload_nN (pc := 47) hC dX5_minutesIn_47 rfl ?_
            refine r_gf (pc := 48) (κ := 6) (j := 19) hC cls6 (by decide) kf_X5_51 hM0.k6 (hM0.a (j := 19) (by decide)) dX5_minutesIn_48 ?_
            refine r_iconst (pc := 51) (nI 3) hC dX5_minutesIn_51 (by decide) ?_
            refine r_iload (pc := 52) hC dX5_minutesIn_52 rfl ?_
            first | refine rn_imul (pc := 54) hC dX5_minutesIn_54 ?_ | refine r_imul (pc := 54) hC dX5_minutesIn_54 ?_
            refine r_iald (pc := 55) hC dX5_minutesIn_55 (hM0.kd (j := 19) (by decide)) (hM0.r19a hi2).1 (hM0.r19a hi2).2.1 (hM0.r19a hi2).2.2 ?_
            refine r_iload_n (pc := 56) hC dX5_minutesIn_56 rfl ?_
            first | refine rn_icmp_eq (pc := 57) (tgt := 63) hC dX5_minutesIn_57 (by decide) (by omega) (by omega) (fun c57 => ?_) (fun c57 => ?_) | refine ri_icmp_eq (pc := 57) (tgt := 63) hC dX5_minutesIn_57 (by decide) (fun c57 => ?_) (fun c57 => ?_)
            · -- taken
              refine r_iload_n (pc := 63) hC dX5_minutesIn_63 rfl ?_
              refine r_iload (pc := 64) hC dX5_minutesIn_64 rfl ?_
              refine r_iload_n (pc := 66) hC dX5_minutesIn_66 rfl ?_
              first | refine rn_icmp_ne (pc := 67) (tgt := 87) hC dX5_minutesIn_67 (by decide) (by omega) (by omega) (fun c67 => ?_) (fun c67 => ?_) | refine ri_icmp_ne (pc := 67) (tgt := 87) hC dX5_minutesIn_67 (by decide) (fun c67 => ?_) (fun c67 => ?_)
              · -- taken
                refine r_iconst (pc := 87) (nI 0) hC dX5_minutesIn_87 (by decide) ?_
                first | refine rn_iadd (pc := 88) hC dX5_minutesIn_88 ?_ | refine r_iadd (pc := 88) hC dX5_minutesIn_88 ?_
                refine r_istore_n (pc := 89) hC dX5_minutesIn_89 (by decide) ?_
                first | refine r_aload_n (pc := 90) hC dX5_minutesIn_90 rfl ?_ | refine r_aload_nN (pc := 90) hC dX5_minutesIn_90 rfl ?_
                refine r_gf (pc := 91) (κ := 6) (j := 19) hC cls6 (by decide) kf_X5_51 hM0.k6 (hM0.a (j := 19) (by decide)) dX5_minutesIn_91 ?_
                refine r_iconst (pc := 94) (nI 3) hC dX5_minutesIn_94 (by decide) ?_
                refine r_iload (pc := 95) hC dX5_minutesIn_95 rfl ?_
                first | refine rn_imul (pc := 97) hC dX5_minutesIn_97 ?_ | refine r_imul (pc := 97) hC dX5_minutesIn_97 ?_
                refine r_iconst (pc := 98) (nI 1) hC dX5_minutesIn_98 (by decide) ?_
                first | refine rn_iadd (pc := 99) hC dX5_minutesIn_99 ?_ | refine r_iadd (pc := 99) hC dX5_minutesIn_99 ?_
                refine r_iald (pc := 100) hC dX5_minutesIn_100 (hM0.kd (j := 19) (by decide)) (hM0.r19b hi2).1 (hM0.r19b hi2).2.1 (hM0.r19b hi2).2.2 ?_
                refine r_istore (pc := 101) hC dX5_minutesIn_101 (by decide) ?_
                first | refine r_aload_n (pc := 103) hC dX5_minutesIn_103 rfl ?_ | refine r_aload_nN (pc := 103) hC dX5_minutesIn_103 rfl ?_
                refine r_gf (pc := 104) (κ := 6) (j := 19) hC cls6 (by decide) kf_X5_51 hM0.k6 (hM0.a (j := 19) (by decide)) dX5_minutesIn_104 ?_
                refine r_iconst (pc := 107) (nI 3) hC dX5_minutesIn_107 (by decide) ?_
                refine r_iload (pc := 108) hC dX5_minutesIn_108 rfl ?_
                first | refine rn_imul (pc := 110) hC dX5_minutesIn_110 ?_ | refine r_imul (pc := 110) hC dX5_minutesIn_110 ?_
                refine r_iconst (pc := 111) (nI 2) hC dX5_minutesIn_111 (by decide) ?_
                first | refine rn_iadd (pc := 112) hC dX5_minutesIn_112 ?_ | refine r_iadd (pc := 112) hC dX5_minutesIn_112 ?_
                refine r_iald (pc := 113) hC dX5_minutesIn_113 (hM0.kd (j := 19) (by decide)) (hM0.r19c hi2).1 (hM0.r19c hi2).2.1 (hM0.r19c hi2).2.2 ?_
                refine r_istore (pc := 114) hC dX5_minutesIn_114 (by decide) ?_
                first | refine rn_iinc (pc := 116) (q := 1) hC dX5_minutesIn_116 rfl (by decide) ?_ | refine r_iinc (pc := 116) _ hC dX5_minutesIn_116 rfl rfl (by decide) ?_
                refine r_goto (pc := 119) (tgt := 38) hC dX5_minutesIn_119 (by decide) ?_
                have e3 := lgM_n c57 c67
                have e4 := lgA_k c57
                refine at_lv (lv' := [(0, .ref m), (1, .int (nI (iN p))), (2, .int (nI (iN q))), (3, .int (nI (lgM σ (iN p) (iN q) (i + 1)))), (4, .int (nI (lgA σ (iN p) (i + 1)).1)), (5, .int (nI (lgA σ (iN p) (i + 1)).2)), (6, .int (nI (i + 1)))]) ⟨rfl, rfl, rfl, by rw [e3]; rfl, by rw [e4]; rfl, by rw [e4]; rfl, rfl, trivial⟩ ?_
                exact ih (i + 1) (by omega)
              · -- not
                first | refine r_aload_n (pc := 70) hC dX5_minutesIn_70 rfl ?_ | refine r_aload_nN (pc := 70) hC dX5_minutesIn_70 rfl ?_
                refine r_gf (pc := 71) (κ := 6) (j := 19) hC cls6 (by decide) kf_X5_51 hM0.k6 (hM0.a (j := 19) (by decide)) dX5_minutesIn_71 ?_
                refine r_iconst (pc := 74) (nI 3) hC dX5_minutesIn_74 (by decide) ?_
                refine r_iload (pc := 75) hC dX5_minutesIn_75 rfl ?_
                first | refine rn_imul (pc := 77) hC dX5_minutesIn_77 ?_ | refine r_imul (pc := 77) hC dX5_minutesIn_77 ?_
                refine r_iconst (pc := 78) (nI 1) hC dX5_minutesIn_78 (by decide) ?_
                first | refine rn_iadd (pc := 79) hC dX5_minutesIn_79 ?_ | refine r_iadd (pc := 79) hC dX5_minutesIn_79 ?_
                refine r_iald (pc := 80) hC dX5_minutesIn_80 (hM0.kd (j := 19) (by decide)) (hM0.r19b hi2).1 (hM0.r19b hi2).2.1 (hM0.r19b hi2).2.2 ?_
                refine r_iload (pc := 81) hC dX5_minutesIn_81 rfl ?_
                first | refine rn_isub (pc := 83) hC dX5_minutesIn_83 (by omega) ?_ | refine r_isub (pc := 83) hC dX5_minutesIn_83 ?_
                refine r_goto (pc := 84) (tgt := 88) hC dX5_minutesIn_84 (by decide) ?_
                first | refine rn_iadd (pc := 88) hC dX5_minutesIn_88 ?_ | refine r_iadd (pc := 88) hC dX5_minutesIn_88 ?_
                refine r_istore_n (pc := 89) hC dX5_minutesIn_89 (by decide) ?_
                first | refine r_aload_n (pc := 90) hC dX5_minutesIn_90 rfl ?_ | refine r_aload_nN (pc := 90) hC dX5_minutesIn_90 rfl ?_
                refine r_gf (pc := 91) (κ := 6) (j := 19) hC cls6 (by decide) kf_X5_51 hM0.k6 (hM0.a (j := 19) (by decide)) dX5_minutesIn_91 ?_
                refine r_iconst (pc := 94) (nI 3) hC dX5_minutesIn_94 (by decide) ?_
                refine r_iload (pc := 95) hC dX5_minutesIn_95 rfl ?_
                first | refine rn_imul (pc := 97) hC dX5_minutesIn_97 ?_ | refine r_imul (pc := 97) hC dX5_minutesIn_97 ?_
                refine r_iconst (pc := 98) (nI 1) hC dX5_minutesIn_98 (by decide) ?_
                first | refine rn_iadd (pc := 99) hC dX5_minutesIn_99 ?_ | refine r_iadd (pc := 99) hC dX5_minutesIn_99 ?_
                refine r_iald (pc := 100) hC dX5_minutesIn_100 (hM0.kd (j := 19) (by decide)) (hM0.r19b hi2).1 (hM0.r19b hi2).2.1 (hM0.r19b hi2).2.2 ?_
                refine r_istore (pc := 101) hC dX5_minutesIn_101 (by decide) ?_
                first | refine r_aload_n (pc := 103) hC dX5_minutesIn_103 rfl ?_ | refine r_aload_nN (pc := 103) hC dX5_minutesIn_103 rfl ?_
                refine r_gf (pc := 104) (κ := 6) (j := 19) hC cls6 (by decide) kf_X5_51 hM0.k6 (hM0.a (j := 19) (by decide)) dX5_minutesIn_104 ?_
                refine r_iconst (pc := 107) (nI 3) hC dX5_minutesIn_107 (by decide) ?_
                refine r_iload (pc := 108) hC dX5_minutesIn_108 rfl ?_
                first | refine rn_imul (pc := 110) hC dX5_minutesIn_110 ?_ | refine r_imul (pc := 110) hC dX5_minutesIn_110 ?_
                refine r_iconst (pc := 111) (nI 2) hC dX5_minutesIn_111 (by decide) ?_
                first | refine rn_iadd (pc := 112) hC dX5_minutesIn_112 ?_ | refine r_iadd (pc := 112) hC dX5_minutesIn_112 ?_
                refine r_iald (pc := 113) hC dX5_minutesIn_113 (hM0.kd (j := 19) (by decide)) (hM0.r19c hi2).1 (hM0.r19c hi2).2.1 (hM0.r19c hi2).2.2 ?_
                refine r_istore (pc := 114) hC dX5_minutesIn_114 (by decide) ?_
                first | refine rn_iinc (pc := 116) (q := 1) hC dX5_minutesIn_116 rfl (by decide) ?_ | refine r_iinc (pc := 116) _ hC dX5_minutesIn_116 rfl rfl (by decide) ?_
                refine r_goto (pc := 119) (tgt := 38) hC dX5_minutesIn_119 (by decide) ?_
                have e3 := lgM_y c57 c67
                have e4 := lgA_k c57
                refine at_lv (lv' := [(0, .ref m), (1, .int (nI (iN p))), (2, .int (nI (iN q))), (3, .int (nI (lgM σ (iN p) (iN q) (i + 1)))), (4, .int (nI (lgA σ (iN p) (i + 1)).1)), (5, .int (nI (lgA σ (iN p) (i + 1)).2)), (6, .int (nI (i + 1)))]) ⟨rfl, rfl, rfl, by rw [e3]; rfl, by rw [e4]; rfl, by rw [e4]; rfl, rfl, trivial⟩ ?_
                exact ih (i + 1) (by omega)
            · -- not
              refine r_goto (pc := 60) (tgt := 116) hC dX5_minutesIn_60 (by decide) ?_
              first | refine rn_iinc (pc := 116) (q := 1) hC dX5_minutesIn_116 rfl (by decide) ?_ | refine r_iinc (pc := 116) _ hC dX5_minutesIn_116 rfl rfl (by decide) ?_
              refine r_goto (pc := 119) (tgt := 38) hC dX5_minutesIn_119 (by decide) ?_
              have e3 := lgM_o (z := (iN q)) c57
              have e4 := lgA_o c57
              refine at_lv (lv' := [(0, .ref m), (1, .int (nI (iN p))), (2, .int (nI (iN q))), (3, .int (nI (lgM σ (iN p) (iN q) (i + 1)))), (4, .int (nI (lgA σ (iN p) (i + 1)).1)), (5, .int (nI (lgA σ (iN p) (i + 1)).2)), (6, .int (nI (i + 1)))]) ⟨rfl, rfl, rfl, by rw [e3]; rfl, by rw [e4]; rfl, by rw [e4]; rfl, rfl, trivial⟩ ?_
              exact ih (i + 1) (by omega)
      refine at_lv (lv' := [(0, .ref m), (1, .int (nI (iN p))), (2, .int (nI (iN q))), (3, .int (nI (lgM σ (iN p) (iN q) (0)))), (4, .int (nI (lgA σ (iN p) (0)).1)), (5, .int (nI (lgA σ (iN p) (0)).2)), (6, .int (nI (0)))]) ⟨rfl, rfl, rfl, rfl, rfl, rfl, rfl, trivial⟩ ?_
      exact hlp (mv σ) 0 (by omega)
    · -- not
      first | refine r_aload_n (pc := 21) hC dX5_minutesIn_21 rfl ?_ | refine r_aload_nN (pc := 21) hC dX5_minutesIn_21 rfl ?_
      refine r_iconst (pc := 22) (nI 1) hC dX5_minutesIn_22 (by decide) ?_
      refine r_callV (pc := 23) hC (cm_fail hC.fl hM0 hV (k := 1)) kv_X5_67 cls6 (show isK S 6 m from hM.k6) rfl rfl (Nat.le_of_ble_eq_true rfl) ⟨by decide, by decide, by decide, by decide⟩ dX5_minutesIn_23 (fun _ _ h => h.elim) (fun v23 S23 h23 => ?_)
      obtain ⟨rfl, hM9, hF9⟩ := h23
      refine r_iret (pc := 26) hC hR dX5_minutesIn_26 ?_ (by decide) (by decide)
      exact RQ.no (k := 1) ((kd_t (c10)).trans (kd_f (c18))) (by decide) (rfl) (MO.of (fr_th hM) hF9 hM9)
abbrev rm_X5_next : Room := { frames := 3, cells := 0, slots := 0, locals := 72 }
set_option maxHeartbeats 4000000 in
set_option maxRecDepth 100000 in
theorem cq_next {l : Launch} {G : Ids} {S : Ps} {M : Nat → Nat} {σ : Sg} {m t : Nat} {p q : Int32} (hfl : l.stackTraces = false) (hM : RM S M σ m t) (hV : InvC σ) : Ct l (Cond.code yX5_next cX5_next 7 (some .int)) yX5_next rm_X5_next G [.ref m, .int p, .int q] S (fun v S9 => RQ S [(1, inB σ p), (1, inZ σ q)] (.int (nxtI σ (iN p) (iN q))) σ (σ) m v S9) (fun _ _ => False) := by
  refine Ct.of hfl (by decide) (Nat.le_of_ble_eq_true rfl) (fun Γ V hC hR hT hI => ?_)
  have hn := hV.n
  have hM0 := hM.th (v := 0)
  first | refine r_aload_n (pc := 0) hC dX5_next_0 rfl ?_ | refine r_aload_nN (pc := 0) hC dX5_next_0 rfl ?_
  refine r_iconst (pc := 1) (nI 0) hC dX5_next_1 (by decide) ?_
  refine r_pf (pc := 2) (κ := 6) (j := 0) hC cls6 (by decide) kf_X5_54 hM.k6 rfl rfl rfl dX5_next_2 ?_
  first | refine r_aload_n (pc := 5) hC dX5_next_5 rfl ?_ | refine r_aload_nN (pc := 5) hC dX5_next_5 rfl ?_
  refine r_iload_n (pc := 6) hC dX5_next_6 rfl ?_
  refine r_callV (pc := 7) hC (cm_isBadge hC.fl hM0 hV (p := p)) kv_X5_112 cls6 (show isK S 6 m from hM.k6) rfl rfl (Nat.le_of_ble_eq_true rfl) ⟨by decide, by decide, by decide, by decide⟩ dX5_next_7 (fun _ _ h => h.elim) (fun v7 S7 h7 => ?_)
  obtain ⟨rfl, rfl⟩ := h7
  first | refine rb_if_eq (pc := 10) (tgt := 21) hC dX5_next_10 (by decide) (fun c10 => ?_) (fun c10 => ?_) | refine rn_if_eq (pc := 10) (tgt := 21) hC dX5_next_10 (by decide) (by omega) (fun c10 => ?_) (fun c10 => ?_) | refine ri_if_eq (pc := 10) (tgt := 21) hC dX5_next_10 (by decide) (fun c10 => ?_) (fun c10 => ?_)
  · -- taken
    first | refine r_aload_n (pc := 21) hC dX5_next_21 rfl ?_ | refine r_aload_nN (pc := 21) hC dX5_next_21 rfl ?_
    refine r_iconst (pc := 22) (nI 1) hC dX5_next_22 (by decide) ?_
    refine r_callV (pc := 23) hC (cm_fail hC.fl hM0 hV (k := 1)) kv_X5_67 cls6 (show isK S 6 m from hM.k6) rfl rfl (Nat.le_of_ble_eq_true rfl) ⟨by decide, by decide, by decide, by decide⟩ dX5_next_23 (fun _ _ h => h.elim) (fun v23 S23 h23 => ?_)
    obtain ⟨rfl, hM9, hF9⟩ := h23
    refine r_iret (pc := 26) hC hR dX5_next_26 ?_ (by decide) (by decide)
    exact RQ.no (k := 1) (kd_f (c10)) (by decide) (rfl) (MO.of (fr_th hM) hF9 hM9)
  · -- not
    first | refine r_aload_n (pc := 13) hC dX5_next_13 rfl ?_ | refine r_aload_nN (pc := 13) hC dX5_next_13 rfl ?_
    refine r_iload_n (pc := 14) hC dX5_next_14 rfl ?_
    refine r_callV (pc := 15) hC (cm_isZone hC.fl hM0 hV (p := q)) kv_X5_71 cls6 (show isK S 6 m from hM.k6) rfl rfl (Nat.le_of_ble_eq_true rfl) ⟨by decide, by decide, by decide, by decide⟩ dX5_next_15 (fun _ _ h => h.elim) (fun v15 S15 h15 => ?_)
    obtain ⟨rfl, rfl⟩ := h15
    first | refine rb_if_ne (pc := 18) (tgt := 27) hC dX5_next_18 (by decide) (fun c18 => ?_) (fun c18 => ?_) | refine rn_if_ne (pc := 18) (tgt := 27) hC dX5_next_18 (by decide) (by omega) (fun c18 => ?_) (fun c18 => ?_) | refine ri_if_ne (pc := 18) (tgt := 27) hC dX5_next_18 (by decide) (fun c18 => ?_) (fun c18 => ?_)
    · -- taken
      have hBp := inB_n c10
      have hh9 := (hV.vb hBp).2.2.1
      have hdp := inB_d c10
      rw [show Value.int p = Value.int (nI (iN p)) by rw [nI_iN (by omega)]]
      have hZq := inZ_n c18
      have hdq := inZ_d c18
      rw [show Value.int q = Value.int (nI (iN q)) by rw [nI_iN (by omega)]]
      have hb9 : (bset (okB σ (iN p)) (nz σ)) < 2 ^ 31 := Nat.lt_of_lt_of_le (bset_lt _ _) (Nat.pow_le_pow_right (by decide) (by omega))
      first | refine r_aload_n (pc := 27) hC dX5_next_27 rfl ?_ | refine r_aload_nN (pc := 27) hC dX5_next_27 rfl ?_
      refine r_iload_n (pc := 28) hC dX5_next_28 rfl ?_
      refine r_iload_n (pc := 29) hC dX5_next_29 rfl ?_
      refine r_callV (pc := 30) hC (cm_wayOf hC.fl hM0 hV hBp hZq) kv_X5_160 cls6 (show isK S 6 m from hM.k6) rfl rfl (Nat.le_of_ble_eq_true rfl) ⟨by decide, by decide, by decide, by decide⟩ dX5_next_30 (fun _ _ h => h.elim) (fun v30 S30 h30 => ?_)
      obtain ⟨rfl, rfl⟩ := h30
      refine r_istore_n (pc := 33) hC dX5_next_33 (by decide) ?_
      first | refine r_aload_n (pc := 34) hC dX5_next_34 rfl ?_ | refine r_aload_nN (pc := 34) hC dX5_next_34 rfl ?_
      refine r_iload_n (pc := 35) hC dX5_next_35 rfl ?_
      refine r_callV (pc := 36) hC (cm_allowed hC.fl hM0 hV hBp) kv_X5_157 cls6 (show isK S 6 m from hM.k6) rfl rfl (Nat.le_of_ble_eq_true rfl) ⟨by decide, by decide, by decide, by decide⟩ dX5_next_36 (fun _ _ h => h.elim) (fun v36 S36 h36 => ?_)
      obtain ⟨rfl, rfl⟩ := h36
      refine r_istore (pc := 39) hC dX5_next_39 (by decide) ?_
      refine r_iconst (pc := 41) (nI 0) hC dX5_next_41 (by decide) ?_
      refine r_istore (pc := 42) hC dX5_next_42 (by decide) ?_
      have hoth : ∀ i, i < nd σ → oth σ i (plc σ (iN p)) ≤ 100 := fun i hi => by
        by_cases q : oth σ i (plc σ (iN p)) = 0
        · omega
        · have := oth_lt hV hi q; omega
      have hlp : ∀ n9 i, i + n9 = nd σ → fstD (nxD σ (iN p) (iN q)) (nd σ) 0 = fstD (nxD σ (iN p) (iN q)) n9 i → At Γ G V 0 0 (sF S 0 m (.int (nI 0))) [(0, .ref m), (1, .int (nI (iN p))), (2, .int (nI (iN q))), (3, .int (wayI σ (iN p) (iN q))), (4, .int (nI (bset (okB σ (iN p)) (nz σ)))), (5, .int (nI (i)))] 44 [] := by
        intro n9
        induction n9 with
        | zero =>
          intro i hi hno
          refine r_iload (pc := 44) hC dX5_next_44 rfl ?_
          first | refine r_aload_n (pc := 46) hC dX5_next_46 rfl ?_ | refine r_aload_nN (pc := 46) hC dX5_next_46 rfl ?_
          refine r_gf (pc := 47) (κ := 6) (j := 7) hC cls6 (by decide) kf_X5_57 hM0.k6 hM0.s7 dX5_next_47 ?_
          first | refine rn_icmp_ge (pc := 50) (tgt := 111) hC dX5_next_50 (by decide) (by omega) (by omega) (fun c50 => ?_) (fun c50 => ?_) | refine ri_icmp_ge (pc := 50) (tgt := 111) hC dX5_next_50 (by decide) (fun c50 => ?_) (fun c50 => ?_)
          · -- taken
            refine r_iconst (pc := 111) (-1) hC dX5_next_111 (by decide) ?_
            refine r_iret (pc := 112) hC hR dX5_next_112 ?_ (by decide) (by decide)
            exact RQ.ok ((kd_t (c10)).trans ((kd_t (c18)).trans (rfl))) (by unfold nxtI; rw [hno]; split <;> rfl) (MO.t0 hM)
          · -- not
            exfalso; omega
        | succ n9 ih =>
          intro i hi hno
          have hi2 : i < nd σ := by omega
          refine r_iload (pc := 44) hC dX5_next_44 rfl ?_
          first | refine r_aload_n (pc := 46) hC dX5_next_46 rfl ?_ | refine r_aload_nN (pc := 46) hC dX5_next_46 rfl ?_
          refine r_gf (pc := 47) (κ := 6) (j := 7) hC cls6 (by decide) kf_X5_57 hM0.k6 hM0.s7 dX5_next_47 ?_
          first | refine rn_icmp_ge (pc := 50) (tgt := 111) hC dX5_next_50 (by decide) (by omega) (by omega) (fun c50 => ?_) (fun c50 => ?_) | refine ri_icmp_ge (pc := 50) (tgt := 111) hC dX5_next_50 (by decide) (fun c50 => ?_) (fun c50 => ?_)
          · -- taken
            exfalso; omega
          · -- not
            refine r_iload_n (pc := 53) hC dX5_next_53 rfl ?_
            first | refine rn_if_le (pc := 54) (tgt := 111) hC dX5_next_54 (by decide) (by omega) (fun c54 => ?_) (fun c54 => ?_) | refine ri_if_le (pc := 54) (tgt := 111) hC dX5_next_54 (by decide) (fun c54 => ?_) (fun c54 => ?_)
            · -- taken
              refine r_iconst (pc := 111) (-1) hC dX5_next_111 (by decide) ?_
              refine r_iret (pc := 112) hC hR dX5_next_112 ?_ (by decide) (by decide)
              have hd3 := dI_tI (a := (dst σ (okB σ (iN p)) (plc σ (iN p)) (iN q))) dst_le
              have hz : (dst σ (okB σ (iN p)) (plc σ (iN p)) (iN q)) = 9 ∨ (dst σ (okB σ (iN p)) (plc σ (iN p)) (iN q)) = 0 := by
                have c9 := c54
                rw [show wayI σ (iN p) (iN q) = dI (dst σ (okB σ (iN p)) (plc σ (iN p)) (iN q)) from rfl, hd3] at c9
                by_cases q : (dst σ (okB σ (iN p)) (plc σ (iN p)) (iN q)) = 9
                · exact Or.inl q
                · rw [if_neg q] at c9; exact Or.inr (by omega)
              exact RQ.ok ((kd_t (c10)).trans ((kd_t (c18)).trans (rfl))) (by unfold nxtI; rw [if_pos hz]) (MO.t0 hM)
            · -- not
              have hd3 := dI_tI (a := (dst σ (okB σ (iN p)) (plc σ (iN p)) (iN q))) dst_le
              have hd9 := dst_le (σ := σ) (w := okB σ (iN p)) (z := plc σ (iN p)) (t := iN q)
              have hD9 : ¬ (dst σ (okB σ (iN p)) (plc σ (iN p)) (iN q)) = 9 := fun q9 => by rw [show wayI σ (iN p) (iN q) = dI (dst σ (okB σ (iN p)) (plc σ (iN p)) (iN q)) from rfl, hd3, if_pos q9] at c54; omega
              have hD0 : ¬ (dst σ (okB σ (iN p)) (plc σ (iN p)) (iN q)) = 0 := fun q9 => by rw [show wayI σ (iN p) (iN q) = dI (dst σ (okB σ (iN p)) (plc σ (iN p)) (iN q)) from rfl, hd3, if_neg hD9, q9] at c54; omega
              have hw9 : Value.int (wayI σ (iN p) (iN q)) = Value.int (nI (dst σ (okB σ (iN p)) (plc σ (iN p)) (iN q))) := by rw [dI_k (by omega)]; rfl
              rw [hw9]
              first | refine r_aload_n (pc := 57) hC dX5_next_57 rfl ?_ | refine r_aload_nN (pc := 57) hC dX5_next_57 rfl ?_
              refine r_iload (pc := 58) hC dX5_next_58 rfl ?_
              first | refine r_aload_n (pc := 60) hC dX5_next_60 rfl ?_ | refine r_aload_nN (pc := 60) hC dX5_next_60 rfl ?_
              refine r_gf (pc := 61) (κ := 6) (j := 13) hC cls6 (by decide) kf_X5_35 hM0.k6 (hM0.a (j := 13) (by decide)) dX5_next_61 ?_
              refine r_iload_n (pc := 64) hC dX5_next_64 rfl ?_
              refine r_iald (pc := 65) hC dX5_next_65 (hM0.kd (j := 13) (by decide)) (hM0.r13 hBp).1 (hM0.r13 hBp).2.1 (hM0.r13 hBp).2.2 ?_
              refine r_callV (pc := 66) hC (cm_across hC.fl hM0 hV hi2 (hV.vb hBp).1) kv_X5_126 cls6 (show isK S 6 m from hM.k6) rfl rfl (Nat.le_of_ble_eq_true rfl) ⟨by decide, by decide, by decide, by decide⟩ dX5_next_66 (fun _ _ h => h.elim) (fun v66 S66 h66 => ?_)
              obtain ⟨rfl, rfl⟩ := h66
              refine r_istore (pc := 69) hC dX5_next_69 (by decide) ?_
              refine r_iload (pc := 71) hC dX5_next_71 rfl ?_
              refine r_iconst (pc := 73) (-1) hC dX5_next_73 (by decide) ?_
              refine r_icmp_eq (pc := 74) (tgt := 105) hC dX5_next_74 (by decide) (fun c74 => ?_) (fun c74 => ?_)
              · -- taken
                first | refine rn_iinc (pc := 105) (q := 1) hC dX5_next_105 rfl (by decide) ?_ | refine r_iinc (pc := 105) _ hC dX5_next_105 rfl rfl (by decide) ?_
                refine r_goto (pc := 108) (tgt := 44) hC dX5_next_108 (by decide) ?_
                have hh := acI_m1 (by have := hoth i hi2; omega) c74
                have e9 : nxD σ (iN p) (iN q) i = false := by unfold nxD; simp [hh]
                rw [← hw9]
                refine at_lv (lv' := [(0, .ref m), (1, .int (nI (iN p))), (2, .int (nI (iN q))), (3, .int (wayI σ (iN p) (iN q))), (4, .int (nI (bset (okB σ (iN p)) (nz σ)))), (5, .int (nI (i + 1)))]) ⟨rfl, rfl, rfl, rfl, rfl, rfl, trivial⟩ ?_
                exact ih (i + 1) (by omega) (hno.trans (if_neg (by rw [e9]; decide)))
              · -- not
                have hh : ¬ (oth σ i (plc σ (iN p))) = 0 := fun q => c74 (acI_n q)
                have hg := oth_lt hV hi2 hh
                rw [show Value.int (acI σ i (plc σ (iN p))) = Value.int (nI ((oth σ i (plc σ (iN p))) - 1)) by rw [acI_s hh]]
                refine r_iload (pc := 77) hC dX5_next_77 rfl ?_
                refine r_iload (pc := 79) hC dX5_next_79 rfl ?_
                refine r_callS (pc := 81) hC (cm_has hC.fl (s := (bset (okB σ (iN p)) (nz σ))) (z := (oth σ i (plc σ (iN p))) - 1) hb9 (by omega)) ks_X5_83 rfl rfl (Nat.le_of_ble_eq_true rfl) ⟨by decide, by decide, by decide, by decide⟩ dX5_next_81 (fun _ _ h => h.elim) (fun v81 S81 h81 => ?_)
                obtain ⟨rfl, rfl⟩ := h81
                rw [bs_bit hg]
                first | refine rb_if_eq (pc := 84) (tgt := 105) hC dX5_next_84 (by decide) (fun c84 => ?_) (fun c84 => ?_) | refine rn_if_eq (pc := 84) (tgt := 105) hC dX5_next_84 (by decide) (by omega) (fun c84 => ?_) (fun c84 => ?_) | refine ri_if_eq (pc := 84) (tgt := 105) hC dX5_next_84 (by decide) (fun c84 => ?_) (fun c84 => ?_)
                · -- taken
                  first | refine rn_iinc (pc := 105) (q := 1) hC dX5_next_105 rfl (by decide) ?_ | refine r_iinc (pc := 105) _ hC dX5_next_105 rfl rfl (by decide) ?_
                  refine r_goto (pc := 108) (tgt := 44) hC dX5_next_108 (by decide) ?_
                  have e9 : nxD σ (iN p) (iN q) i = false := by unfold nxD; rw [c84]; simp
                  rw [← hw9]
                  refine at_lv (lv' := [(0, .ref m), (1, .int (nI (iN p))), (2, .int (nI (iN q))), (3, .int (wayI σ (iN p) (iN q))), (4, .int (nI (bset (okB σ (iN p)) (nz σ)))), (5, .int (nI (i + 1)))]) ⟨rfl, rfl, rfl, rfl, rfl, rfl, trivial⟩ ?_
                  exact ih (i + 1) (by omega) (hno.trans (if_neg (by rw [e9]; decide)))
                · -- not
                  first | refine r_aload_n (pc := 87) hC dX5_next_87 rfl ?_ | refine r_aload_nN (pc := 87) hC dX5_next_87 rfl ?_
                  refine r_iload (pc := 88) hC dX5_next_88 rfl ?_
                  refine r_iload_n (pc := 90) hC dX5_next_90 rfl ?_
                  refine r_iload (pc := 91) hC dX5_next_91 rfl ?_
                  refine r_callV (pc := 93) hC (cm_steps hC.fl hM0 hV (ok := okB σ (iN p)) hg hZq hb9 (fun z hz => bs_bit hz)) kv_X5_87 cls6 (show isK S 6 m from hM.k6) rfl rfl (Nat.le_of_ble_eq_true rfl) ⟨by decide, by decide, by decide, by decide⟩ dX5_next_93 (fun _ _ h => h.elim) (fun v93 S93 h93 => ?_)
                  obtain ⟨rfl, rfl⟩ := h93
                  refine r_iload_n (pc := 96) hC dX5_next_96 rfl ?_
                  refine r_iconst (pc := 97) (nI 1) hC dX5_next_97 (by decide) ?_
                  first | refine rn_isub (pc := 98) hC dX5_next_98 (by omega) ?_ | refine r_isub (pc := 98) hC dX5_next_98 ?_
                  refine r_icmp_ne (pc := 99) (tgt := 105) hC dX5_next_99 (by decide) (fun c99 => ?_) (fun c99 => ?_)
                  · -- taken
                    first | refine rn_iinc (pc := 105) (q := 1) hC dX5_next_105 rfl (by decide) ?_ | refine r_iinc (pc := 105) _ hC dX5_next_105 rfl rfl (by decide) ?_
                    refine r_goto (pc := 108) (tgt := 44) hC dX5_next_108 (by decide) ?_
                    have e8 : ¬ dst σ (okB σ (iN p)) ((oth σ i (plc σ (iN p))) - 1) (iN q) + 1 = (dst σ (okB σ (iN p)) (plc σ (iN p)) (iN q)) := fun q => c99 ((dI_eq dst_le (by omega)).mpr (by omega))
                    have e9 : nxD σ (iN p) (iN q) i = false := by unfold nxD; simp [e8]
                    rw [← hw9]
                    refine at_lv (lv' := [(0, .ref m), (1, .int (nI (iN p))), (2, .int (nI (iN q))), (3, .int (wayI σ (iN p) (iN q))), (4, .int (nI (bset (okB σ (iN p)) (nz σ)))), (5, .int (nI (i + 1)))]) ⟨rfl, rfl, rfl, rfl, rfl, rfl, trivial⟩ ?_
                    exact ih (i + 1) (by omega) (hno.trans (if_neg (by rw [e9]; decide)))
                  · -- not
                    refine r_iload (pc := 102) hC dX5_next_102 rfl ?_
                    refine r_iret (pc := 104) hC hR dX5_next_104 ?_ (by decide) (by decide)
                    have e8 : dst σ (okB σ (iN p)) ((oth σ i (plc σ (iN p))) - 1) (iN q) + 1 = (dst σ (okB σ (iN p)) (plc σ (iN p)) (iN q)) := by have := (dI_eq (a := dst σ (okB σ (iN p)) ((oth σ i (plc σ (iN p))) - 1) (iN q)) (k := (dst σ (okB σ (iN p)) (plc σ (iN p)) (iN q)) - 1) dst_le (by omega)).mp c99; omega
                    have e9 : nxD σ (iN p) (iN q) i = true := by unfold nxD; rw [c84]; simp [hh, e8]
                    exact RQ.ok ((kd_t (c10)).trans ((kd_t (c18)).trans (rfl))) (by unfold nxtI; rw [if_neg (fun q => q.elim hD9 hD0), hno]; exact congrArg (fun k => some (Value.int k)) (if_pos e9).symm) (MO.t0 hM)
      refine at_lv (lv' := [(0, .ref m), (1, .int (nI (iN p))), (2, .int (nI (iN q))), (3, .int (wayI σ (iN p) (iN q))), (4, .int (nI (bset (okB σ (iN p)) (nz σ)))), (5, .int (nI (0)))]) ⟨rfl, rfl, rfl, rfl, rfl, rfl, trivial⟩ ?_
      exact hlp (nd σ) 0 (by omega) rfl
    · -- not
      first | refine r_aload_n (pc := 21) hC dX5_next_21 rfl ?_ | refine r_aload_nN (pc := 21) hC dX5_next_21 rfl ?_
      refine r_iconst (pc := 22) (nI 1) hC dX5_next_22 (by decide) ?_
      refine r_callV (pc := 23) hC (cm_fail hC.fl hM0 hV (k := 1)) kv_X5_67 cls6 (show isK S 6 m from hM.k6) rfl rfl (Nat.le_of_ble_eq_true rfl) ⟨by decide, by decide, by decide, by decide⟩ dX5_next_23 (fun _ _ h => h.elim) (fun v23 S23 h23 => ?_)
      obtain ⟨rfl, hM9, hF9⟩ := h23
      refine r_iret (pc := 26) hC hR dX5_next_26 ?_ (by decide) (by decide)
      exact RQ.no (k := 1) ((kd_t (c10)).trans (kd_f (c18))) (by decide) (rfl) (MO.of (fr_th hM) hF9 hM9)
abbrev rm_X5_digest : Room := { frames := 2, cells := 0, slots := 0, locals := 43 }
set_option maxHeartbeats 4000000 in
set_option maxRecDepth 100000 in
theorem cq_digest {l : Launch} {G : Ids} {S : Ps} {M : Nat → Nat} {σ : Sg} {m t : Nat} (hfl : l.stackTraces = false) (hM : RM S M σ m t) (hV : InvC σ) : Ct l (Cond.code yX5_digest cX5_digest 5 (some .long)) yX5_digest rm_X5_digest G [.ref m] S (fun v S9 => RQ S [] (.long (dig σ)) σ (σ) m v S9) (fun _ _ => False) := by
  refine Ct.of hfl (by decide) (Nat.le_of_ble_eq_true rfl) (fun Γ V hC hR hT hI => ?_)
  have hn := hV.n
  have hM0 := hM.th (v := 0)
  have hb : ∀ m8 i, i + m8 = nb σ → At Γ G V 0 0 (sF S 0 m (.int (nI 0))) [(0, .ref m), (1, .long (dgB σ (dgA (dgD σ (dgA (dgZ σ (dgA (dgA (dgA 179 (nI (mi σ))) (nI (al σ))) (nI (nz σ))) (nz σ)) (nI (nd σ))) (nd σ)) (nI (nb σ))) (i))), (3, .int (nI (i)))] 144 [] := by
    intro m8
    induction m8 with
    | zero =>
      intro i hi
      refine r_iload_n (pc := 144) hC dX5_digest_144 rfl ?_
      first | refine r_aload_n (pc := 145) hC dX5_digest_145 rfl ?_ | refine r_aload_nN (pc := 145) hC dX5_digest_145 rfl ?_
      refine r_gf (pc := 146) (κ := 6) (j := 12) hC cls6 (by decide) kf_X5_60 hM0.k6 hM0.s12 dX5_digest_146 ?_
      first | refine rn_icmp_ge (pc := 149) (tgt := 188) hC dX5_digest_149 (by decide) (by omega) (by omega) (fun c149 => ?_) (fun c149 => ?_) | refine ri_icmp_ge (pc := 149) (tgt := 188) hC dX5_digest_149 (by decide) (fun c149 => ?_) (fun c149 => ?_)
      · -- taken
        refine r_lload_n (pc := 188) hC dX5_digest_188 rfl ?_
        refine r_lret (pc := 189) hC hR dX5_digest_189 ?_ (by decide) (by decide)
        have e : i = nb σ := by omega
        subst e
        exact RQ.ok (rfl) (rfl) (MO.t0 hM)
      · -- not
        exfalso; omega
    | succ m8 ih =>
      intro i hi
      have hi2 : i < nb σ := by omega
      refine r_iload_n (pc := 144) hC dX5_digest_144 rfl ?_
      first | refine r_aload_n (pc := 145) hC dX5_digest_145 rfl ?_ | refine r_aload_nN (pc := 145) hC dX5_digest_145 rfl ?_
      refine r_gf (pc := 146) (κ := 6) (j := 12) hC cls6 (by decide) kf_X5_60 hM0.k6 hM0.s12 dX5_digest_146 ?_
      first | refine rn_icmp_ge (pc := 149) (tgt := 188) hC dX5_digest_149 (by decide) (by omega) (by omega) (fun c149 => ?_) (fun c149 => ?_) | refine ri_icmp_ge (pc := 149) (tgt := 188) hC dX5_digest_149 (by decide) (fun c149 => ?_) (fun c149 => ?_)
      · -- taken
        exfalso; omega
      · -- not
        refine r_iconst (pc := 152) (nI 0) hC dX5_digest_152 (by decide) ?_
        refine r_istore (pc := 153) hC dX5_digest_153 (by decide) ?_
        have ht : ∀ m9 j, j + m9 = 5 → At Γ G V 0 0 (sF S 0 m (.int (nI 0))) [(0, .ref m), (1, .long (dgT σ (i) (dgB σ (dgA (dgD σ (dgA (dgZ σ (dgA (dgA (dgA 179 (nI (mi σ))) (nI (al σ))) (nI (nz σ))) (nz σ)) (nI (nd σ))) (nd σ)) (nI (nb σ))) (i)) (j))), (3, .int (nI (i))), (4, .int (nI (j)))] 155 [] := by
          intro m9
          induction m9 with
          | zero =>
            intro j hj
            refine r_iload (pc := 155) hC dX5_digest_155 rfl ?_
            refine r_iconst (pc := 157) (nI 5) hC dX5_digest_157 (by decide) ?_
            first | refine rn_icmp_ge (pc := 158) (tgt := 182) hC dX5_digest_158 (by decide) (by omega) (by omega) (fun c158 => ?_) (fun c158 => ?_) | refine ri_icmp_ge (pc := 158) (tgt := 182) hC dX5_digest_158 (by decide) (fun c158 => ?_) (fun c158 => ?_)
            · -- taken
              first | refine rn_iinc (pc := 182) (q := 1) hC dX5_digest_182 rfl (by decide) ?_ | refine r_iinc (pc := 182) _ hC dX5_digest_182 rfl rfl (by decide) ?_
              refine r_goto (pc := 185) (tgt := 144) hC dX5_digest_185 (by decide) ?_
              have e : j = 5 := by omega
              subst e
              refine at_lv (lv' := [(0, .ref m), (1, .long (dgB σ (dgA (dgD σ (dgA (dgZ σ (dgA (dgA (dgA 179 (nI (mi σ))) (nI (al σ))) (nI (nz σ))) (nz σ)) (nI (nd σ))) (nd σ)) (nI (nb σ))) (i + 1))), (3, .int (nI (i + 1)))]) ⟨rfl, rfl, rfl, trivial⟩ ?_
              exact ih (i + 1) (by omega)
            · -- not
              exfalso; omega
          | succ m9 iht =>
            intro j hj
            refine r_iload (pc := 155) hC dX5_digest_155 rfl ?_
            refine r_iconst (pc := 157) (nI 5) hC dX5_digest_157 (by decide) ?_
            first | refine rn_icmp_ge (pc := 158) (tgt := 182) hC dX5_digest_158 (by decide) (by omega) (by omega) (fun c158 => ?_) (fun c158 => ?_) | refine ri_icmp_ge (pc := 158) (tgt := 182) hC dX5_digest_158 (by decide) (fun c158 => ?_) (fun c158 => ?_)
            · -- taken
              exfalso; omega
            · -- not
              refine r_lload_n (pc := 161) hC dX5_digest_161 rfl ?_
              refine r_ldc2 (pc := 162) hC dX5_digest_162 kk_X5_165 ?_
              refine r_lmul (pc := 165) hC dX5_digest_165 ?_
              first | refine r_aload_n (pc := 166) hC dX5_digest_166 rfl ?_ | refine r_aload_nN (pc := 166) hC dX5_digest_166 rfl ?_
              refine r_iload_n (pc := 167) hC dX5_digest_167 rfl ?_
              refine r_iload (pc := 168) hC dX5_digest_168 rfl ?_
              refine r_callV (pc := 170) hC (cm_told hC.fl hM0 hV hi2 (w := j) (by omega)) kv_X5_118 cls6 (show isK S 6 m from hM.k6) rfl rfl (Nat.le_of_ble_eq_true rfl) ⟨by decide, by decide, by decide, by decide⟩ dX5_digest_170 (fun _ _ h => h.elim) (fun v170 S170 h170 => ?_)
              obtain ⟨rfl, rfl⟩ := h170
              refine r_i2l (pc := 173) hC dX5_digest_173 ?_
              refine r_ladd (pc := 174) hC dX5_digest_174 ?_
              rw [dgA_i]
              refine r_lstore_n (pc := 175) hC dX5_digest_175 (by decide) ?_
              first | refine rn_iinc (pc := 176) (q := 1) hC dX5_digest_176 rfl (by decide) ?_ | refine r_iinc (pc := 176) _ hC dX5_digest_176 rfl rfl (by decide) ?_
              refine r_goto (pc := 179) (tgt := 155) hC dX5_digest_179 (by decide) ?_
              refine at_lv (lv' := [(0, .ref m), (1, .long (dgT σ (i) (dgB σ (dgA (dgD σ (dgA (dgZ σ (dgA (dgA (dgA 179 (nI (mi σ))) (nI (al σ))) (nI (nz σ))) (nz σ)) (nI (nd σ))) (nd σ)) (nI (nb σ))) (i)) (j + 1))), (3, .int (nI (i))), (4, .int (nI (j + 1)))]) ⟨rfl, rfl, rfl, rfl, trivial⟩ ?_
              exact iht (j + 1) (by omega)
        refine at_lv (lv' := [(0, .ref m), (1, .long (dgT σ (i) (dgB σ (dgA (dgD σ (dgA (dgZ σ (dgA (dgA (dgA 179 (nI (mi σ))) (nI (al σ))) (nI (nz σ))) (nz σ)) (nI (nd σ))) (nd σ)) (nI (nb σ))) (i)) (0))), (3, .int (nI (i))), (4, .int (nI (0)))]) ⟨rfl, rfl, rfl, rfl, trivial⟩ ?_
        exact ht 5 0 (by omega)
  have hd : ∀ m8 i, i + m8 = nd σ → At Γ G V 0 0 (sF S 0 m (.int (nI 0))) [(0, .ref m), (1, .long (dgD σ (dgA (dgZ σ (dgA (dgA (dgA 179 (nI (mi σ))) (nI (al σ))) (nI (nz σ))) (nz σ)) (nI (nd σ))) (i))), (3, .int (nI (i)))] 103 [] := by
    intro m8
    induction m8 with
    | zero =>
      intro i hi
      refine r_iload_n (pc := 103) hC dX5_digest_103 rfl ?_
      first | refine r_aload_n (pc := 104) hC dX5_digest_104 rfl ?_ | refine r_aload_nN (pc := 104) hC dX5_digest_104 rfl ?_
      refine r_gf (pc := 105) (κ := 6) (j := 7) hC cls6 (by decide) kf_X5_57 hM0.k6 hM0.s7 dX5_digest_105 ?_
      first | refine rn_icmp_ge (pc := 108) (tgt := 130) hC dX5_digest_108 (by decide) (by omega) (by omega) (fun c108 => ?_) (fun c108 => ?_) | refine ri_icmp_ge (pc := 108) (tgt := 130) hC dX5_digest_108 (by decide) (fun c108 => ?_) (fun c108 => ?_)
      · -- taken
        refine r_lload_n (pc := 130) hC dX5_digest_130 rfl ?_
        refine r_ldc2 (pc := 131) hC dX5_digest_131 kk_X5_165 ?_
        refine r_lmul (pc := 134) hC dX5_digest_134 ?_
        first | refine r_aload_n (pc := 135) hC dX5_digest_135 rfl ?_ | refine r_aload_nN (pc := 135) hC dX5_digest_135 rfl ?_
        refine r_gf (pc := 136) (κ := 6) (j := 12) hC cls6 (by decide) kf_X5_60 hM0.k6 hM0.s12 dX5_digest_136 ?_
        refine r_i2l (pc := 139) hC dX5_digest_139 ?_
        refine r_ladd (pc := 140) hC dX5_digest_140 ?_
        rw [dgA_i]
        refine r_lstore_n (pc := 141) hC dX5_digest_141 (by decide) ?_
        refine r_iconst (pc := 142) (nI 0) hC dX5_digest_142 (by decide) ?_
        refine r_istore_n (pc := 143) hC dX5_digest_143 (by decide) ?_
        have e : i = nd σ := by omega
        subst e
        refine at_lv (lv' := [(0, .ref m), (1, .long (dgB σ (dgA (dgD σ (dgA (dgZ σ (dgA (dgA (dgA 179 (nI (mi σ))) (nI (al σ))) (nI (nz σ))) (nz σ)) (nI (nd σ))) (nd σ)) (nI (nb σ))) (0))), (3, .int (nI (0)))]) ⟨rfl, rfl, rfl, trivial⟩ ?_
        exact hb (nb σ) 0 (by omega)
      · -- not
        exfalso; omega
    | succ m8 ih =>
      intro i hi
      have hi2 : i < nd σ := by omega
      refine r_iload_n (pc := 103) hC dX5_digest_103 rfl ?_
      first | refine r_aload_n (pc := 104) hC dX5_digest_104 rfl ?_ | refine r_aload_nN (pc := 104) hC dX5_digest_104 rfl ?_
      refine r_gf (pc := 105) (κ := 6) (j := 7) hC cls6 (by decide) kf_X5_57 hM0.k6 hM0.s7 dX5_digest_105 ?_
      first | refine rn_icmp_ge (pc := 108) (tgt := 130) hC dX5_digest_108 (by decide) (by omega) (by omega) (fun c108 => ?_) (fun c108 => ?_) | refine ri_icmp_ge (pc := 108) (tgt := 130) hC dX5_digest_108 (by decide) (fun c108 => ?_) (fun c108 => ?_)
      · -- taken
        exfalso; omega
      · -- not
        refine r_lload_n (pc := 111) hC dX5_digest_111 rfl ?_
        refine r_ldc2 (pc := 112) hC dX5_digest_112 kk_X5_165 ?_
        refine r_lmul (pc := 115) hC dX5_digest_115 ?_
        first | refine r_aload_n (pc := 116) hC dX5_digest_116 rfl ?_ | refine r_aload_nN (pc := 116) hC dX5_digest_116 rfl ?_
        refine r_iload_n (pc := 117) hC dX5_digest_117 rfl ?_
        refine r_callV (pc := 118) hC (cm_left hC.fl hM0 hV hi2) kv_X5_106 cls6 (show isK S 6 m from hM.k6) rfl rfl (Nat.le_of_ble_eq_true rfl) ⟨by decide, by decide, by decide, by decide⟩ dX5_digest_118 (fun _ _ h => h.elim) (fun v118 S118 h118 => ?_)
        obtain ⟨rfl, rfl⟩ := h118
        refine r_i2l (pc := 121) hC dX5_digest_121 ?_
        refine r_ladd (pc := 122) hC dX5_digest_122 ?_
        rw [dgA_i]
        refine r_lstore_n (pc := 123) hC dX5_digest_123 (by decide) ?_
        first | refine rn_iinc (pc := 124) (q := 1) hC dX5_digest_124 rfl (by decide) ?_ | refine r_iinc (pc := 124) _ hC dX5_digest_124 rfl rfl (by decide) ?_
        refine r_goto (pc := 127) (tgt := 103) hC dX5_digest_127 (by decide) ?_
        refine at_lv (lv' := [(0, .ref m), (1, .long (dgD σ (dgA (dgZ σ (dgA (dgA (dgA 179 (nI (mi σ))) (nI (al σ))) (nI (nz σ))) (nz σ)) (nI (nd σ))) (i + 1))), (3, .int (nI (i + 1)))]) ⟨rfl, rfl, rfl, trivial⟩ ?_
        exact ih (i + 1) (by omega)
  have hz : ∀ m8 i, i + m8 = nz σ → At Γ G V 0 0 (sF S 0 m (.int (nI 0))) [(0, .ref m), (1, .long (dgZ σ (dgA (dgA (dgA 179 (nI (mi σ))) (nI (al σ))) (nI (nz σ))) (i))), (3, .int (nI (i)))] 44 [] := by
    intro m8
    induction m8 with
    | zero =>
      intro i hi
      refine r_iload_n (pc := 44) hC dX5_digest_44 rfl ?_
      first | refine r_aload_n (pc := 45) hC dX5_digest_45 rfl ?_ | refine r_aload_nN (pc := 45) hC dX5_digest_45 rfl ?_
      refine r_gf (pc := 46) (κ := 6) (j := 3) hC cls6 (by decide) kf_X5_7 hM0.k6 hM0.s3 dX5_digest_46 ?_
      first | refine rn_icmp_ge (pc := 49) (tgt := 89) hC dX5_digest_49 (by decide) (by omega) (by omega) (fun c49 => ?_) (fun c49 => ?_) | refine ri_icmp_ge (pc := 49) (tgt := 89) hC dX5_digest_49 (by decide) (fun c49 => ?_) (fun c49 => ?_)
      · -- taken
        refine r_lload_n (pc := 89) hC dX5_digest_89 rfl ?_
        refine r_ldc2 (pc := 90) hC dX5_digest_90 kk_X5_165 ?_
        refine r_lmul (pc := 93) hC dX5_digest_93 ?_
        first | refine r_aload_n (pc := 94) hC dX5_digest_94 rfl ?_ | refine r_aload_nN (pc := 94) hC dX5_digest_94 rfl ?_
        refine r_gf (pc := 95) (κ := 6) (j := 7) hC cls6 (by decide) kf_X5_57 hM0.k6 hM0.s7 dX5_digest_95 ?_
        refine r_i2l (pc := 98) hC dX5_digest_98 ?_
        refine r_ladd (pc := 99) hC dX5_digest_99 ?_
        rw [dgA_i]
        refine r_lstore_n (pc := 100) hC dX5_digest_100 (by decide) ?_
        refine r_iconst (pc := 101) (nI 0) hC dX5_digest_101 (by decide) ?_
        refine r_istore_n (pc := 102) hC dX5_digest_102 (by decide) ?_
        have e : i = nz σ := by omega
        subst e
        refine at_lv (lv' := [(0, .ref m), (1, .long (dgD σ (dgA (dgZ σ (dgA (dgA (dgA 179 (nI (mi σ))) (nI (al σ))) (nI (nz σ))) (nz σ)) (nI (nd σ))) (0))), (3, .int (nI (0)))]) ⟨rfl, rfl, rfl, trivial⟩ ?_
        exact hd (nd σ) 0 (by omega)
      · -- not
        exfalso; omega
    | succ m8 ih =>
      intro i hi
      have hi2 : i < nz σ := by omega
      refine r_iload_n (pc := 44) hC dX5_digest_44 rfl ?_
      first | refine r_aload_n (pc := 45) hC dX5_digest_45 rfl ?_ | refine r_aload_nN (pc := 45) hC dX5_digest_45 rfl ?_
      refine r_gf (pc := 46) (κ := 6) (j := 3) hC cls6 (by decide) kf_X5_7 hM0.k6 hM0.s3 dX5_digest_46 ?_
      first | refine rn_icmp_ge (pc := 49) (tgt := 89) hC dX5_digest_49 (by decide) (by omega) (by omega) (fun c49 => ?_) (fun c49 => ?_) | refine ri_icmp_ge (pc := 49) (tgt := 89) hC dX5_digest_49 (by decide) (fun c49 => ?_) (fun c49 => ?_)
      · -- taken
        exfalso; omega
      · -- not
        refine r_lload_n (pc := 52) hC dX5_digest_52 rfl ?_
        refine r_ldc2 (pc := 53) hC dX5_digest_53 kk_X5_165 ?_
        refine r_lmul (pc := 56) hC dX5_digest_56 ?_
        first | refine r_aload_n (pc := 57) hC dX5_digest_57 rfl ?_ | refine r_aload_nN (pc := 57) hC dX5_digest_57 rfl ?_
        refine r_iload_n (pc := 58) hC dX5_digest_58 rfl ?_
        refine r_callV (pc := 59) hC (cm_open hC.fl hM0 hV hi2) kv_X5_94 cls6 (show isK S 6 m from hM.k6) rfl rfl (Nat.le_of_ble_eq_true rfl) ⟨by decide, by decide, by decide, by decide⟩ dX5_digest_59 (fun _ _ h => h.elim) (fun v59 S59 h59 => ?_)
        obtain ⟨rfl, rfl⟩ := h59
        first | refine rb_if_eq (pc := 62) (tgt := 69) hC dX5_digest_62 (by decide) (fun c62 => ?_) (fun c62 => ?_) | refine rn_if_eq (pc := 62) (tgt := 69) hC dX5_digest_62 (by decide) (by omega) (fun c62 => ?_) (fun c62 => ?_) | refine ri_if_eq (pc := 62) (tgt := 69) hC dX5_digest_62 (by decide) (fun c62 => ?_) (fun c62 => ?_)
        · -- taken
          refine r_lconst (pc := 69) (0) hC dX5_digest_69 (by decide) ?_
          refine r_ladd (pc := 70) hC dX5_digest_70 ?_
          first | rw [dg_t c62] | rw [dg_f c62]
          refine r_ldc2 (pc := 71) hC dX5_digest_71 kk_X5_165 ?_
          refine r_lmul (pc := 74) hC dX5_digest_74 ?_
          first | refine r_aload_n (pc := 75) hC dX5_digest_75 rfl ?_ | refine r_aload_nN (pc := 75) hC dX5_digest_75 rfl ?_
          refine r_iload_n (pc := 76) hC dX5_digest_76 rfl ?_
          refine r_callV (pc := 77) hC (cm_inside hC.fl hM0 hV hi2) kv_X5_75 cls6 (show isK S 6 m from hM.k6) rfl rfl (Nat.le_of_ble_eq_true rfl) ⟨by decide, by decide, by decide, by decide⟩ dX5_digest_77 (fun _ _ h => h.elim) (fun v77 S77 h77 => ?_)
          obtain ⟨rfl, rfl⟩ := h77
          refine r_i2l (pc := 80) hC dX5_digest_80 ?_
          refine r_ladd (pc := 81) hC dX5_digest_81 ?_
          rw [dgA_i]
          refine r_lstore_n (pc := 82) hC dX5_digest_82 (by decide) ?_
          first | refine rn_iinc (pc := 83) (q := 1) hC dX5_digest_83 rfl (by decide) ?_ | refine r_iinc (pc := 83) _ hC dX5_digest_83 rfl rfl (by decide) ?_
          refine r_goto (pc := 86) (tgt := 44) hC dX5_digest_86 (by decide) ?_
          refine at_lv (lv' := [(0, .ref m), (1, .long (dgZ σ (dgA (dgA (dgA 179 (nI (mi σ))) (nI (al σ))) (nI (nz σ))) (i + 1))), (3, .int (nI (i + 1)))]) ⟨rfl, rfl, rfl, trivial⟩ ?_
          exact ih (i + 1) (by omega)
        · -- not
          refine r_lconst (pc := 65) (1) hC dX5_digest_65 (by decide) ?_
          refine r_goto (pc := 66) (tgt := 70) hC dX5_digest_66 (by decide) ?_
          refine r_ladd (pc := 70) hC dX5_digest_70 ?_
          first | rw [dg_t c62] | rw [dg_f c62]
          refine r_ldc2 (pc := 71) hC dX5_digest_71 kk_X5_165 ?_
          refine r_lmul (pc := 74) hC dX5_digest_74 ?_
          first | refine r_aload_n (pc := 75) hC dX5_digest_75 rfl ?_ | refine r_aload_nN (pc := 75) hC dX5_digest_75 rfl ?_
          refine r_iload_n (pc := 76) hC dX5_digest_76 rfl ?_
          refine r_callV (pc := 77) hC (cm_inside hC.fl hM0 hV hi2) kv_X5_75 cls6 (show isK S 6 m from hM.k6) rfl rfl (Nat.le_of_ble_eq_true rfl) ⟨by decide, by decide, by decide, by decide⟩ dX5_digest_77 (fun _ _ h => h.elim) (fun v77 S77 h77 => ?_)
          obtain ⟨rfl, rfl⟩ := h77
          refine r_i2l (pc := 80) hC dX5_digest_80 ?_
          refine r_ladd (pc := 81) hC dX5_digest_81 ?_
          rw [dgA_i]
          refine r_lstore_n (pc := 82) hC dX5_digest_82 (by decide) ?_
          first | refine rn_iinc (pc := 83) (q := 1) hC dX5_digest_83 rfl (by decide) ?_ | refine r_iinc (pc := 83) _ hC dX5_digest_83 rfl rfl (by decide) ?_
          refine r_goto (pc := 86) (tgt := 44) hC dX5_digest_86 (by decide) ?_
          refine at_lv (lv' := [(0, .ref m), (1, .long (dgZ σ (dgA (dgA (dgA 179 (nI (mi σ))) (nI (al σ))) (nI (nz σ))) (i + 1))), (3, .int (nI (i + 1)))]) ⟨rfl, rfl, rfl, trivial⟩ ?_
          exact ih (i + 1) (by omega)
  first | refine r_aload_n (pc := 0) hC dX5_digest_0 rfl ?_ | refine r_aload_nN (pc := 0) hC dX5_digest_0 rfl ?_
  refine r_iconst (pc := 1) (nI 0) hC dX5_digest_1 (by decide) ?_
  refine r_pf (pc := 2) (κ := 6) (j := 0) hC cls6 (by decide) kf_X5_54 hM.k6 rfl rfl rfl dX5_digest_2 ?_
  refine r_ldc2 (pc := 5) hC dX5_digest_5 kk_X5_163 ?_
  first | refine r_aload_n (pc := 8) hC dX5_digest_8 rfl ?_ | refine r_aload_nN (pc := 8) hC dX5_digest_8 rfl ?_
  refine r_gf (pc := 9) (κ := 6) (j := 1) hC cls6 (by decide) kf_X5_91 hM0.k6 hM0.s1 dX5_digest_9 ?_
  refine r_i2l (pc := 12) hC dX5_digest_12 ?_
  refine r_ladd (pc := 13) hC dX5_digest_13 ?_
  rw [dg_5549]
  refine r_ldc2 (pc := 14) hC dX5_digest_14 kk_X5_165 ?_
  refine r_lmul (pc := 17) hC dX5_digest_17 ?_
  first | refine r_aload_n (pc := 18) hC dX5_digest_18 rfl ?_ | refine r_aload_nN (pc := 18) hC dX5_digest_18 rfl ?_
  refine r_gf (pc := 19) (κ := 6) (j := 2) hC cls6 (by decide) kf_X5_122 hM0.k6 hM0.s2 dX5_digest_19 ?_
  first | refine rb_if_eq (pc := 22) (tgt := 29) hC dX5_digest_22 (by decide) (fun c22 => ?_) (fun c22 => ?_) | refine rn_if_eq (pc := 22) (tgt := 29) hC dX5_digest_22 (by decide) (by omega) (fun c22 => ?_) (fun c22 => ?_) | refine ri_if_eq (pc := 22) (tgt := 29) hC dX5_digest_22 (by decide) (fun c22 => ?_) (fun c22 => ?_)
  · -- taken
    refine r_lconst (pc := 29) (0) hC dX5_digest_29 (by decide) ?_
    refine r_ladd (pc := 30) hC dX5_digest_30 ?_
    first | rw [dg_1] | rw [dg_0]
    refine r_ldc2 (pc := 31) hC dX5_digest_31 kk_X5_165 ?_
    refine r_lmul (pc := 34) hC dX5_digest_34 ?_
    first | refine r_aload_n (pc := 35) hC dX5_digest_35 rfl ?_ | refine r_aload_nN (pc := 35) hC dX5_digest_35 rfl ?_
    refine r_gf (pc := 36) (κ := 6) (j := 3) hC cls6 (by decide) kf_X5_7 hM0.k6 hM0.s3 dX5_digest_36 ?_
    refine r_i2l (pc := 39) hC dX5_digest_39 ?_
    refine r_ladd (pc := 40) hC dX5_digest_40 ?_
    rw [dgA_i]
    refine r_lstore_n (pc := 41) hC dX5_digest_41 (by decide) ?_
    refine r_iconst (pc := 42) (nI 0) hC dX5_digest_42 (by decide) ?_
    refine r_istore_n (pc := 43) hC dX5_digest_43 (by decide) ?_
    have ea : al σ = 0 := by omega
    refine at_lv (lv' := [(0, .ref m), (1, .long (dgZ σ (dgA (dgA (dgA 179 (nI (mi σ))) (nI (al σ))) (nI (nz σ))) (0))), (3, .int (nI (0)))]) ⟨rfl, by rw [ea]; rfl, rfl, trivial⟩ ?_
    exact hz (nz σ) 0 (by omega)
  · -- not
    refine r_lconst (pc := 25) (1) hC dX5_digest_25 (by decide) ?_
    refine r_goto (pc := 26) (tgt := 30) hC dX5_digest_26 (by decide) ?_
    refine r_ladd (pc := 30) hC dX5_digest_30 ?_
    first | rw [dg_1] | rw [dg_0]
    refine r_ldc2 (pc := 31) hC dX5_digest_31 kk_X5_165 ?_
    refine r_lmul (pc := 34) hC dX5_digest_34 ?_
    first | refine r_aload_n (pc := 35) hC dX5_digest_35 rfl ?_ | refine r_aload_nN (pc := 35) hC dX5_digest_35 rfl ?_
    refine r_gf (pc := 36) (κ := 6) (j := 3) hC cls6 (by decide) kf_X5_7 hM0.k6 hM0.s3 dX5_digest_36 ?_
    refine r_i2l (pc := 39) hC dX5_digest_39 ?_
    refine r_ladd (pc := 40) hC dX5_digest_40 ?_
    rw [dgA_i]
    refine r_lstore_n (pc := 41) hC dX5_digest_41 (by decide) ?_
    refine r_iconst (pc := 42) (nI 0) hC dX5_digest_42 (by decide) ?_
    refine r_istore_n (pc := 43) hC dX5_digest_43 (by decide) ?_
    have ea : al σ = 1 := by omega
    refine at_lv (lv' := [(0, .ref m), (1, .long (dgZ σ (dgA (dgA (dgA 179 (nI (mi σ))) (nI (al σ))) (nI (nz σ))) (0))), (3, .int (nI (0)))]) ⟨rfl, by rw [ea]; rfl, rfl, trivial⟩ ?_
    exact hz (nz σ) 0 (by omega)
abbrev rm_X5_init : Room := { frames := 1, cells := 13, slots := 182, locals := 20 }
set_option maxHeartbeats 4000000 in
set_option maxRecDepth 100000 in
theorem cm_init {l : Launch} {G : Ids} {S : Ps} {m : Nat} (hfl : l.stackTraces = false) (hm : isK S 6 m) (hu : ∀ s, s ∈ [0, 1, 2, 7, 12, 18] → pF S s m = .int (nI 0)) : Ct l (Cond.code yX5_init cX5_init 1 none) yX5_init rm_X5_init G [.ref m] S (fun v S9 => v = none ∧ (∃ M, RM S9 M sg0 m 0) ∧ Fr (fun q => q = m) S S9) (fun _ _ => False) := by
  refine Ct.of hfl (by decide) (Nat.le_of_ble_eq_true rfl) (fun Γ V hC hR hT hI => ?_)
  first | refine r_aload_n (pc := 0) hC dX5_init_0 rfl ?_ | refine r_aload_nN (pc := 0) hC dX5_init_0 rfl ?_
  refine r_objInit (pc := 1) hC ko_X5_1 (Nat.le_of_ble_eq_true rfl) (by decide) dX5_init_1 ?_
  first | refine r_aload_n (pc := 4) hC dX5_init_4 rfl ?_ | refine r_aload_nN (pc := 4) hC dX5_init_4 rfl ?_
  refine r_iconst (pc := 5) (nI 1) hC dX5_init_5 (by decide) ?_
  refine r_pf (pc := 6) (κ := 6) (j := 3) hC cls6 (by decide) kf_X5_7 hm rfl rfl rfl dX5_init_6 ?_
  have hi0 := RI.st (S := sF S 3 m (.int (nI 1))) (m := m) hm
  have hu0 := hu
  first | refine r_aload_n (pc := 9) hC dX5_init_9 rfl ?_ | refine r_aload_nN (pc := 9) hC dX5_init_9 rfl ?_
  refine r_bipush (pc := 10) (nI 8) hC dX5_init_10 (by decide) ?_
  refine r_newI (pc := 12) hC (by omega) (by decide) (by decide) dX5_init_12 (fun a12 hf12 => ?_)
  refine r_pfF (pc := 14) (κ := 6) (j := 4) hC cls6 (by decide) kf_X5_13 (isK_nwA hi0.1 hf12) rfl hI rfl rfl rfl dX5_init_14 ?_
  have hi1 := RI.add (j := 4) (k := 7) (N := 8) hi0 hf12 rfl rfl rfl
  first | refine r_aload_n (pc := 17) hC dX5_init_17 rfl ?_ | refine r_aload_nN (pc := 17) hC dX5_init_17 rfl ?_
  refine r_bipush (pc := 18) (nI 8) hC dX5_init_18 (by decide) ?_
  refine r_newI (pc := 20) hC (by omega) (by decide) (by decide) dX5_init_20 (fun a20 hf20 => ?_)
  refine r_pfF (pc := 22) (κ := 6) (j := 5) hC cls6 (by decide) kf_X5_17 (isK_nwA hi1.1 hf20) rfl hI rfl rfl rfl dX5_init_22 ?_
  have hi2 := RI.add (j := 5) (k := 7) (N := 8) hi1 hf20 rfl rfl rfl
  first | refine r_aload_n (pc := 25) hC dX5_init_25 rfl ?_ | refine r_aload_nN (pc := 25) hC dX5_init_25 rfl ?_
  refine r_bipush (pc := 26) (nI 8) hC dX5_init_26 (by decide) ?_
  refine r_newI (pc := 28) hC (by omega) (by decide) (by decide) dX5_init_28 (fun a28 hf28 => ?_)
  refine r_pfF (pc := 30) (κ := 6) (j := 6) hC cls6 (by decide) kf_X5_20 (isK_nwA hi2.1 hf28) rfl hI rfl rfl rfl dX5_init_30 ?_
  have hi3 := RI.add (j := 6) (k := 7) (N := 8) hi2 hf28 rfl rfl rfl
  first | refine r_aload_n (pc := 33) hC dX5_init_33 rfl ?_ | refine r_aload_nN (pc := 33) hC dX5_init_33 rfl ?_
  refine r_bipush (pc := 34) (nI 24) hC dX5_init_34 (by decide) ?_
  refine r_newI (pc := 36) hC (by omega) (by decide) (by decide) dX5_init_36 (fun a36 hf36 => ?_)
  refine r_pfF (pc := 38) (κ := 6) (j := 8) hC cls6 (by decide) kf_X5_23 (isK_nwA hi3.1 hf36) rfl hI rfl rfl rfl dX5_init_38 ?_
  have hi4 := RI.add (j := 8) (k := 7) (N := 24) hi3 hf36 rfl rfl rfl
  first | refine r_aload_n (pc := 41) hC dX5_init_41 rfl ?_ | refine r_aload_nN (pc := 41) hC dX5_init_41 rfl ?_
  refine r_bipush (pc := 42) (nI 12) hC dX5_init_42 (by decide) ?_
  refine r_newI (pc := 44) hC (by omega) (by decide) (by decide) dX5_init_44 (fun a44 hf44 => ?_)
  refine r_pfF (pc := 46) (κ := 6) (j := 9) hC cls6 (by decide) kf_X5_26 (isK_nwA hi4.1 hf44) rfl hI rfl rfl rfl dX5_init_46 ?_
  have hi5 := RI.add (j := 9) (k := 7) (N := 12) hi4 hf44 rfl rfl rfl
  first | refine r_aload_n (pc := 49) hC dX5_init_49 rfl ?_ | refine r_aload_nN (pc := 49) hC dX5_init_49 rfl ?_
  refine r_bipush (pc := 50) (nI 12) hC dX5_init_50 (by decide) ?_
  refine r_newI (pc := 52) hC (by omega) (by decide) (by decide) dX5_init_52 (fun a52 hf52 => ?_)
  refine r_pfF (pc := 54) (κ := 6) (j := 10) hC cls6 (by decide) kf_X5_29 (isK_nwA hi5.1 hf52) rfl hI rfl rfl rfl dX5_init_54 ?_
  have hi6 := RI.add (j := 10) (k := 7) (N := 12) hi5 hf52 rfl rfl rfl
  first | refine r_aload_n (pc := 57) hC dX5_init_57 rfl ?_ | refine r_aload_nN (pc := 57) hC dX5_init_57 rfl ?_
  refine r_bipush (pc := 58) (nI 12) hC dX5_init_58 (by decide) ?_
  refine r_newI (pc := 60) hC (by omega) (by decide) (by decide) dX5_init_60 (fun a60 hf60 => ?_)
  refine r_pfF (pc := 62) (κ := 6) (j := 11) hC cls6 (by decide) kf_X5_32 (isK_nwA hi6.1 hf60) rfl hI rfl rfl rfl dX5_init_62 ?_
  have hi7 := RI.add (j := 11) (k := 7) (N := 12) hi6 hf60 rfl rfl rfl
  first | refine r_aload_n (pc := 65) hC dX5_init_65 rfl ?_ | refine r_aload_nN (pc := 65) hC dX5_init_65 rfl ?_
  refine r_bipush (pc := 66) (nI 10) hC dX5_init_66 (by decide) ?_
  refine r_newI (pc := 68) hC (by omega) (by decide) (by decide) dX5_init_68 (fun a68 hf68 => ?_)
  refine r_pfF (pc := 70) (κ := 6) (j := 13) hC cls6 (by decide) kf_X5_35 (isK_nwA hi7.1 hf68) rfl hI rfl rfl rfl dX5_init_70 ?_
  have hi8 := RI.add (j := 13) (k := 7) (N := 10) hi7 hf68 rfl rfl rfl
  first | refine r_aload_n (pc := 73) hC dX5_init_73 rfl ?_ | refine r_aload_nN (pc := 73) hC dX5_init_73 rfl ?_
  refine r_bipush (pc := 74) (nI 10) hC dX5_init_74 (by decide) ?_
  refine r_newI (pc := 76) hC (by omega) (by decide) (by decide) dX5_init_76 (fun a76 hf76 => ?_)
  refine r_pfF (pc := 78) (κ := 6) (j := 14) hC cls6 (by decide) kf_X5_38 (isK_nwA hi8.1 hf76) rfl hI rfl rfl rfl dX5_init_78 ?_
  have hi9 := RI.add (j := 14) (k := 7) (N := 10) hi8 hf76 rfl rfl rfl
  first | refine r_aload_n (pc := 81) hC dX5_init_81 rfl ?_ | refine r_aload_nN (pc := 81) hC dX5_init_81 rfl ?_
  refine r_bipush (pc := 82) (nI 10) hC dX5_init_82 (by decide) ?_
  refine r_newI (pc := 84) hC (by omega) (by decide) (by decide) dX5_init_84 (fun a84 hf84 => ?_)
  refine r_pfF (pc := 86) (κ := 6) (j := 15) hC cls6 (by decide) kf_X5_41 (isK_nwA hi9.1 hf84) rfl hI rfl rfl rfl dX5_init_86 ?_
  have hi10 := RI.add (j := 15) (k := 7) (N := 10) hi9 hf84 rfl rfl rfl
  first | refine r_aload_n (pc := 89) hC dX5_init_89 rfl ?_ | refine r_aload_nN (pc := 89) hC dX5_init_89 rfl ?_
  refine r_bipush (pc := 90) (nI 10) hC dX5_init_90 (by decide) ?_
  refine r_newZ (pc := 92) hC (by omega) (by decide) (by decide) dX5_init_92 (fun a92 hf92 => ?_)
  refine r_pfF (pc := 94) (κ := 6) (j := 16) hC cls6 (by decide) kf_X5_44 (isK_nwA hi10.1 hf92) rfl hI rfl rfl rfl dX5_init_94 ?_
  have hi11 := RI.add (j := 16) (k := 8) (N := 10) hi10 hf92 rfl rfl rfl
  first | refine r_aload_n (pc := 97) hC dX5_init_97 rfl ?_ | refine r_aload_nN (pc := 97) hC dX5_init_97 rfl ?_
  refine r_bipush (pc := 98) (nI 10) hC dX5_init_98 (by decide) ?_
  refine r_newI (pc := 100) hC (by omega) (by decide) (by decide) dX5_init_100 (fun a100 hf100 => ?_)
  refine r_pfF (pc := 102) (κ := 6) (j := 17) hC cls6 (by decide) kf_X5_48 (isK_nwA hi11.1 hf100) rfl hI rfl rfl rfl dX5_init_102 ?_
  have hi12 := RI.add (j := 17) (k := 7) (N := 10) hi11 hf100 rfl rfl rfl
  first | refine r_aload_n (pc := 105) hC dX5_init_105 rfl ?_ | refine r_aload_nN (pc := 105) hC dX5_init_105 rfl ?_
  refine r_bipush (pc := 106) (nI 48) hC dX5_init_106 (by decide) ?_
  refine r_newI (pc := 108) hC (by omega) (by decide) (by decide) dX5_init_108 (fun a108 hf108 => ?_)
  refine r_pf (pc := 110) (κ := 6) (j := 19) hC cls6 (by decide) kf_X5_51 (isK_nwA hi12.1 hf108) rfl rfl rfl dX5_init_110 ?_
  have hi13 := RI.add (j := 19) (k := 7) (N := 48) hi12 hf108 rfl rfl rfl
  refine r_vret (pc := 113) hC hR dX5_init_113 ?_ (by decide) (by decide)
  have hmem : ∀ j, j ∈ mAs → (j, (fun j => (([(19, a108), (17, a100), (16, a92), (15, a84), (14, a76), (13, a68), (11, a60), (10, a52), (9, a44), (8, a36), (6, a28), (5, a20), (4, a12)].find? (fun q => q.1 == j)).map (fun q => q.2)).getD 0) j) ∈ [(19, a108), (17, a100), (16, a92), (15, a84), (14, a76), (13, a68), (11, a60), (10, a52), (9, a44), (8, a36), (6, a28), (5, a20), (4, a12)] := fun j hj => by
    simp only [mAs, List.mem_cons, List.not_mem_nil, or_false] at hj
    rcases hj with rfl | rfl | rfl | rfl | rfl | rfl | rfl | rfl | rfl | rfl | rfl | rfl | rfl
    · exact (List.mem_cons_of_mem _ (List.mem_cons_of_mem _ (List.mem_cons_of_mem _ (List.mem_cons_of_mem _ (List.mem_cons_of_mem _ (List.mem_cons_of_mem _ (List.mem_cons_of_mem _ (List.mem_cons_of_mem _ (List.mem_cons_of_mem _ (List.mem_cons_of_mem _ (List.mem_cons_of_mem _ (List.mem_cons_of_mem _ List.mem_cons_self))))))))))))
    · exact (List.mem_cons_of_mem _ (List.mem_cons_of_mem _ (List.mem_cons_of_mem _ (List.mem_cons_of_mem _ (List.mem_cons_of_mem _ (List.mem_cons_of_mem _ (List.mem_cons_of_mem _ (List.mem_cons_of_mem _ (List.mem_cons_of_mem _ (List.mem_cons_of_mem _ (List.mem_cons_of_mem _ List.mem_cons_self)))))))))))
    · exact (List.mem_cons_of_mem _ (List.mem_cons_of_mem _ (List.mem_cons_of_mem _ (List.mem_cons_of_mem _ (List.mem_cons_of_mem _ (List.mem_cons_of_mem _ (List.mem_cons_of_mem _ (List.mem_cons_of_mem _ (List.mem_cons_of_mem _ (List.mem_cons_of_mem _ List.mem_cons_self))))))))))
    · exact (List.mem_cons_of_mem _ (List.mem_cons_of_mem _ (List.mem_cons_of_mem _ (List.mem_cons_of_mem _ (List.mem_cons_of_mem _ (List.mem_cons_of_mem _ (List.mem_cons_of_mem _ (List.mem_cons_of_mem _ (List.mem_cons_of_mem _ List.mem_cons_self)))))))))
    · exact (List.mem_cons_of_mem _ (List.mem_cons_of_mem _ (List.mem_cons_of_mem _ (List.mem_cons_of_mem _ (List.mem_cons_of_mem _ (List.mem_cons_of_mem _ (List.mem_cons_of_mem _ (List.mem_cons_of_mem _ List.mem_cons_self))))))))
    · exact (List.mem_cons_of_mem _ (List.mem_cons_of_mem _ (List.mem_cons_of_mem _ (List.mem_cons_of_mem _ (List.mem_cons_of_mem _ (List.mem_cons_of_mem _ (List.mem_cons_of_mem _ List.mem_cons_self)))))))
    · exact (List.mem_cons_of_mem _ (List.mem_cons_of_mem _ (List.mem_cons_of_mem _ (List.mem_cons_of_mem _ (List.mem_cons_of_mem _ (List.mem_cons_of_mem _ List.mem_cons_self))))))
    · exact (List.mem_cons_of_mem _ (List.mem_cons_of_mem _ (List.mem_cons_of_mem _ (List.mem_cons_of_mem _ (List.mem_cons_of_mem _ List.mem_cons_self)))))
    · exact (List.mem_cons_of_mem _ (List.mem_cons_of_mem _ (List.mem_cons_of_mem _ (List.mem_cons_of_mem _ List.mem_cons_self))))
    · exact (List.mem_cons_of_mem _ (List.mem_cons_of_mem _ (List.mem_cons_of_mem _ List.mem_cons_self)))
    · exact (List.mem_cons_of_mem _ (List.mem_cons_of_mem _ List.mem_cons_self))
    · exact (List.mem_cons_of_mem _ List.mem_cons_self)
    · exact List.mem_cons_self
  have hun : ∀ s, s ∈ [0, 1, 2, 7, 12, 18] → pF _ s m = .int (nI 0) := fun s hs => (hi13.2.2.2.2 s (by simp only [List.mem_cons, List.not_mem_nil, or_false] at hs; rcases hs with rfl | rfl | rfl | rfl | rfl | rfl <;> rfl)).trans ((pF_sF_j S 3 m _ (by simp only [List.mem_cons, List.not_mem_nil, or_false] at hs; rcases hs with rfl | rfl | rfl | rfl | rfl | rfl <;> decide)).trans (hu s hs))
  exact ⟨rfl, ⟨(fun j => (([(19, a108), (17, a100), (16, a92), (15, a84), (14, a76), (13, a68), (11, a60), (10, a52), (9, a44), (8, a36), (6, a28), (5, a20), (4, a12)].find? (fun q => q.1 == j)).map (fun q => q.2)).getD 0), RM.st hi13.1 hun ((hi13.2.2.2.2 3 rfl).trans (pF_sF_eq _ _ _ _)) (fun j hj => hi13.2.2.1 _ (hmem j hj)) (fun i hi j hj e => hi13.2.2.2.1 _ _ (hmem i hi) (hmem j hj) e)⟩, (Fr.sF (P := fun q => q = m) (S := S) (fun _ => rfl)).trans hi13.2.1⟩
