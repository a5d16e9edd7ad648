/-! THE REFERENCE'S PUBLIC METHODS: what is thrown is the first condition that fails (kd); else the answer, and the house behind it. -/
def kd : List (Nat × Bool) → Nat
  | [] => 0
  | q :: t => if q.2 = true then kd t else q.1
theorem kd_t {k : Nat} {c : Bool} {t : List (Nat × Bool)} (h : c = true) : kd ((k, c) :: t) = kd t := if_pos h
theorem kd_f {k : Nat} {c : Bool} {t : List (Nat × Bool)} (h : c = false) : kd ((k, c) :: t) = k := if_neg (fun (q : c = true) => by rw [h] at q; cases q)
def RQ (S : Ps) (cs : List (Nat × Bool)) (w : Value) (σ σ' : Sg) (m : Nat) (v : Option Value) (S9 : Ps) : Prop := (kd cs = 0 ∧ v = some w ∧ MO S S9 σ' m 0) ∨ (kd cs ≠ 0 ∧ v = some (.int (nI 0)) ∧ MO S S9 σ m (kd cs))
theorem RQ.ok {S S9 : Ps} {cs : List (Nat × Bool)} {w : Value} {σ σ' : Sg} {m : Nat} {v : Option Value} (hk : kd cs = 0) (hv : v = some w) (h : MO S S9 σ' m 0) : RQ S cs w σ σ' m v S9 := Or.inl ⟨hk, hv, h⟩
theorem RQ.no {S S9 : Ps} {cs : List (Nat × Bool)} {w : Value} {σ σ' : Sg} {m k : Nat} {v : Option Value} (hk : kd cs = k) (h0 : k ≠ 0) (hv : v = some (.int (nI 0))) (h : MO S S9 σ m k) : RQ S cs w σ σ' m v S9 := Or.inr ⟨by rw [hk]; exact h0, hv, by rw [hk]; exact h⟩
theorem fr_sI {P : Nat → Prop} {S S' : Ps} {a i : Nat} {v : Int32} (h : Fr P S S') (ha : P a) : Fr P S (sI S' a i v) := h.trans (Fr.sI (fun _ => ha))
theorem fr_th {S : Ps} {M : Nat → Nat} {σ : Sg} {m t : Nat} {v : Value} (h : RM S M σ m t) : Fr (mP S) S (sF S 0 m v) := Fr.sF (fun _ => mP6 h.k6)
theorem MO.of {S S1 S9 : Ps} {M : Nat → Nat} {σ : Sg} {m t : Nat} (F1 : Fr (mP S) S S1) (F : Fr (mP S1) S1 S9) (h : RM S9 M σ m t) : MO S S9 σ m t := ⟨FrM.trans F1 F, M, h⟩
theorem MO.t0 {S : Ps} {M : Nat → Nat} {σ : Sg} {m t : Nat} (h : RM S M σ m t) : MO S (sF S 0 m (.int (nI 0))) σ m 0 := ⟨fr_th h, M, h.th⟩
theorem vI_s {k : Nat} : Value.int (nI k) = Value.int (hI (k + 1)) := congrArg Value.int (hI_s (h := k + 1) (Nat.succ_ne_zero k))
theorem nI_b3 {n : Nat} (h : n ≤ 1) : nI n = b2i (decide (n = 1)) := Value.int.inj (nI_b2 h)
theorem InvC.u10 {σ : Sg} {b z : Nat} (h : InvC σ) (hz : z < nz σ) : InvC (up σ 10 b z) := by
  refine ⟨h.1, h.2.1, h.2.2.1, h.2.2.2.1, fun b' hb => ?_⟩
  obtain ⟨a1, a2⟩ := h.2.2.2.2 b' hb
  refine ⟨?_, a2⟩
  show up σ 10 b z 10 b' < nz σ
  by_cases c : b' = b
  · rw [c, up_eq]; exact hz
  · rw [up_i _ c]; exact a1
theorem RM.len {S : Ps} {M : Nat → Nat} {σ : Sg} {m t j i n : Nat} (h : RM S M σ m t) (hj : j ∈ mAs) (h9 : j ≠ 19) (e : mNn j = n) (hi : i < n) : i < pN S (M j) := by rw [h.n hj h9, e]; exact hi
/-- where the reference's house goes when a badge passes: what its rows tell of it -/
theorem rq_f {σ : Sg} {b d z x : Nat} (hx : x = mi σ + hold σ d) : ∀ g, 2 ≤ g → g ≤ 17 → rqP σ b d z g = up (up (lgS (up σ 10 b z) b (mi σ) z) 9 d x) 14 b 0 g := by
  intro g h1 h2
  have e10 : psS σ b z 10 = up σ 10 b z 10 := by
    funext j
    by_cases c : j = b
    · rw [c, up_eq]; exact ps_p
    · rw [up_i _ c]; exact ps_p' c
  by_cases c10 : g = 10
  · subst c10
    have e1 := rq_10 (σ := σ) (b := b) (d := d) (z := z)
    rw [e1, e10]
    funext j
    unfold lgS
    simp [up_ap]
  · have ep : psS σ b z g = σ g := ps_g (by omega) c10 (by omega) (by omega)
    have em : mv (pdS σ b d z) = mv σ := pd_mv
    funext j
    unfold rqP lgS
    rw [em]
    unfold pdS
    simp only [up_ap, ep]
    rw [hx]
    have c1 : ¬ g = 1 := by omega
    have e9 : (if 1 = 10 ∧ 2 = b then z else σ 1 2) = σ 1 2 := if_neg (fun q => absurd q.1 (by decide))
    rw [show mv σ = σ 1 2 from rfl, e9]
    by_cases c14 : g = 14
    · subst c14; simp
    · by_cases c9 : g = 9
      · subst c9; simp
      · simp [c14, c9, c10, c1]
theorem RM.rq {S : Ps} {M : Nat → Nat} {σ : Sg} {m t b d z x : Nat} (hx : x = mi σ + hold σ d) (h : RM S M (up (up (lgS (up σ 10 b z) b (mi σ) z) 9 d x) 14 b 0) m t) : RM S M (rqP σ b d z) m t := by
  have e0 := rq_0 (σ := σ) (b := b) (d := d) (z := z)
  refine h.cg ?_ ?_ ?_ rq_mi ?_ ?_ (rq_f hx)
  · show rqP σ b d z 0 0 = σ 0 0; rw [e0]; exact ps_0 (by omega)
  · show rqP σ b d z 0 1 = σ 0 1; rw [e0]; exact ps_0 (by omega)
  · show rqP σ b d z 0 2 = σ 0 2; rw [e0]; exact ps_0 (by omega)
  · show rqP σ b d z 1 1 = σ 1 1
    unfold rqP lgS pdS
    rw [up_i _ (by decide), up_ff _ (by decide), up_ff _ (by decide), up_ff _ (by decide), up_ff _ (by decide), up_ff _ (by decide)]
    exact congrFun (ps_g (by omega) (by omega) (by omega) (by omega)) 1
  · rw [rq_mv]; rfl
theorem RM.rf1 {S : Ps} {M : Nat → Nat} {σ : Sg} {m t b w : Nat} (h : RM S M (up (up σ 14 b (rfs σ b + 1)) 13 b w) m t) (h0 : blk σ b = 0) (hw : w = if rfs σ b + 1 < 3 then 0 else 1) : RM S M (rfS σ b) m t := by
  have e := fun g h1 h2 => rfS_g (σ := σ) (b := b) (g := g) h1 h2
  refine h.cg (congrFun (e 0 (by omega) (by omega)) 0) (congrFun (e 0 (by omega) (by omega)) 1) (congrFun (e 0 (by omega) (by omega)) 2) (congrFun (e 1 (by omega) (by omega)) 0) (congrFun (e 1 (by omega) (by omega)) 1) (congrFun (e 1 (by omega) (by omega)) 2) (fun g h1 h2 => ?_)
  unfold rfS
  by_cases c : rfs σ b + 1 < 3
  · rw [if_pos c]
    rw [if_pos c] at hw
    subst hw
    by_cases c13 : g = 13
    · subst c13
      funext j
      rw [up_f _ (by decide)]
      by_cases cj : j = b
      · rw [cj, up_eq]; exact h0
      · rw [up_i _ cj, up_f _ (by decide)]
    · rw [up_ff (up σ 14 b (rfs σ b + 1)) c13]
  · rw [if_neg c]
    rw [if_neg c] at hw
    subst hw
    rfl
abbrev rm_X5_add : Room := { frames := 0, cells := 0, slots := 0, locals := 0 }
set_option maxHeartbeats 4000000 in
set_option maxRecDepth 100000 in
theorem cm_add {l : Launch} {G : Ids} {S : Ps} {M : Nat → Nat} {σ : Sg} {m t : Nat} {hh rr : Nat} (hfl : l.stackTraces = false) (hM : RM S M σ m t) (hV : InvC σ) (hnb : nb σ < 10) : Ct l (Cond.code yX5_add cX5_add 3 (some .int)) yX5_add rm_X5_add G [.ref m, .int (hI hh), .int (nI rr)] S (fun v S9 => v = some (.int (nI (nb σ))) ∧ Fr (mP S) S S9 ∧ RM S9 M (adB σ hh rr) m t) (fun _ _ => False) := by
  refine Ct.of hfl (by decide) (Nat.le_of_ble_eq_true rfl) (fun Γ V hC hR hT hI => ?_)
  have hn := hV.n
  have l13 : nb σ < pN S (M 13) := hM.len (by decide) (by decide) (show mNn 13 = 10 from rfl) (by omega)
  have l14 : nb σ < pN S (M 14) := hM.len (by decide) (by decide) (show mNn 14 = 10 from rfl) (by omega)
  have l15 : nb σ < pN S (M 15) := hM.len (by decide) (by decide) (show mNn 15 = 10 from rfl) (by omega)
  have l16 : nb σ < pN S (M 16) := hM.len (by decide) (by decide) (show mNn 16 = 10 from rfl) (by omega)
  have l17 : nb σ < pN S (M 17) := hM.len (by decide) (by decide) (show mNn 17 = 10 from rfl) (by omega)
  first | refine r_aload_n (pc := 0) hC dX5_add_0 rfl ?_ | refine r_aload_nN (pc := 0) hC dX5_add_0 rfl ?_
  refine r_gf (pc := 1) (κ := 6) (j := 13) hC cls6 (by decide) kf_X5_35 hM.k6 (hM.a (j := 13) (by decide)) dX5_add_1 ?_
  first | refine r_aload_n (pc := 4) hC dX5_add_4 rfl ?_ | refine r_aload_nN (pc := 4) hC dX5_add_4 rfl ?_
  refine r_gf (pc := 5) (κ := 6) (j := 12) hC cls6 (by decide) kf_X5_60 hM.k6 hM.s12 dX5_add_5 ?_
  refine r_iconst (pc := 8) (nI 0) hC dX5_add_8 (by decide) ?_
  refine r_iast (pc := 9) hC dX5_add_9 (hM.kd (j := 13) (by decide)) l13 (hM.l (j := 13) (by decide)) ?_
  first | refine r_aload_n (pc := 10) hC dX5_add_10 rfl ?_ | refine r_aload_nN (pc := 10) hC dX5_add_10 rfl ?_
  refine r_gf (pc := 11) (κ := 6) (j := 14) hC cls6 (by decide) kf_X5_38 hM.k6 (hM.a (j := 14) (by decide)) dX5_add_11 ?_
  first | refine r_aload_n (pc := 14) hC dX5_add_14 rfl ?_ | refine r_aload_nN (pc := 14) hC dX5_add_14 rfl ?_
  refine r_gf (pc := 15) (κ := 6) (j := 12) hC cls6 (by decide) kf_X5_60 hM.k6 hM.s12 dX5_add_15 ?_
  refine r_iload_n (pc := 18) hC dX5_add_18 rfl ?_
  refine r_iast (pc := 19) hC dX5_add_19 (hM.kd (j := 14) (by decide)) l14 (hM.l (j := 14) (by decide)) ?_
  first | refine r_aload_n (pc := 20) hC dX5_add_20 rfl ?_ | refine r_aload_nN (pc := 20) hC dX5_add_20 rfl ?_
  refine r_gf (pc := 21) (κ := 6) (j := 15) hC cls6 (by decide) kf_X5_41 hM.k6 (hM.a (j := 15) (by decide)) dX5_add_21 ?_
  first | refine r_aload_n (pc := 24) hC dX5_add_24 rfl ?_ | refine r_aload_nN (pc := 24) hC dX5_add_24 rfl ?_
  refine r_gf (pc := 25) (κ := 6) (j := 12) hC cls6 (by decide) kf_X5_60 hM.k6 hM.s12 dX5_add_25 ?_
  refine r_iload_n (pc := 28) hC dX5_add_28 rfl ?_
  refine r_iast (pc := 29) hC dX5_add_29 (hM.kd (j := 15) (by decide)) l15 (hM.l (j := 15) (by decide)) ?_
  first | refine r_aload_n (pc := 30) hC dX5_add_30 rfl ?_ | refine r_aload_nN (pc := 30) hC dX5_add_30 rfl ?_
  refine r_gf (pc := 31) (κ := 6) (j := 16) hC cls6 (by decide) kf_X5_44 hM.k6 (hM.a (j := 16) (by decide)) dX5_add_31 ?_
  first | refine r_aload_n (pc := 34) hC dX5_add_34 rfl ?_ | refine r_aload_nN (pc := 34) hC dX5_add_34 rfl ?_
  refine r_gf (pc := 35) (κ := 6) (j := 12) hC cls6 (by decide) kf_X5_60 hM.k6 hM.s12 dX5_add_35 ?_
  refine r_iconst (pc := 38) (nI 0) hC dX5_add_38 (by decide) ?_
  refine r_zast (pc := 39) hC dX5_add_39 (hM.kd (j := 16) (by decide)) l16 (hM.l (j := 16) (by decide)) (by rfl) ?_
  first | refine r_aload_n (pc := 40) hC dX5_add_40 rfl ?_ | refine r_aload_nN (pc := 40) hC dX5_add_40 rfl ?_
  refine r_gf (pc := 41) (κ := 6) (j := 17) hC cls6 (by decide) kf_X5_48 hM.k6 (hM.a (j := 17) (by decide)) dX5_add_41 ?_
  first | refine r_aload_n (pc := 44) hC dX5_add_44 rfl ?_ | refine r_aload_nN (pc := 44) hC dX5_add_44 rfl ?_
  refine r_gf (pc := 45) (κ := 6) (j := 12) hC cls6 (by decide) kf_X5_60 hM.k6 hM.s12 dX5_add_45 ?_
  refine r_iconst (pc := 48) (nI 0) hC dX5_add_48 (by decide) ?_
  refine r_iast (pc := 49) hC dX5_add_49 (hM.kd (j := 17) (by decide)) l17 (hM.l (j := 17) (by decide)) ?_
  first | refine r_aload_n (pc := 50) hC dX5_add_50 rfl ?_ | refine r_aload_nN (pc := 50) hC dX5_add_50 rfl ?_
  refine r_dup (pc := 51) hC dX5_add_51 rfl ?_
  refine r_gf (pc := 52) (κ := 6) (j := 12) hC cls6 (by decide) kf_X5_60 hM.k6 hM.s12 dX5_add_52 ?_
  refine r_iconst (pc := 55) (nI 1) hC dX5_add_55 (by decide) ?_
  first | refine rn_iadd (pc := 56) hC dX5_add_56 ?_ | refine r_iadd (pc := 56) hC dX5_add_56 ?_
  refine r_pf (pc := 57) (κ := 6) (j := 12) hC cls6 (by decide) kf_X5_60 hM.k6 rfl rfl rfl dX5_add_57 ?_
  first | refine r_aload_n (pc := 60) hC dX5_add_60 rfl ?_ | refine r_aload_nN (pc := 60) hC dX5_add_60 rfl ?_
  refine r_gf (pc := 61) (κ := 6) (j := 12) hC cls6 (by decide) kf_X5_60 hM.k6 (pF_sF_eq _ _ _ _) dX5_add_61 ?_
  refine r_iconst (pc := 64) (nI 1) hC dX5_add_64 (by decide) ?_
  first | refine rn_isub (pc := 65) hC dX5_add_65 (by omega) ?_ | refine r_isub (pc := 65) hC dX5_add_65 ?_
  refine r_iret (pc := 66) hC hR dX5_add_66 ?_ (by decide) (by decide)
  exact ⟨by rw [Nat.add_sub_cancel], (fr_sF (fr_sI (fr_sI (fr_sI (fr_sI (fr_sI (Fr.rfl (P := mP S) (S := S)) (mPa hM (j := 13) (by decide))) (mPa hM (j := 14) (by decide))) (mPa hM (j := 15) (by decide))) (mPa hM (j := 16) (by decide))) (mPa hM (j := 17) (by decide))) (mP6 hM.k6)), hM.iadB hnb⟩
abbrev rm_X5_note : Room := { frames := 1, cells := 1, slots := 3072, locals := 40 }
theorem frn_sIs {P : Nat → Prop} {S : Ps} {a k N : Nat} {f : Nat → Int32} (h : a ∉ pL S) : Fr P S (sIs (nwA S a k N) a f) := fun b hb => by
  obtain ⟨h1, h2, h3⟩ := Fr.nwA (P := P) (k := k) (n := N) h b hb
  refine ⟨h1, h2, fun q => ?_⟩
  obtain ⟨c1, c2, c3, c4, c5⟩ := h3 q
  exact ⟨c1, c2, (if_neg (fun (e : b = a) => h (e ▸ hb))).trans c3, c4, c5⟩
set_option maxHeartbeats 4000000 in
set_option maxRecDepth 100000 in
theorem cm_note {l : Launch} {G : Ids} {S : Ps} {M : Nat → Nat} {σ : Sg} {m t : Nat} {b z : Nat} (hfl : l.stackTraces = false) (hM : RM S M σ m t) (hV : InvC σ) (hmv : mv σ ≤ 511) : Ct l (Cond.code yX5_note cX5_note 4 none) yX5_note rm_X5_note G [.ref m, .int (nI b), .int (nI z)] S (fun v S9 => v = none ∧ Fr (mP S) S S9 ∧ ∃ M9, RM S9 M9 (lgS σ b (mi σ) z) m t) (fun _ _ => False) := by
  refine Ct.of hfl (by decide) (Nat.le_of_ble_eq_true rfl) (fun Γ V hC hR hT hI => ?_)
  have hn := hV.n
  have hl9 := hM.2
  have hL19 := hM.l (j := 19) (by decide)
  have hend : ∀ (S9 : Ps) (M9 : Nat → Nat), RM S9 M9 σ m t → Fr (mP S) S S9 → 3 * mv σ + 2 < pN S9 (M9 19) → At Γ G V (0 + 1) (0 + 3072) S9 [(0, .ref m), (1, .int (nI b)), (2, .int (nI z))] 44 [] := by
    intro S9 M9 hM9 hF9 hl
    first | refine r_aload_n (pc := 44) hC dX5_note_44 rfl ?_ | refine r_aload_nN (pc := 44) hC dX5_note_44 rfl ?_
    refine r_gf (pc := 45) (κ := 6) (j := 19) hC cls6 (by decide) kf_X5_51 hM9.k6 (hM9.a (j := 19) (by decide)) dX5_note_45 ?_
    refine r_iconst (pc := 48) (nI 3) hC dX5_note_48 (by decide) ?_
    first | refine r_aload_n (pc := 49) hC dX5_note_49 rfl ?_ | refine r_aload_nN (pc := 49) hC dX5_note_49 rfl ?_
    refine r_gf (pc := 50) (κ := 6) (j := 18) hC cls6 (by decide) kf_X5_141 hM9.k6 hM9.s18 dX5_note_50 ?_
    first | refine rn_imul (pc := 53) hC dX5_note_53 ?_ | refine r_imul (pc := 53) hC dX5_note_53 ?_
    refine r_iload_n (pc := 54) hC dX5_note_54 rfl ?_
    refine r_iast (pc := 55) hC dX5_note_55 (hM9.kd (j := 19) (by decide)) (by show _ < pN S9 (M9 19); omega) (hM9.l (j := 19) (by decide)) ?_
    first | refine r_aload_n (pc := 56) hC dX5_note_56 rfl ?_ | refine r_aload_nN (pc := 56) hC dX5_note_56 rfl ?_
    refine r_gf (pc := 57) (κ := 6) (j := 19) hC cls6 (by decide) kf_X5_51 hM9.k6 (hM9.a (j := 19) (by decide)) dX5_note_57 ?_
    refine r_iconst (pc := 60) (nI 3) hC dX5_note_60 (by decide) ?_
    first | refine r_aload_n (pc := 61) hC dX5_note_61 rfl ?_ | refine r_aload_nN (pc := 61) hC dX5_note_61 rfl ?_
    refine r_gf (pc := 62) (κ := 6) (j := 18) hC cls6 (by decide) kf_X5_141 hM9.k6 hM9.s18 dX5_note_62 ?_
    first | refine rn_imul (pc := 65) hC dX5_note_65 ?_ | refine r_imul (pc := 65) hC dX5_note_65 ?_
    refine r_iconst (pc := 66) (nI 1) hC dX5_note_66 (by decide) ?_
    first | refine rn_iadd (pc := 67) hC dX5_note_67 ?_ | refine r_iadd (pc := 67) hC dX5_note_67 ?_
    first | refine r_aload_n (pc := 68) hC dX5_note_68 rfl ?_ | refine r_aload_nN (pc := 68) hC dX5_note_68 rfl ?_
    refine r_gf (pc := 69) (κ := 6) (j := 1) hC cls6 (by decide) kf_X5_91 hM9.k6 hM9.s1 dX5_note_69 ?_
    refine r_iast (pc := 72) hC dX5_note_72 (hM9.kd (j := 19) (by decide)) (by show _ < pN S9 (M9 19); omega) (hM9.l (j := 19) (by decide)) ?_
    first | refine r_aload_n (pc := 73) hC dX5_note_73 rfl ?_ | refine r_aload_nN (pc := 73) hC dX5_note_73 rfl ?_
    refine r_gf (pc := 74) (κ := 6) (j := 19) hC cls6 (by decide) kf_X5_51 hM9.k6 (hM9.a (j := 19) (by decide)) dX5_note_74 ?_
    refine r_iconst (pc := 77) (nI 3) hC dX5_note_77 (by decide) ?_
    first | refine r_aload_n (pc := 78) hC dX5_note_78 rfl ?_ | refine r_aload_nN (pc := 78) hC dX5_note_78 rfl ?_
    refine r_gf (pc := 79) (κ := 6) (j := 18) hC cls6 (by decide) kf_X5_141 hM9.k6 hM9.s18 dX5_note_79 ?_
    first | refine rn_imul (pc := 82) hC dX5_note_82 ?_ | refine r_imul (pc := 82) hC dX5_note_82 ?_
    refine r_iconst (pc := 83) (nI 2) hC dX5_note_83 (by decide) ?_
    first | refine rn_iadd (pc := 84) hC dX5_note_84 ?_ | refine r_iadd (pc := 84) hC dX5_note_84 ?_
    refine r_iload_n (pc := 85) hC dX5_note_85 rfl ?_
    refine r_iast (pc := 86) hC dX5_note_86 (hM9.kd (j := 19) (by decide)) (by show _ < pN S9 (M9 19); omega) (hM9.l (j := 19) (by decide)) ?_
    first | refine r_aload_n (pc := 87) hC dX5_note_87 rfl ?_ | refine r_aload_nN (pc := 87) hC dX5_note_87 rfl ?_
    refine r_dup (pc := 88) hC dX5_note_88 rfl ?_
    refine r_gf (pc := 89) (κ := 6) (j := 18) hC cls6 (by decide) kf_X5_141 hM9.k6 hM9.s18 dX5_note_89 ?_
    refine r_iconst (pc := 92) (nI 1) hC dX5_note_92 (by decide) ?_
    first | refine rn_iadd (pc := 93) hC dX5_note_93 ?_ | refine r_iadd (pc := 93) hC dX5_note_93 ?_
    refine r_pf (pc := 94) (κ := 6) (j := 18) hC cls6 (by decide) kf_X5_141 hM9.k6 rfl rfl rfl dX5_note_94 ?_
    refine r_vret (pc := 97) hC hR dX5_note_97 ?_ (by decide) (by decide)
    exact ⟨rfl, FrM.trans hF9 (fr_sF (fr_sI (fr_sI (fr_sI (Fr.rfl (P := mP S9) (S := S9)) (mPa hM9 (j := 19) (by decide))) (mPa hM9 (j := 19) (by decide))) (mPa hM9 (j := 19) (by decide))) (mP6 hM9.k6)), M9, hM9.ilg hl⟩
  have hn := hV.n
  have hl9 := hM.2
  have hL19 := hM.l (j := 19) (by decide)
  refine r_iconst (pc := 0) (nI 3) hC dX5_note_0 (by decide) ?_
  first | refine r_aload_n (pc := 1) hC dX5_note_1 rfl ?_ | refine r_aload_nN (pc := 1) hC dX5_note_1 rfl ?_
  refine r_gf (pc := 2) (κ := 6) (j := 18) hC cls6 (by decide) kf_X5_141 hM.k6 hM.s18 dX5_note_2 ?_
  first | refine rn_imul (pc := 5) hC dX5_note_5 ?_ | refine r_imul (pc := 5) hC dX5_note_5 ?_
  first | refine r_aload_n (pc := 6) hC dX5_note_6 rfl ?_ | refine r_aload_nN (pc := 6) hC dX5_note_6 rfl ?_
  refine r_gf (pc := 7) (κ := 6) (j := 19) hC cls6 (by decide) kf_X5_51 hM.k6 (hM.a (j := 19) (by decide)) dX5_note_7 ?_
  refine r_alenI (pc := 10) hC dX5_note_10 (hM.kd (j := 19) (by decide)) ?_
  first | refine rn_icmp_ne (pc := 11) (tgt := 44) hC dX5_note_11 (by decide) (by omega) (by omega) (fun c11 => ?_) (fun c11 => ?_) | refine ri_icmp_ne (pc := 11) (tgt := 44) hC dX5_note_11 (by decide) (fun c11 => ?_) (fun c11 => ?_)
  · -- taken
    refine at_widen (k' := 0 + 1) (n' := 0 + 3072) (by omega) (by omega) ?_
    exact hend _ _ hM Fr.rfl (by omega)
  · -- not
    refine r_iconst (pc := 14) (nI 2) hC dX5_note_14 (by decide) ?_
    first | refine r_aload_n (pc := 15) hC dX5_note_15 rfl ?_ | refine r_aload_nN (pc := 15) hC dX5_note_15 rfl ?_
    refine r_gf (pc := 16) (κ := 6) (j := 19) hC cls6 (by decide) kf_X5_51 hM.k6 (hM.a (j := 19) (by decide)) dX5_note_16 ?_
    refine r_alenI (pc := 19) hC dX5_note_19 (hM.kd (j := 19) (by decide)) ?_
    first | refine rn_imul (pc := 20) hC dX5_note_20 ?_ | refine r_imul (pc := 20) hC dX5_note_20 ?_
    refine r_newI (pc := 21) hC (by omega) (by decide) (by show 0 + 2 * pN S (M 19) ≤ 3072; omega) dX5_note_21 (fun a21 hf21 => ?_)
    refine at_widen (k' := 0 + 1) (n' := 0 + 3072) (by omega) (by omega) ?_
    first | refine r_astore_n (pc := 23) hC dX5_note_23 (by decide) ?_ | refine r_astore_nN (pc := 23) hC dX5_note_23 (by decide) ?_
    first | refine r_aload_n (pc := 24) hC dX5_note_24 rfl ?_ | refine r_aload_nN (pc := 24) hC dX5_note_24 rfl ?_
    refine r_gf (pc := 25) (κ := 6) (j := 19) hC cls6 (by decide) kf_X5_51 (isK_nwA hM.k6 hf21) (hM.a (j := 19) (by decide)) dX5_note_25 ?_
    refine r_iconst (pc := 28) (nI 0) hC dX5_note_28 (by decide) ?_
    first | refine r_aload_n (pc := 29) hC dX5_note_29 rfl ?_ | refine r_aload_nN (pc := 29) hC dX5_note_29 rfl ?_
    refine r_iconst (pc := 30) (nI 0) hC dX5_note_30 (by decide) ?_
    first | refine r_aload_n (pc := 31) hC dX5_note_31 rfl ?_ | refine r_aload_nN (pc := 31) hC dX5_note_31 rfl ?_
    refine r_gf (pc := 32) (κ := 6) (j := 19) hC cls6 (by decide) kf_X5_51 (isK_nwA hM.k6 hf21) (hM.a (j := 19) (by decide)) dX5_note_32 ?_
    refine r_alenI (pc := 35) hC dX5_note_35 (isK_nwA (hM.kd (j := 19) (by decide)) hf21) ?_
    rw [show pN (nwA S a21 7 (2 * pN S (M 19))) (M 19) = pN S (M 19) from if_neg (isK_fr (hM.kd (j := 19) (by decide)) hf21)]
    refine r_copyI (pc := 36) hC kg_X5_144 (isK_nwA (hM.kd (j := 19) (by decide)) hf21) isK_nwA' (by show _ ≤ (if M 19 = a21 then 2 * pN S (M 19) else pN S (M 19)); rw [if_neg (isK_fr (hM.kd (j := 19) (by decide)) hf21)]; omega) (by show _ ≤ (if a21 = a21 then 2 * pN S (M 19) else _); rw [if_pos rfl]; omega) (by omega) (by decide) (by decide) dX5_note_36 ?_
    first | refine r_aload_n (pc := 39) hC dX5_note_39 rfl ?_ | refine r_aload_nN (pc := 39) hC dX5_note_39 rfl ?_
    first | refine r_aload_n (pc := 40) hC dX5_note_40 rfl ?_ | refine r_aload_nN (pc := 40) hC dX5_note_40 rfl ?_
    refine r_pf (pc := 41) (κ := 6) (j := 19) hC cls6 (by decide) kf_X5_51 (isK_sIs.mpr (isK_nwA hM.k6 hf21)) rfl rfl rfl dX5_note_41 ?_
    refine at_lv (lv' := [(0, .ref m), (1, .int (nI b)), (2, .int (nI z))]) ⟨rfl, rfl, rfl, trivial⟩ ?_
    refine hend _ _ (hM.grow rfl c11 (by omega) hf21) ?_ ?_
    · exact fr_sF (frn_sIs hf21) (mP6 hM.k6)
    · show 3 * mv σ + 2 < (if a21 = a21 then 2 * pN S (M 19) else _); rw [if_pos rfl]; omega
abbrev rm_X5_addZone : Room := { frames := 1, cells := 0, slots := 0, locals := 22 }
set_option maxHeartbeats 4000000 in
set_option maxRecDepth 100000 in
theorem cq_addZone {l : Launch} {G : Ids} {S : Ps} {M : Nat → Nat} {σ : Sg} {m t : Nat} {p q r : Int32} (hfl : l.stackTraces = false) (hM : RM S M σ m t) (hV : InvC σ) : Ct l (Cond.code yX5_addZone cX5_addZone 4 (some .int)) yX5_addZone rm_X5_addZone G [.ref m, .int p, .int q, .int r] S (fun v S9 => RQ S [(1, inH p q r), (2, decide (nz σ < 8))] (.int (nI (nz σ))) σ (adZ σ (iN p) (iN q) (iN r)) m v S9) (fun _ _ => False) := by
  refine Ct.of hfl (by decide) (Nat.le_of_ble_eq_true rfl) (fun Γ V hC hR hT hI => ?_)
  have hn := hV.n
  first | refine r_aload_n (pc := 0) hC dX5_addZone_0 rfl ?_ | refine r_aload_nN (pc := 0) hC dX5_addZone_0 rfl ?_
  refine r_iconst (pc := 1) (nI 0) hC dX5_addZone_1 (by decide) ?_
  refine r_pf (pc := 2) (κ := 6) (j := 0) hC cls6 (by decide) kf_X5_54 hM.k6 rfl rfl rfl dX5_addZone_2 ?_
  have hM0 := hM.th (v := 0)
  refine r_iload_n (pc := 5) hC dX5_addZone_5 rfl ?_
  refine r_iload_n (pc := 6) hC dX5_addZone_6 rfl ?_
  refine r_iload_n (pc := 7) hC dX5_addZone_7 rfl ?_
  refine r_callS (pc := 8) hC (cm_hours hC.fl (p := p) (q := q) (r := r)) ks_X5_63 rfl rfl (Nat.le_of_ble_eq_true rfl) ⟨by decide, by decide, by decide, by decide⟩ dX5_addZone_8 (fun _ _ h => h.elim) (fun v8 S8 h8 => ?_)
  obtain ⟨rfl, rfl⟩ := h8
  first | refine rb_if_ne (pc := 11) (tgt := 20) hC dX5_addZone_11 (by decide) (fun c11 => ?_) (fun c11 => ?_) | refine rn_if_ne (pc := 11) (tgt := 20) hC dX5_addZone_11 (by decide) (by omega) (fun c11 => ?_) (fun c11 => ?_) | refine ri_if_ne (pc := 11) (tgt := 20) hC dX5_addZone_11 (by decide) (fun c11 => ?_) (fun c11 => ?_)
  · -- taken
    first | refine r_aload_n (pc := 20) hC dX5_addZone_20 rfl ?_ | refine r_aload_nN (pc := 20) hC dX5_addZone_20 rfl ?_
    refine r_gf (pc := 21) (κ := 6) (j := 3) hC cls6 (by decide) kf_X5_7 hM0.k6 hM0.s3 dX5_addZone_21 ?_
    refine r_bipush (pc := 24) (nI 8) hC dX5_addZone_24 (by decide) ?_
    first | refine rn_icmp_ne (pc := 26) (tgt := 35) hC dX5_addZone_26 (by decide) (by omega) (by omega) (fun c26 => ?_) (fun c26 => ?_) | refine ri_icmp_ne (pc := 26) (tgt := 35) hC dX5_addZone_26 (by decide) (fun c26 => ?_) (fun c26 => ?_)
    · -- taken
      have hd := inH_d c11
      have h8 : nz σ < 8 := by omega
      rw [show Value.int p = Value.int (nI (iN p)) by rw [nI_iN (by omega)], show Value.int q = Value.int (nI (iN q)) by rw [nI_iN (by omega)], show Value.int r = Value.int (nI (iN r)) by rw [nI_iN (by omega)]]
      have l4 : nz σ < pN S (M 4) := hM.len (by decide) (by decide) (show mNn 4 = 8 from rfl) (by omega)
      have l5 : nz σ < pN S (M 5) := hM.len (by decide) (by decide) (show mNn 5 = 8 from rfl) (by omega)
      have l6 : nz σ < pN S (M 6) := hM.len (by decide) (by decide) (show mNn 6 = 8 from rfl) (by omega)
      first | refine r_aload_n (pc := 35) hC dX5_addZone_35 rfl ?_ | refine r_aload_nN (pc := 35) hC dX5_addZone_35 rfl ?_
      refine r_gf (pc := 36) (κ := 6) (j := 4) hC cls6 (by decide) kf_X5_13 hM0.k6 (hM0.a (j := 4) (by decide)) dX5_addZone_36 ?_
      first | refine r_aload_n (pc := 39) hC dX5_addZone_39 rfl ?_ | refine r_aload_nN (pc := 39) hC dX5_addZone_39 rfl ?_
      refine r_gf (pc := 40) (κ := 6) (j := 3) hC cls6 (by decide) kf_X5_7 hM0.k6 hM0.s3 dX5_addZone_40 ?_
      refine r_iload_n (pc := 43) hC dX5_addZone_43 rfl ?_
      refine r_iast (pc := 44) hC dX5_addZone_44 (hM0.kd (j := 4) (by decide)) l4 (hM0.l (j := 4) (by decide)) ?_
      first | refine r_aload_n (pc := 45) hC dX5_addZone_45 rfl ?_ | refine r_aload_nN (pc := 45) hC dX5_addZone_45 rfl ?_
      refine r_gf (pc := 46) (κ := 6) (j := 5) hC cls6 (by decide) kf_X5_17 hM0.k6 (hM0.a (j := 5) (by decide)) dX5_addZone_46 ?_
      first | refine r_aload_n (pc := 49) hC dX5_addZone_49 rfl ?_ | refine r_aload_nN (pc := 49) hC dX5_addZone_49 rfl ?_
      refine r_gf (pc := 50) (κ := 6) (j := 3) hC cls6 (by decide) kf_X5_7 hM0.k6 hM0.s3 dX5_addZone_50 ?_
      refine r_iload_n (pc := 53) hC dX5_addZone_53 rfl ?_
      refine r_iast (pc := 54) hC dX5_addZone_54 (hM0.kd (j := 5) (by decide)) l5 (hM0.l (j := 5) (by decide)) ?_
      first | refine r_aload_n (pc := 55) hC dX5_addZone_55 rfl ?_ | refine r_aload_nN (pc := 55) hC dX5_addZone_55 rfl ?_
      refine r_gf (pc := 56) (κ := 6) (j := 6) hC cls6 (by decide) kf_X5_20 hM0.k6 (hM0.a (j := 6) (by decide)) dX5_addZone_56 ?_
      first | refine r_aload_n (pc := 59) hC dX5_addZone_59 rfl ?_ | refine r_aload_nN (pc := 59) hC dX5_addZone_59 rfl ?_
      refine r_gf (pc := 60) (κ := 6) (j := 3) hC cls6 (by decide) kf_X5_7 hM0.k6 hM0.s3 dX5_addZone_60 ?_
      refine r_iload_n (pc := 63) hC dX5_addZone_63 rfl ?_
      refine r_iast (pc := 64) hC dX5_addZone_64 (hM0.kd (j := 6) (by decide)) l6 (hM0.l (j := 6) (by decide)) ?_
      first | refine r_aload_n (pc := 65) hC dX5_addZone_65 rfl ?_ | refine r_aload_nN (pc := 65) hC dX5_addZone_65 rfl ?_
      refine r_dup (pc := 66) hC dX5_addZone_66 rfl ?_
      refine r_gf (pc := 67) (κ := 6) (j := 3) hC cls6 (by decide) kf_X5_7 hM0.k6 hM0.s3 dX5_addZone_67 ?_
      refine r_iconst (pc := 70) (nI 1) hC dX5_addZone_70 (by decide) ?_
      first | refine rn_iadd (pc := 71) hC dX5_addZone_71 ?_ | refine r_iadd (pc := 71) hC dX5_addZone_71 ?_
      refine r_pf (pc := 72) (κ := 6) (j := 3) hC cls6 (by decide) kf_X5_7 hM0.k6 rfl rfl rfl dX5_addZone_72 ?_
      first | refine r_aload_n (pc := 75) hC dX5_addZone_75 rfl ?_ | refine r_aload_nN (pc := 75) hC dX5_addZone_75 rfl ?_
      refine r_gf (pc := 76) (κ := 6) (j := 3) hC cls6 (by decide) kf_X5_7 hM0.k6 (pF_sF_eq _ _ _ _) dX5_addZone_76 ?_
      refine r_iconst (pc := 79) (nI 1) hC dX5_addZone_79 (by decide) ?_
      first | refine rn_isub (pc := 80) hC dX5_addZone_80 (by omega) ?_ | refine r_isub (pc := 80) hC dX5_addZone_80 ?_
      refine r_iret (pc := 81) hC hR dX5_addZone_81 ?_ (by decide) (by decide)
      exact RQ.ok ((kd_t (c11)).trans ((kd_t (decide_eq_true h8)).trans (rfl))) (by rw [Nat.add_sub_cancel]) (⟨(fr_sF (fr_sI (fr_sI (fr_sI (fr_th hM) (mPa hM (j := 4) (by decide))) (mPa hM (j := 5) (by decide))) (mPa hM (j := 6) (by decide))) (mP6 hM.k6)), M, hM0.iadZ h8⟩)
    · -- not
      first | refine r_aload_n (pc := 29) hC dX5_addZone_29 rfl ?_ | refine r_aload_nN (pc := 29) hC dX5_addZone_29 rfl ?_
      refine r_iconst (pc := 30) (nI 2) hC dX5_addZone_30 (by decide) ?_
      refine r_callV (pc := 31) hC (cm_fail hC.fl hM0 hV (k := 2)) kv_X5_67 cls6 (show isK S 6 m from hM.k6) rfl rfl (Nat.le_of_ble_eq_true rfl) ⟨by decide, by decide, by decide, by decide⟩ dX5_addZone_31 (fun _ _ h => h.elim) (fun v31 S31 h31 => ?_)
      obtain ⟨rfl, hM9, hF9⟩ := h31
      refine r_iret (pc := 34) hC hR dX5_addZone_34 ?_ (by decide) (by decide)
      exact RQ.no (k := 2) ((kd_t (c11)).trans (kd_f (decide_eq_false (by omega)))) (by decide) (rfl) (MO.of (fr_th hM) hF9 hM9)
  · -- not
    first | refine r_aload_n (pc := 14) hC dX5_addZone_14 rfl ?_ | refine r_aload_nN (pc := 14) hC dX5_addZone_14 rfl ?_
    refine r_iconst (pc := 15) (nI 1) hC dX5_addZone_15 (by decide) ?_
    refine r_callV (pc := 16) hC (cm_fail hC.fl hM0 hV (k := 1)) kv_X5_67 cls6 (show isK S 6 m from hM.k6) rfl rfl (Nat.le_of_ble_eq_true rfl) ⟨by decide, by decide, by decide, by decide⟩ dX5_addZone_16 (fun _ _ h => h.elim) (fun v16 S16 h16 => ?_)
    obtain ⟨rfl, hM9, hF9⟩ := h16
    refine r_iret (pc := 19) hC hR dX5_addZone_19 ?_ (by decide) (by decide)
    exact RQ.no (k := 1) (kd_f (c11)) (by decide) (rfl) (MO.of (fr_th hM) hF9 hM9)
abbrev rm_X5_setZone : Room := { frames := 1, cells := 0, slots := 0, locals := 23 }
set_option maxHeartbeats 4000000 in
set_option maxRecDepth 100000 in
theorem cq_setZone {l : Launch} {G : Ids} {S : Ps} {M : Nat → Nat} {σ : Sg} {m t : Nat} {p q r s : Int32} (hfl : l.stackTraces = false) (hM : RM S M σ m t) (hV : InvC σ) : Ct l (Cond.code yX5_setZone cX5_setZone 5 (some .int)) yX5_setZone rm_X5_setZone G [.ref m, .int p, .int q, .int r, .int s] S (fun v S9 => RQ S [(1, inZ1 σ p), (2, inH q r s)] (.int (nI (popc (insB σ (iN p))))) σ (stZ σ (iN p) (iN q) (iN r) (iN s)) m v S9) (fun _ _ => False) := by
  refine Ct.of hfl (by decide) (Nat.le_of_ble_eq_true rfl) (fun Γ V hC hR hT hI => ?_)
  have hn := hV.n
  first | refine r_aload_n (pc := 0) hC dX5_setZone_0 rfl ?_ | refine r_aload_nN (pc := 0) hC dX5_setZone_0 rfl ?_
  refine r_iconst (pc := 1) (nI 0) hC dX5_setZone_1 (by decide) ?_
  refine r_pf (pc := 2) (κ := 6) (j := 0) hC cls6 (by decide) kf_X5_54 hM.k6 rfl rfl rfl dX5_setZone_2 ?_
  have hM0 := hM.th (v := 0)
  first | refine r_aload_n (pc := 5) hC dX5_setZone_5 rfl ?_ | refine r_aload_nN (pc := 5) hC dX5_setZone_5 rfl ?_
  refine r_iload_n (pc := 6) hC dX5_setZone_6 rfl ?_
  refine r_callV (pc := 7) hC (cm_isZone hC.fl hM0 hV (p := p)) kv_X5_71 cls6 (show isK S 6 m from hM.k6) rfl rfl (Nat.le_of_ble_eq_true rfl) ⟨by decide, by decide, by decide, by decide⟩ dX5_setZone_7 (fun _ _ h => h.elim) (fun v7 S7 h7 => ?_)
  obtain ⟨rfl, rfl⟩ := h7
  first | refine rb_if_eq (pc := 10) (tgt := 17) hC dX5_setZone_10 (by decide) (fun c10 => ?_) (fun c10 => ?_) | refine rn_if_eq (pc := 10) (tgt := 17) hC dX5_setZone_10 (by decide) (by omega) (fun c10 => ?_) (fun c10 => ?_) | refine ri_if_eq (pc := 10) (tgt := 17) hC dX5_setZone_10 (by decide) (fun c10 => ?_) (fun c10 => ?_)
  · -- taken
    first | refine r_aload_n (pc := 17) hC dX5_setZone_17 rfl ?_ | refine r_aload_nN (pc := 17) hC dX5_setZone_17 rfl ?_
    refine r_iconst (pc := 18) (nI 1) hC dX5_setZone_18 (by decide) ?_
    refine r_callV (pc := 19) hC (cm_fail hC.fl hM0 hV (k := 1)) kv_X5_67 cls6 (show isK S 6 m from hM.k6) rfl rfl (Nat.le_of_ble_eq_true rfl) ⟨by decide, by decide, by decide, by decide⟩ dX5_setZone_19 (fun _ _ h => h.elim) (fun v19 S19 h19 => ?_)
    obtain ⟨rfl, hM9, hF9⟩ := h19
    refine r_iret (pc := 22) hC hR dX5_setZone_22 ?_ (by decide) (by decide)
    exact RQ.no (k := 1) (kd_f (inZ1_f c10)) (by decide) (rfl) (MO.of (fr_th hM) hF9 hM9)
  · -- not
    have hZp := inZ_n c10
    have hdz := inZ_d c10
    rw [show Value.int p = Value.int (nI (iN p)) by rw [nI_iN (by omega)]]
    refine r_iload_n (pc := 13) hC dX5_setZone_13 rfl ?_
    first | refine rb_if_ne (pc := 14) (tgt := 23) hC dX5_setZone_14 (by decide) (fun c14 => ?_) (fun c14 => ?_) | refine rn_if_ne (pc := 14) (tgt := 23) hC dX5_setZone_14 (by decide) (by omega) (fun c14 => ?_) (fun c14 => ?_) | refine ri_if_ne (pc := 14) (tgt := 23) hC dX5_setZone_14 (by decide) (fun c14 => ?_) (fun c14 => ?_)
    · -- taken
      refine r_iload_n (pc := 23) hC dX5_setZone_23 rfl ?_
      refine r_iload_n (pc := 24) hC dX5_setZone_24 rfl ?_
      refine r_iload (pc := 25) hC dX5_setZone_25 rfl ?_
      refine r_callS (pc := 27) hC (cm_hours hC.fl (p := q) (q := r) (r := s)) ks_X5_63 rfl rfl (Nat.le_of_ble_eq_true rfl) ⟨by decide, by decide, by decide, by decide⟩ dX5_setZone_27 (fun _ _ h => h.elim) (fun v27 S27 h27 => ?_)
      obtain ⟨rfl, rfl⟩ := h27
      first | refine rb_if_ne (pc := 30) (tgt := 39) hC dX5_setZone_30 (by decide) (fun c30 => ?_) (fun c30 => ?_) | refine rn_if_ne (pc := 30) (tgt := 39) hC dX5_setZone_30 (by decide) (by omega) (fun c30 => ?_) (fun c30 => ?_) | refine ri_if_ne (pc := 30) (tgt := 39) hC dX5_setZone_30 (by decide) (fun c30 => ?_) (fun c30 => ?_)
      · -- taken
        have hd := inH_d c30
        rw [show Value.int q = Value.int (nI (iN q)) by rw [nI_iN (by omega)], show Value.int r = Value.int (nI (iN r)) by rw [nI_iN (by omega)], show Value.int s = Value.int (nI (iN s)) by rw [nI_iN (by omega)]]
        have hc0 : inZ1 σ p = true := decide_eq_true (by unfold iN at c14; omega)
        have l4 : iN p < pN S (M 4) := hM.len (by decide) (by decide) (show mNn 4 = 8 from rfl) (by omega)
        have l5 : iN p < pN S (M 5) := hM.len (by decide) (by decide) (show mNn 5 = 8 from rfl) (by omega)
        have l6 : iN p < pN S (M 6) := hM.len (by decide) (by decide) (show mNn 6 = 8 from rfl) (by omega)
        first | refine r_aload_n (pc := 39) hC dX5_setZone_39 rfl ?_ | refine r_aload_nN (pc := 39) hC dX5_setZone_39 rfl ?_
        refine r_gf (pc := 40) (κ := 6) (j := 4) hC cls6 (by decide) kf_X5_13 hM0.k6 (hM0.a (j := 4) (by decide)) dX5_setZone_40 ?_
        refine r_iload_n (pc := 43) hC dX5_setZone_43 rfl ?_
        refine r_iload_n (pc := 44) hC dX5_setZone_44 rfl ?_
        refine r_iast (pc := 45) hC dX5_setZone_45 (hM0.kd (j := 4) (by decide)) l4 (hM0.l (j := 4) (by decide)) ?_
        first | refine r_aload_n (pc := 46) hC dX5_setZone_46 rfl ?_ | refine r_aload_nN (pc := 46) hC dX5_setZone_46 rfl ?_
        refine r_gf (pc := 47) (κ := 6) (j := 5) hC cls6 (by decide) kf_X5_17 hM0.k6 (hM0.a (j := 5) (by decide)) dX5_setZone_47 ?_
        refine r_iload_n (pc := 50) hC dX5_setZone_50 rfl ?_
        refine r_iload_n (pc := 51) hC dX5_setZone_51 rfl ?_
        refine r_iast (pc := 52) hC dX5_setZone_52 (hM0.kd (j := 5) (by decide)) l5 (hM0.l (j := 5) (by decide)) ?_
        first | refine r_aload_n (pc := 53) hC dX5_setZone_53 rfl ?_ | refine r_aload_nN (pc := 53) hC dX5_setZone_53 rfl ?_
        refine r_gf (pc := 54) (κ := 6) (j := 6) hC cls6 (by decide) kf_X5_20 hM0.k6 (hM0.a (j := 6) (by decide)) dX5_setZone_54 ?_
        refine r_iload_n (pc := 57) hC dX5_setZone_57 rfl ?_
        refine r_iload (pc := 58) hC dX5_setZone_58 rfl ?_
        refine r_iast (pc := 60) hC dX5_setZone_60 (hM0.kd (j := 6) (by decide)) l6 (hM0.l (j := 6) (by decide)) ?_
        have hM3 := ((hM0.u (f := 2) (jf := 4) (w := iN q) (by decide) l4).u (f := 3) (jf := 5) (i := iN p) (w := iN r) (by decide) l5).u (f := 4) (jf := 6) (i := iN p) (w := iN s) (by decide) l6
        have hV3 : InvC (stZ σ (iN p) (iN q) (iN r) (iN s)) := hV.istZ (by omega) (by unfold iN; omega) (by unfold iN; omega) (by unfold iN; omega) (by unfold iN; omega)
        first | refine r_aload_n (pc := 61) hC dX5_setZone_61 rfl ?_ | refine r_aload_nN (pc := 61) hC dX5_setZone_61 rfl ?_
        refine r_iload_n (pc := 62) hC dX5_setZone_62 rfl ?_
        refine r_callV (pc := 63) hC (cm_inside hC.fl (σ := stZ σ (iN p) (iN q) (iN r) (iN s)) (z := iN p) hM3 hV3 hZp) kv_X5_75 cls6 (show isK S 6 m from hM.k6) rfl rfl (Nat.le_of_ble_eq_true rfl) ⟨by decide, by decide, by decide, by decide⟩ dX5_setZone_63 (fun _ _ h => h.elim) (fun v63 S63 h63 => ?_)
        obtain ⟨rfl, rfl⟩ := h63
        refine r_callS (pc := 66) hC (ct_bitc hC.fl (insB_lt (σ := stZ σ (iN p) (iN q) (iN r) (iN s)) hn.2.2.2.1 (iN p))) ks_X5_78 rfl rfl (Nat.le_of_ble_eq_true rfl) ⟨by decide, by decide, by decide, by decide⟩ dX5_setZone_66 (fun _ _ h => h.elim) (fun v66 S66 h66 => ?_)
        obtain ⟨rfl, rfl⟩ := h66
        refine r_iret (pc := 69) hC hR dX5_setZone_69 ?_ (by decide) (by decide)
        exact RQ.ok ((kd_t (hc0)).trans ((kd_t (c30)).trans (rfl))) (rfl) (⟨(fr_sI (fr_sI (fr_sI (fr_th hM) (mPa hM (j := 4) (by decide))) (mPa hM (j := 5) (by decide))) (mPa hM (j := 6) (by decide))), M, hM3⟩)
      · -- not
        first | refine r_aload_n (pc := 33) hC dX5_setZone_33 rfl ?_ | refine r_aload_nN (pc := 33) hC dX5_setZone_33 rfl ?_
        refine r_iconst (pc := 34) (nI 2) hC dX5_setZone_34 (by decide) ?_
        refine r_callV (pc := 35) hC (cm_fail hC.fl hM0 hV (k := 2)) kv_X5_67 cls6 (show isK S 6 m from hM.k6) rfl rfl (Nat.le_of_ble_eq_true rfl) ⟨by decide, by decide, by decide, by decide⟩ dX5_setZone_35 (fun _ _ h => h.elim) (fun v35 S35 h35 => ?_)
        obtain ⟨rfl, hM9, hF9⟩ := h35
        refine r_iret (pc := 38) hC hR dX5_setZone_38 ?_ (by decide) (by decide)
        exact RQ.no (k := 2) ((kd_t (show inZ1 σ p = true from decide_eq_true (by unfold iN at c14; omega))).trans (kd_f (c30))) (by decide) (rfl) (MO.of (fr_th hM) hF9 hM9)
    · -- not
      first | refine r_aload_n (pc := 17) hC dX5_setZone_17 rfl ?_ | refine r_aload_nN (pc := 17) hC dX5_setZone_17 rfl ?_
      refine r_iconst (pc := 18) (nI 1) hC dX5_setZone_18 (by decide) ?_
      refine r_callV (pc := 19) hC (cm_fail hC.fl hM0 hV (k := 1)) kv_X5_67 cls6 (show isK S 6 m from hM.k6) rfl rfl (Nat.le_of_ble_eq_true rfl) ⟨by decide, by decide, by decide, by decide⟩ dX5_setZone_19 (fun _ _ h => h.elim) (fun v19 S19 h19 => ?_)
      obtain ⟨rfl, hM9, hF9⟩ := h19
      refine r_iret (pc := 22) hC hR dX5_setZone_22 ?_ (by decide) (by decide)
      exact RQ.no (k := 1) (kd_f (decide_eq_false (by unfold iN at c14; omega))) (by decide) (rfl) (MO.of (fr_th hM) hF9 hM9)
abbrev rm_X5_addDoor : Room := { frames := 1, cells := 0, slots := 0, locals := 21 }
set_option maxHeartbeats 4000000 in
set_option maxRecDepth 100000 in
theorem cq_addDoor {l : Launch} {G : Ids} {S : Ps} {M : Nat → Nat} {σ : Sg} {m t : Nat} {p q r s : Int32} (hfl : l.stackTraces = false) (hM : RM S M σ m t) (hV : InvC σ) : Ct l (Cond.code yX5_addDoor cX5_addDoor 5 (some .int)) yX5_addDoor rm_X5_addDoor G [.ref m, .int p, .int q, .int r, .int s] S (fun v S9 => RQ S [(1, inZ σ p), (1, inZ σ q), (2, inE p q r s), (3, decide (nd σ < 12))] (.int (nI (nd σ))) σ (adD σ (iN p) (iN q) (iN r) (iN s)) m v S9) (fun _ _ => False) := by
  refine Ct.of hfl (by decide) (Nat.le_of_ble_eq_true rfl) (fun Γ V hC hR hT hI => ?_)
  have hn := hV.n
  first | refine r_aload_n (pc := 0) hC dX5_addDoor_0 rfl ?_ | refine r_aload_nN (pc := 0) hC dX5_addDoor_0 rfl ?_
  refine r_iconst (pc := 1) (nI 0) hC dX5_addDoor_1 (by decide) ?_
  refine r_pf (pc := 2) (κ := 6) (j := 0) hC cls6 (by decide) kf_X5_54 hM.k6 rfl rfl rfl dX5_addDoor_2 ?_
  have hM0 := hM.th (v := 0)
  first | refine r_aload_n (pc := 5) hC dX5_addDoor_5 rfl ?_ | refine r_aload_nN (pc := 5) hC dX5_addDoor_5 rfl ?_
  refine r_iload_n (pc := 6) hC dX5_addDoor_6 rfl ?_
  refine r_callV (pc := 7) hC (cm_isZone hC.fl hM0 hV (p := p)) kv_X5_71 cls6 (show isK S 6 m from hM.k6) rfl rfl (Nat.le_of_ble_eq_true rfl) ⟨by decide, by decide, by decide, by decide⟩ dX5_addDoor_7 (fun _ _ h => h.elim) (fun v7 S7 h7 => ?_)
  obtain ⟨rfl, rfl⟩ := h7
  first | refine rb_if_eq (pc := 10) (tgt := 21) hC dX5_addDoor_10 (by decide) (fun c10 => ?_) (fun c10 => ?_) | refine rn_if_eq (pc := 10) (tgt := 21) hC dX5_addDoor_10 (by decide) (by omega) (fun c10 => ?_) (fun c10 => ?_) | refine ri_if_eq (pc := 10) (tgt := 21) hC dX5_addDoor_10 (by decide) (fun c10 => ?_) (fun c10 => ?_)
  · -- taken
    first | refine r_aload_n (pc := 21) hC dX5_addDoor_21 rfl ?_ | refine r_aload_nN (pc := 21) hC dX5_addDoor_21 rfl ?_
    refine r_iconst (pc := 22) (nI 1) hC dX5_addDoor_22 (by decide) ?_
    refine r_callV (pc := 23) hC (cm_fail hC.fl hM0 hV (k := 1)) kv_X5_67 cls6 (show isK S 6 m from hM.k6) rfl rfl (Nat.le_of_ble_eq_true rfl) ⟨by decide, by decide, by decide, by decide⟩ dX5_addDoor_23 (fun _ _ h => h.elim) (fun v23 S23 h23 => ?_)
    obtain ⟨rfl, hM9, hF9⟩ := h23
    refine r_iret (pc := 26) hC hR dX5_addDoor_26 ?_ (by decide) (by decide)
    exact RQ.no (k := 1) (kd_f (c10)) (by decide) (rfl) (MO.of (fr_th hM) hF9 hM9)
  · -- not
    first | refine r_aload_n (pc := 13) hC dX5_addDoor_13 rfl ?_ | refine r_aload_nN (pc := 13) hC dX5_addDoor_13 rfl ?_
    refine r_iload_n (pc := 14) hC dX5_addDoor_14 rfl ?_
    refine r_callV (pc := 15) hC (cm_isZone hC.fl hM0 hV (p := q)) kv_X5_71 cls6 (show isK S 6 m from hM.k6) rfl rfl (Nat.le_of_ble_eq_true rfl) ⟨by decide, by decide, by decide, by decide⟩ dX5_addDoor_15 (fun _ _ h => h.elim) (fun v15 S15 h15 => ?_)
    obtain ⟨rfl, rfl⟩ := h15
    first | refine rb_if_ne (pc := 18) (tgt := 27) hC dX5_addDoor_18 (by decide) (fun c18 => ?_) (fun c18 => ?_) | refine rn_if_ne (pc := 18) (tgt := 27) hC dX5_addDoor_18 (by decide) (by omega) (fun c18 => ?_) (fun c18 => ?_) | refine ri_if_ne (pc := 18) (tgt := 27) hC dX5_addDoor_18 (by decide) (fun c18 => ?_) (fun c18 => ?_)
    · -- taken
      have q9 : (nI 9).toInt = 9 := rfl
      have q3 : (nI 3).toInt = 3 := rfl
      have hZp := inZ_n c10
      have hdp := inZ_d c10
      have hZq := inZ_n c18
      have hdq := inZ_d c18
      have ep := iN_toInt (p := p) (by omega)
      have eq9 := iN_toInt (p := q) (by omega)
      rw [show Value.int p = Value.int (nI (iN p)) by rw [nI_iN (by omega)], show Value.int q = Value.int (nI (iN q)) by rw [nI_iN (by omega)]]
      refine r_iload_n (pc := 27) hC dX5_addDoor_27 rfl ?_
      refine r_iload_n (pc := 28) hC dX5_addDoor_28 rfl ?_
      first | refine rn_icmp_eq (pc := 29) (tgt := 53) hC dX5_addDoor_29 (by decide) (by omega) (by omega) (fun c29 => ?_) (fun c29 => ?_) | refine ri_icmp_eq (pc := 29) (tgt := 53) hC dX5_addDoor_29 (by decide) (fun c29 => ?_) (fun c29 => ?_)
      · -- taken
        first | refine r_aload_n (pc := 53) hC dX5_addDoor_53 rfl ?_ | refine r_aload_nN (pc := 53) hC dX5_addDoor_53 rfl ?_
        refine r_iconst (pc := 54) (nI 2) hC dX5_addDoor_54 (by decide) ?_
        refine r_callV (pc := 55) hC (cm_fail hC.fl hM0 hV (k := 2)) kv_X5_67 cls6 (show isK S 6 m from hM.k6) rfl rfl (Nat.le_of_ble_eq_true rfl) ⟨by decide, by decide, by decide, by decide⟩ dX5_addDoor_55 (fun _ _ h => h.elim) (fun v55 S55 h55 => ?_)
        obtain ⟨rfl, hM9, hF9⟩ := h55
        refine r_iret (pc := 58) hC hR dX5_addDoor_58 ?_ (by decide) (by decide)
        exact RQ.no (k := 2) ((kd_t (c10)).trans ((kd_t (c18)).trans (kd_f (decide_eq_false (by omega))))) (by decide) (rfl) (MO.of (fr_th hM) hF9 hM9)
      · -- not
        refine r_iload_n (pc := 32) hC dX5_addDoor_32 rfl ?_
        refine ri_if_lt (pc := 33) (tgt := 53) hC dX5_addDoor_33 (by decide) (fun c33 => ?_) (fun c33 => ?_)
        · -- taken
          first | refine r_aload_n (pc := 53) hC dX5_addDoor_53 rfl ?_ | refine r_aload_nN (pc := 53) hC dX5_addDoor_53 rfl ?_
          refine r_iconst (pc := 54) (nI 2) hC dX5_addDoor_54 (by decide) ?_
          refine r_callV (pc := 55) hC (cm_fail hC.fl hM0 hV (k := 2)) kv_X5_67 cls6 (show isK S 6 m from hM.k6) rfl rfl (Nat.le_of_ble_eq_true rfl) ⟨by decide, by decide, by decide, by decide⟩ dX5_addDoor_55 (fun _ _ h => h.elim) (fun v55 S55 h55 => ?_)
          obtain ⟨rfl, hM9, hF9⟩ := h55
          refine r_iret (pc := 58) hC hR dX5_addDoor_58 ?_ (by decide) (by decide)
          exact RQ.no (k := 2) ((kd_t (c10)).trans ((kd_t (c18)).trans (kd_f (decide_eq_false (by omega))))) (by decide) (rfl) (MO.of (fr_th hM) hF9 hM9)
        · -- not
          refine r_iload_n (pc := 36) hC dX5_addDoor_36 rfl ?_
          refine r_bipush (pc := 37) (nI 9) hC dX5_addDoor_37 (by decide) ?_
          first | refine rn_icmp_gt (pc := 39) (tgt := 53) hC dX5_addDoor_39 (by decide) (by omega) (by omega) (fun c39 => ?_) (fun c39 => ?_) | refine ri_icmp_gt (pc := 39) (tgt := 53) hC dX5_addDoor_39 (by decide) (fun c39 => ?_) (fun c39 => ?_)
          · -- taken
            first | refine r_aload_n (pc := 53) hC dX5_addDoor_53 rfl ?_ | refine r_aload_nN (pc := 53) hC dX5_addDoor_53 rfl ?_
            refine r_iconst (pc := 54) (nI 2) hC dX5_addDoor_54 (by decide) ?_
            refine r_callV (pc := 55) hC (cm_fail hC.fl hM0 hV (k := 2)) kv_X5_67 cls6 (show isK S 6 m from hM.k6) rfl rfl (Nat.le_of_ble_eq_true rfl) ⟨by decide, by decide, by decide, by decide⟩ dX5_addDoor_55 (fun _ _ h => h.elim) (fun v55 S55 h55 => ?_)
            obtain ⟨rfl, hM9, hF9⟩ := h55
            refine r_iret (pc := 58) hC hR dX5_addDoor_58 ?_ (by decide) (by decide)
            exact RQ.no (k := 2) ((kd_t (c10)).trans ((kd_t (c18)).trans (kd_f (decide_eq_false (by omega))))) (by decide) (rfl) (MO.of (fr_th hM) hF9 hM9)
          · -- not
            refine r_iload (pc := 42) hC dX5_addDoor_42 rfl ?_
            refine ri_if_lt (pc := 44) (tgt := 53) hC dX5_addDoor_44 (by decide) (fun c44 => ?_) (fun c44 => ?_)
            · -- taken
              first | refine r_aload_n (pc := 53) hC dX5_addDoor_53 rfl ?_ | refine r_aload_nN (pc := 53) hC dX5_addDoor_53 rfl ?_
              refine r_iconst (pc := 54) (nI 2) hC dX5_addDoor_54 (by decide) ?_
              refine r_callV (pc := 55) hC (cm_fail hC.fl hM0 hV (k := 2)) kv_X5_67 cls6 (show isK S 6 m from hM.k6) rfl rfl (Nat.le_of_ble_eq_true rfl) ⟨by decide, by decide, by decide, by decide⟩ dX5_addDoor_55 (fun _ _ h => h.elim) (fun v55 S55 h55 => ?_)
              obtain ⟨rfl, hM9, hF9⟩ := h55
              refine r_iret (pc := 58) hC hR dX5_addDoor_58 ?_ (by decide) (by decide)
              exact RQ.no (k := 2) ((kd_t (c10)).trans ((kd_t (c18)).trans (kd_f (decide_eq_false (by omega))))) (by decide) (rfl) (MO.of (fr_th hM) hF9 hM9)
            · -- not
              refine r_iload (pc := 47) hC dX5_addDoor_47 rfl ?_
              refine r_iconst (pc := 49) (nI 3) hC dX5_addDoor_49 (by decide) ?_
              first | refine rn_icmp_le (pc := 50) (tgt := 59) hC dX5_addDoor_50 (by decide) (by omega) (by omega) (fun c50 => ?_) (fun c50 => ?_) | refine ri_icmp_le (pc := 50) (tgt := 59) hC dX5_addDoor_50 (by decide) (fun c50 => ?_) (fun c50 => ?_)
              · -- taken
                have hE : inE p q r s = true := decide_eq_true (by omega)
                first | refine r_aload_n (pc := 59) hC dX5_addDoor_59 rfl ?_ | refine r_aload_nN (pc := 59) hC dX5_addDoor_59 rfl ?_
                refine r_gf (pc := 60) (κ := 6) (j := 7) hC cls6 (by decide) kf_X5_57 hM0.k6 hM0.s7 dX5_addDoor_60 ?_
                refine r_bipush (pc := 63) (nI 12) hC dX5_addDoor_63 (by decide) ?_
                first | refine rn_icmp_ne (pc := 65) (tgt := 74) hC dX5_addDoor_65 (by decide) (by omega) (by omega) (fun c65 => ?_) (fun c65 => ?_) | refine ri_icmp_ne (pc := 65) (tgt := 74) hC dX5_addDoor_65 (by decide) (fun c65 => ?_) (fun c65 => ?_)
                · -- taken
                  have h12 : nd σ < 12 := by omega
                  rw [show Value.int r = Value.int (nI (iN r)) by rw [nI_iN (by omega)], show Value.int s = Value.int (nI (iN s)) by rw [nI_iN (by omega)]]
                  have l8 : 2 * nd σ < pN S (M 8) := hM.len (by decide) (by decide) (show mNn 8 = 24 from rfl) (by omega)
                  have m8 : 2 * nd σ + 1 < pN S (M 8) := hM.len (by decide) (by decide) (show mNn 8 = 24 from rfl) (by omega)
                  have l9 : nd σ < pN S (M 9) := hM.len (by decide) (by decide) (show mNn 9 = 12 from rfl) (by omega)
                  have l10 : nd σ < pN S (M 10) := hM.len (by decide) (by decide) (show mNn 10 = 12 from rfl) (by omega)
                  have l11 : nd σ < pN S (M 11) := hM.len (by decide) (by decide) (show mNn 11 = 12 from rfl) (by omega)
                  first | refine r_aload_n (pc := 74) hC dX5_addDoor_74 rfl ?_ | refine r_aload_nN (pc := 74) hC dX5_addDoor_74 rfl ?_
                  refine r_gf (pc := 75) (κ := 6) (j := 8) hC cls6 (by decide) kf_X5_23 hM0.k6 (hM0.a (j := 8) (by decide)) dX5_addDoor_75 ?_
                  refine r_iconst (pc := 78) (nI 2) hC dX5_addDoor_78 (by decide) ?_
                  first | refine r_aload_n (pc := 79) hC dX5_addDoor_79 rfl ?_ | refine r_aload_nN (pc := 79) hC dX5_addDoor_79 rfl ?_
                  refine r_gf (pc := 80) (κ := 6) (j := 7) hC cls6 (by decide) kf_X5_57 hM0.k6 hM0.s7 dX5_addDoor_80 ?_
                  first | refine rn_imul (pc := 83) hC dX5_addDoor_83 ?_ | refine r_imul (pc := 83) hC dX5_addDoor_83 ?_
                  refine r_iload_n (pc := 84) hC dX5_addDoor_84 rfl ?_
                  refine r_iast (pc := 85) hC dX5_addDoor_85 (hM0.kd (j := 8) (by decide)) l8 (hM0.l (j := 8) (by decide)) ?_
                  first | refine r_aload_n (pc := 86) hC dX5_addDoor_86 rfl ?_ | refine r_aload_nN (pc := 86) hC dX5_addDoor_86 rfl ?_
                  refine r_gf (pc := 87) (κ := 6) (j := 8) hC cls6 (by decide) kf_X5_23 hM0.k6 (hM0.a (j := 8) (by decide)) dX5_addDoor_87 ?_
                  refine r_iconst (pc := 90) (nI 2) hC dX5_addDoor_90 (by decide) ?_
                  first | refine r_aload_n (pc := 91) hC dX5_addDoor_91 rfl ?_ | refine r_aload_nN (pc := 91) hC dX5_addDoor_91 rfl ?_
                  refine r_gf (pc := 92) (κ := 6) (j := 7) hC cls6 (by decide) kf_X5_57 hM0.k6 hM0.s7 dX5_addDoor_92 ?_
                  first | refine rn_imul (pc := 95) hC dX5_addDoor_95 ?_ | refine r_imul (pc := 95) hC dX5_addDoor_95 ?_
                  refine r_iconst (pc := 96) (nI 1) hC dX5_addDoor_96 (by decide) ?_
                  first | refine rn_iadd (pc := 97) hC dX5_addDoor_97 ?_ | refine r_iadd (pc := 97) hC dX5_addDoor_97 ?_
                  refine r_iload_n (pc := 98) hC dX5_addDoor_98 rfl ?_
                  refine r_iast (pc := 99) hC dX5_addDoor_99 (hM0.kd (j := 8) (by decide)) m8 (hM0.l (j := 8) (by decide)) ?_
                  first | refine r_aload_n (pc := 100) hC dX5_addDoor_100 rfl ?_ | refine r_aload_nN (pc := 100) hC dX5_addDoor_100 rfl ?_
                  refine r_gf (pc := 101) (κ := 6) (j := 9) hC cls6 (by decide) kf_X5_26 hM0.k6 (hM0.a (j := 9) (by decide)) dX5_addDoor_101 ?_
                  first | refine r_aload_n (pc := 104) hC dX5_addDoor_104 rfl ?_ | refine r_aload_nN (pc := 104) hC dX5_addDoor_104 rfl ?_
                  refine r_gf (pc := 105) (κ := 6) (j := 7) hC cls6 (by decide) kf_X5_57 hM0.k6 hM0.s7 dX5_addDoor_105 ?_
                  refine r_iload_n (pc := 108) hC dX5_addDoor_108 rfl ?_
                  refine r_iast (pc := 109) hC dX5_addDoor_109 (hM0.kd (j := 9) (by decide)) l9 (hM0.l (j := 9) (by decide)) ?_
                  first | refine r_aload_n (pc := 110) hC dX5_addDoor_110 rfl ?_ | refine r_aload_nN (pc := 110) hC dX5_addDoor_110 rfl ?_
                  refine r_gf (pc := 111) (κ := 6) (j := 10) hC cls6 (by decide) kf_X5_29 hM0.k6 (hM0.a (j := 10) (by decide)) dX5_addDoor_111 ?_
                  first | refine r_aload_n (pc := 114) hC dX5_addDoor_114 rfl ?_ | refine r_aload_nN (pc := 114) hC dX5_addDoor_114 rfl ?_
                  refine r_gf (pc := 115) (κ := 6) (j := 7) hC cls6 (by decide) kf_X5_57 hM0.k6 hM0.s7 dX5_addDoor_115 ?_
                  refine r_iload (pc := 118) hC dX5_addDoor_118 rfl ?_
                  refine r_iast (pc := 120) hC dX5_addDoor_120 (hM0.kd (j := 10) (by decide)) l10 (hM0.l (j := 10) (by decide)) ?_
                  first | refine r_aload_n (pc := 121) hC dX5_addDoor_121 rfl ?_ | refine r_aload_nN (pc := 121) hC dX5_addDoor_121 rfl ?_
                  refine r_gf (pc := 122) (κ := 6) (j := 11) hC cls6 (by decide) kf_X5_32 hM0.k6 (hM0.a (j := 11) (by decide)) dX5_addDoor_122 ?_
                  first | refine r_aload_n (pc := 125) hC dX5_addDoor_125 rfl ?_ | refine r_aload_nN (pc := 125) hC dX5_addDoor_125 rfl ?_
                  refine r_gf (pc := 126) (κ := 6) (j := 7) hC cls6 (by decide) kf_X5_57 hM0.k6 hM0.s7 dX5_addDoor_126 ?_
                  refine r_iconst (pc := 129) (nI 0) hC dX5_addDoor_129 (by decide) ?_
                  refine r_iast (pc := 130) hC dX5_addDoor_130 (hM0.kd (j := 11) (by decide)) l11 (hM0.l (j := 11) (by decide)) ?_
                  first | refine r_aload_n (pc := 131) hC dX5_addDoor_131 rfl ?_ | refine r_aload_nN (pc := 131) hC dX5_addDoor_131 rfl ?_
                  refine r_dup (pc := 132) hC dX5_addDoor_132 rfl ?_
                  refine r_gf (pc := 133) (κ := 6) (j := 7) hC cls6 (by decide) kf_X5_57 hM0.k6 hM0.s7 dX5_addDoor_133 ?_
                  refine r_iconst (pc := 136) (nI 1) hC dX5_addDoor_136 (by decide) ?_
                  first | refine rn_iadd (pc := 137) hC dX5_addDoor_137 ?_ | refine r_iadd (pc := 137) hC dX5_addDoor_137 ?_
                  refine r_pf (pc := 138) (κ := 6) (j := 7) hC cls6 (by decide) kf_X5_57 hM0.k6 rfl rfl rfl dX5_addDoor_138 ?_
                  first | refine r_aload_n (pc := 141) hC dX5_addDoor_141 rfl ?_ | refine r_aload_nN (pc := 141) hC dX5_addDoor_141 rfl ?_
                  refine r_gf (pc := 142) (κ := 6) (j := 7) hC cls6 (by decide) kf_X5_57 hM0.k6 (pF_sF_eq _ _ _ _) dX5_addDoor_142 ?_
                  refine r_iconst (pc := 145) (nI 1) hC dX5_addDoor_145 (by decide) ?_
                  first | refine rn_isub (pc := 146) hC dX5_addDoor_146 (by omega) ?_ | refine r_isub (pc := 146) hC dX5_addDoor_146 ?_
                  refine r_iret (pc := 147) hC hR dX5_addDoor_147 ?_ (by decide) (by decide)
                  exact RQ.ok ((kd_t (c10)).trans ((kd_t (c18)).trans ((kd_t (hE)).trans ((kd_t (decide_eq_true h12)).trans (rfl))))) (by rw [Nat.add_sub_cancel]) (⟨(fr_sF (fr_sI (fr_sI (fr_sI (fr_sI (fr_sI (fr_th hM) (mPa hM (j := 8) (by decide))) (mPa hM (j := 8) (by decide))) (mPa hM (j := 9) (by decide))) (mPa hM (j := 10) (by decide))) (mPa hM (j := 11) (by decide))) (mP6 hM.k6)), M, hM0.iadD h12⟩)
                · -- not
                  first | refine r_aload_n (pc := 68) hC dX5_addDoor_68 rfl ?_ | refine r_aload_nN (pc := 68) hC dX5_addDoor_68 rfl ?_
                  refine r_iconst (pc := 69) (nI 3) hC dX5_addDoor_69 (by decide) ?_
                  refine r_callV (pc := 70) hC (cm_fail hC.fl hM0 hV (k := 3)) kv_X5_67 cls6 (show isK S 6 m from hM.k6) rfl rfl (Nat.le_of_ble_eq_true rfl) ⟨by decide, by decide, by decide, by decide⟩ dX5_addDoor_70 (fun _ _ h => h.elim) (fun v70 S70 h70 => ?_)
                  obtain ⟨rfl, hM9, hF9⟩ := h70
                  refine r_iret (pc := 73) hC hR dX5_addDoor_73 ?_ (by decide) (by decide)
                  exact RQ.no (k := 3) ((kd_t (c10)).trans ((kd_t (c18)).trans ((kd_t (hE)).trans (kd_f (decide_eq_false (by omega)))))) (by decide) (rfl) (MO.of (fr_th hM) hF9 hM9)
              · -- not
                first | refine r_aload_n (pc := 53) hC dX5_addDoor_53 rfl ?_ | refine r_aload_nN (pc := 53) hC dX5_addDoor_53 rfl ?_
                refine r_iconst (pc := 54) (nI 2) hC dX5_addDoor_54 (by decide) ?_
                refine r_callV (pc := 55) hC (cm_fail hC.fl hM0 hV (k := 2)) kv_X5_67 cls6 (show isK S 6 m from hM.k6) rfl rfl (Nat.le_of_ble_eq_true rfl) ⟨by decide, by decide, by decide, by decide⟩ dX5_addDoor_55 (fun _ _ h => h.elim) (fun v55 S55 h55 => ?_)
                obtain ⟨rfl, hM9, hF9⟩ := h55
                refine r_iret (pc := 58) hC hR dX5_addDoor_58 ?_ (by decide) (by decide)
                exact RQ.no (k := 2) ((kd_t (c10)).trans ((kd_t (c18)).trans (kd_f (decide_eq_false (by omega))))) (by decide) (rfl) (MO.of (fr_th hM) hF9 hM9)
    · -- not
      first | refine r_aload_n (pc := 21) hC dX5_addDoor_21 rfl ?_ | refine r_aload_nN (pc := 21) hC dX5_addDoor_21 rfl ?_
      refine r_iconst (pc := 22) (nI 1) hC dX5_addDoor_22 (by decide) ?_
      refine r_callV (pc := 23) hC (cm_fail hC.fl hM0 hV (k := 1)) kv_X5_67 cls6 (show isK S 6 m from hM.k6) rfl rfl (Nat.le_of_ble_eq_true rfl) ⟨by decide, by decide, by decide, by decide⟩ dX5_addDoor_23 (fun _ _ h => h.elim) (fun v23 S23 h23 => ?_)
      obtain ⟨rfl, hM9, hF9⟩ := h23
      refine r_iret (pc := 26) hC hR dX5_addDoor_26 ?_ (by decide) (by decide)
      exact RQ.no (k := 1) ((kd_t (c10)).trans (kd_f (c18))) (by decide) (rfl) (MO.of (fr_th hM) hF9 hM9)
abbrev rm_X5_addBadge : Room := { frames := 1, cells := 0, slots := 0, locals := 22 }
set_option maxHeartbeats 4000000 in
set_option maxRecDepth 100000 in
theorem cq_addBadge {l : Launch} {G : Ids} {S : Ps} {M : Nat → Nat} {σ : Sg} {m t : Nat} {p : Int32} (hfl : l.stackTraces = false) (hM : RM S M σ m t) (hV : InvC σ) : Ct l (Cond.code yX5_addBadge cX5_addBadge 2 (some .int)) yX5_addBadge rm_X5_addBadge G [.ref m, .int p] S (fun v S9 => RQ S [(1, wi 0 255 p), (2, decide (nb σ < 10))] (.int (nI (nb σ))) σ (adB σ 0 (iN p)) m v S9) (fun _ _ => False) := by
  refine Ct.of hfl (by decide) (Nat.le_of_ble_eq_true rfl) (fun Γ V hC hR hT hI => ?_)
  have hn := hV.n
  have q255 : (nI 255).toInt = 255 := rfl
  first | refine r_aload_n (pc := 0) hC dX5_addBadge_0 rfl ?_ | refine r_aload_nN (pc := 0) hC dX5_addBadge_0 rfl ?_
  refine r_iconst (pc := 1) (nI 0) hC dX5_addBadge_1 (by decide) ?_
  refine r_pf (pc := 2) (κ := 6) (j := 0) hC cls6 (by decide) kf_X5_54 hM.k6 rfl rfl rfl dX5_addBadge_2 ?_
  have hM0 := hM.th (v := 0)
  refine r_iload_n (pc := 5) hC dX5_addBadge_5 rfl ?_
  refine ri_if_lt (pc := 6) (tgt := 16) hC dX5_addBadge_6 (by decide) (fun c6 => ?_) (fun c6 => ?_)
  · -- taken
    first | refine r_aload_n (pc := 16) hC dX5_addBadge_16 rfl ?_ | refine r_aload_nN (pc := 16) hC dX5_addBadge_16 rfl ?_
    refine r_iconst (pc := 17) (nI 1) hC dX5_addBadge_17 (by decide) ?_
    refine r_callV (pc := 18) hC (cm_fail hC.fl hM0 hV (k := 1)) kv_X5_67 cls6 (show isK S 6 m from hM.k6) rfl rfl (Nat.le_of_ble_eq_true rfl) ⟨by decide, by decide, by decide, by decide⟩ dX5_addBadge_18 (fun _ _ h => h.elim) (fun v18 S18 h18 => ?_)
    obtain ⟨rfl, hM9, hF9⟩ := h18
    refine r_iret (pc := 21) hC hR dX5_addBadge_21 ?_ (by decide) (by decide)
    exact RQ.no (k := 1) (kd_f (decide_eq_false (by omega))) (by decide) (rfl) (MO.of (fr_th hM) hF9 hM9)
  · -- not
    refine r_iload_n (pc := 9) hC dX5_addBadge_9 rfl ?_
    refine r_sipush (pc := 10) (nI 255) hC dX5_addBadge_10 (by decide) ?_
    first | refine rn_icmp_le (pc := 13) (tgt := 22) hC dX5_addBadge_13 (by decide) (by omega) (by omega) (fun c13 => ?_) (fun c13 => ?_) | refine ri_icmp_le (pc := 13) (tgt := 22) hC dX5_addBadge_13 (by decide) (fun c13 => ?_) (fun c13 => ?_)
    · -- taken
      have hw : wi 0 255 p = true := decide_eq_true (by omega)
      rw [show Value.int p = Value.int (nI (iN p)) by rw [nI_iN (by omega)]]
      first | refine r_aload_n (pc := 22) hC dX5_addBadge_22 rfl ?_ | refine r_aload_nN (pc := 22) hC dX5_addBadge_22 rfl ?_
      refine r_gf (pc := 23) (κ := 6) (j := 12) hC cls6 (by decide) kf_X5_60 hM0.k6 hM0.s12 dX5_addBadge_23 ?_
      refine r_bipush (pc := 26) (nI 10) hC dX5_addBadge_26 (by decide) ?_
      first | refine rn_icmp_ne (pc := 28) (tgt := 39) hC dX5_addBadge_28 (by decide) (by omega) (by omega) (fun c28 => ?_) (fun c28 => ?_) | refine ri_icmp_ne (pc := 28) (tgt := 39) hC dX5_addBadge_28 (by decide) (fun c28 => ?_) (fun c28 => ?_)
      · -- taken
        first | refine r_aload_n (pc := 39) hC dX5_addBadge_39 rfl ?_ | refine r_aload_nN (pc := 39) hC dX5_addBadge_39 rfl ?_
        refine r_iconst (pc := 40) (-1) hC dX5_addBadge_40 (by decide) ?_
        refine r_iload_n (pc := 41) hC dX5_addBadge_41 rfl ?_
        refine r_callV (pc := 42) hC (cm_add hC.fl hM0 hV (hh := 0) (rr := iN p) (by omega)) kv_X5_109 cls6 (show isK S 6 m from hM.k6) rfl rfl (Nat.le_of_ble_eq_true rfl) ⟨by decide, by decide, by decide, by decide⟩ dX5_addBadge_42 (fun _ _ h => h.elim) (fun v42 S42 h42 => ?_)
        obtain ⟨rfl, hF9, hM9⟩ := h42
        refine r_iret (pc := 45) hC hR dX5_addBadge_45 ?_ (by decide) (by decide)
        exact RQ.ok ((kd_t (hw)).trans ((kd_t (decide_eq_true (by omega))).trans (rfl))) (rfl) (MO.of (fr_th hM) hF9 hM9)
      · -- not
        first | refine r_aload_n (pc := 31) hC dX5_addBadge_31 rfl ?_ | refine r_aload_nN (pc := 31) hC dX5_addBadge_31 rfl ?_
        refine r_iconst (pc := 32) (nI 2) hC dX5_addBadge_32 (by decide) ?_
        refine r_callV (pc := 33) hC (cm_fail hC.fl hM0 hV (k := 2)) kv_X5_67 cls6 (show isK S 6 m from hM.k6) rfl rfl (Nat.le_of_ble_eq_true rfl) ⟨by decide, by decide, by decide, by decide⟩ dX5_addBadge_33 (fun _ _ h => h.elim) (fun v33 S33 h33 => ?_)
        obtain ⟨rfl, hM9, hF9⟩ := h33
        refine r_goto (pc := 36) (tgt := 45) hC dX5_addBadge_36 (by decide) ?_
        refine r_iret (pc := 45) hC hR dX5_addBadge_45 ?_ (by decide) (by decide)
        exact RQ.no (k := 2) ((kd_t (hw)).trans (kd_f (decide_eq_false (by omega)))) (by decide) (rfl) (MO.of (fr_th hM) hF9 hM9)
    · -- not
      first | refine r_aload_n (pc := 16) hC dX5_addBadge_16 rfl ?_ | refine r_aload_nN (pc := 16) hC dX5_addBadge_16 rfl ?_
      refine r_iconst (pc := 17) (nI 1) hC dX5_addBadge_17 (by decide) ?_
      refine r_callV (pc := 18) hC (cm_fail hC.fl hM0 hV (k := 1)) kv_X5_67 cls6 (show isK S 6 m from hM.k6) rfl rfl (Nat.le_of_ble_eq_true rfl) ⟨by decide, by decide, by decide, by decide⟩ dX5_addBadge_18 (fun _ _ h => h.elim) (fun v18 S18 h18 => ?_)
      obtain ⟨rfl, hM9, hF9⟩ := h18
      refine r_iret (pc := 21) hC hR dX5_addBadge_21 ?_ (by decide) (by decide)
      exact RQ.no (k := 1) (kd_f (decide_eq_false (by omega))) (by decide) (rfl) (MO.of (fr_th hM) hF9 hM9)
abbrev rm_X5_addVisitor : Room := { frames := 1, cells := 0, slots := 0, locals := 22 }
set_option maxHeartbeats 4000000 in
set_option maxRecDepth 100000 in
theorem cq_addVisitor {l : Launch} {G : Ids} {S : Ps} {M : Nat → Nat} {σ : Sg} {m t : Nat} {p : Int32} (hfl : l.stackTraces = false) (hM : RM S M σ m t) (hV : InvC σ) : Ct l (Cond.code yX5_addVisitor cX5_addVisitor 2 (some .int)) yX5_addVisitor rm_X5_addVisitor G [.ref m, .int p] S (fun v S9 => RQ S [(1, inB σ p), (2, decide (hst σ (iN p) = 0)), (3, decide (nb σ < 10))] (.int (nI (nb σ))) σ (adB σ (iN p + 1) 0) m v S9) (fun _ _ => False) := by
  refine Ct.of hfl (by decide) (Nat.le_of_ble_eq_true rfl) (fun Γ V hC hR hT hI => ?_)
  by_cases hh : hst σ (iN p) = 0
  · skip
    have hn := hV.n
    first | refine r_aload_n (pc := 0) hC dX5_addVisitor_0 rfl ?_ | refine r_aload_nN (pc := 0) hC dX5_addVisitor_0 rfl ?_
    refine r_iconst (pc := 1) (nI 0) hC dX5_addVisitor_1 (by decide) ?_
    refine r_pf (pc := 2) (κ := 6) (j := 0) hC cls6 (by decide) kf_X5_54 hM.k6 rfl rfl rfl dX5_addVisitor_2 ?_
    have hM0 := hM.th (v := 0)
    first | refine r_aload_n (pc := 5) hC dX5_addVisitor_5 rfl ?_ | refine r_aload_nN (pc := 5) hC dX5_addVisitor_5 rfl ?_
    refine r_iload_n (pc := 6) hC dX5_addVisitor_6 rfl ?_
    refine r_callV (pc := 7) hC (cm_isBadge hC.fl hM0 hV (p := p)) kv_X5_112 cls6 (show isK S 6 m from hM.k6) rfl rfl (Nat.le_of_ble_eq_true rfl) ⟨by decide, by decide, by decide, by decide⟩ dX5_addVisitor_7 (fun _ _ h => h.elim) (fun v7 S7 h7 => ?_)
    obtain ⟨rfl, rfl⟩ := h7
    first | refine rb_if_ne (pc := 10) (tgt := 19) hC dX5_addVisitor_10 (by decide) (fun c10 => ?_) (fun c10 => ?_) | refine rn_if_ne (pc := 10) (tgt := 19) hC dX5_addVisitor_10 (by decide) (by omega) (fun c10 => ?_) (fun c10 => ?_) | refine ri_if_ne (pc := 10) (tgt := 19) hC dX5_addVisitor_10 (by decide) (fun c10 => ?_) (fun c10 => ?_)
    · -- taken
      have hBp := inB_n c10
      have hh9 := (hV.vb hBp).2.2.1
      have hdp := inB_d c10
      rw [show Value.int p = Value.int (nI (iN p)) by rw [nI_iN (by omega)]]
      first | refine r_aload_n (pc := 19) hC dX5_addVisitor_19 rfl ?_ | refine r_aload_nN (pc := 19) hC dX5_addVisitor_19 rfl ?_
      refine r_gf (pc := 20) (κ := 6) (j := 15) hC cls6 (by decide) kf_X5_41 hM0.k6 (hM0.a (j := 15) (by decide)) dX5_addVisitor_20 ?_
      refine r_iload_n (pc := 23) hC dX5_addVisitor_23 rfl ?_
      refine r_iald (pc := 24) hC dX5_addVisitor_24 (hM0.kd (j := 15) (by decide)) (hM0.r15n (by assumption) hh).1 (hM0.r15n (by assumption) hh).2.1 (hM0.r15n (by assumption) hh).2.2 ?_
      refine r_iconst (pc := 25) (-1) hC dX5_addVisitor_25 (by decide) ?_
      refine r_m1_eqN (pc := 26) (tgt := 35) hC dX5_addVisitor_26 (by decide) ?_
      first | refine r_aload_n (pc := 35) hC dX5_addVisitor_35 rfl ?_ | refine r_aload_nN (pc := 35) hC dX5_addVisitor_35 rfl ?_
      refine r_gf (pc := 36) (κ := 6) (j := 12) hC cls6 (by decide) kf_X5_60 hM0.k6 hM0.s12 dX5_addVisitor_36 ?_
      refine r_bipush (pc := 39) (nI 10) hC dX5_addVisitor_39 (by decide) ?_
      first | refine rn_icmp_ne (pc := 41) (tgt := 52) hC dX5_addVisitor_41 (by decide) (by omega) (by omega) (fun c41 => ?_) (fun c41 => ?_) | refine ri_icmp_ne (pc := 41) (tgt := 52) hC dX5_addVisitor_41 (by decide) (fun c41 => ?_) (fun c41 => ?_)
      · -- taken
        rw [vI_s (k := iN p)]
        first | refine r_aload_n (pc := 52) hC dX5_addVisitor_52 rfl ?_ | refine r_aload_nN (pc := 52) hC dX5_addVisitor_52 rfl ?_
        refine r_iload_n (pc := 53) hC dX5_addVisitor_53 rfl ?_
        refine r_iconst (pc := 54) (nI 0) hC dX5_addVisitor_54 (by decide) ?_
        refine r_callV (pc := 55) hC (cm_add hC.fl hM0 hV (hh := iN p + 1) (rr := 0) (by omega)) kv_X5_109 cls6 (show isK S 6 m from hM.k6) rfl rfl (Nat.le_of_ble_eq_true rfl) ⟨by decide, by decide, by decide, by decide⟩ dX5_addVisitor_55 (fun _ _ h => h.elim) (fun v55 S55 h55 => ?_)
        obtain ⟨rfl, hF9, hM9⟩ := h55
        refine r_iret (pc := 58) hC hR dX5_addVisitor_58 ?_ (by decide) (by decide)
        exact RQ.ok ((kd_t (c10)).trans ((kd_t (decide_eq_true hh)).trans ((kd_t (decide_eq_true (by omega))).trans (rfl)))) (rfl) (MO.of (fr_th hM) hF9 hM9)
      · -- not
        first | refine r_aload_n (pc := 44) hC dX5_addVisitor_44 rfl ?_ | refine r_aload_nN (pc := 44) hC dX5_addVisitor_44 rfl ?_
        refine r_iconst (pc := 45) (nI 3) hC dX5_addVisitor_45 (by decide) ?_
        refine r_callV (pc := 46) hC (cm_fail hC.fl hM0 hV (k := 3)) kv_X5_67 cls6 (show isK S 6 m from hM.k6) rfl rfl (Nat.le_of_ble_eq_true rfl) ⟨by decide, by decide, by decide, by decide⟩ dX5_addVisitor_46 (fun _ _ h => h.elim) (fun v46 S46 h46 => ?_)
        obtain ⟨rfl, hM9, hF9⟩ := h46
        refine r_goto (pc := 49) (tgt := 58) hC dX5_addVisitor_49 (by decide) ?_
        refine r_iret (pc := 58) hC hR dX5_addVisitor_58 ?_ (by decide) (by decide)
        exact RQ.no (k := 3) ((kd_t (c10)).trans ((kd_t (decide_eq_true hh)).trans (kd_f (decide_eq_false (by omega))))) (by decide) (rfl) (MO.of (fr_th hM) hF9 hM9)
    · -- not
      first | refine r_aload_n (pc := 13) hC dX5_addVisitor_13 rfl ?_ | refine r_aload_nN (pc := 13) hC dX5_addVisitor_13 rfl ?_
      refine r_iconst (pc := 14) (nI 1) hC dX5_addVisitor_14 (by decide) ?_
      refine r_callV (pc := 15) hC (cm_fail hC.fl hM0 hV (k := 1)) kv_X5_67 cls6 (show isK S 6 m from hM.k6) rfl rfl (Nat.le_of_ble_eq_true rfl) ⟨by decide, by decide, by decide, by decide⟩ dX5_addVisitor_15 (fun _ _ h => h.elim) (fun v15 S15 h15 => ?_)
      obtain ⟨rfl, hM9, hF9⟩ := h15
      refine r_iret (pc := 18) hC hR dX5_addVisitor_18 ?_ (by decide) (by decide)
      exact RQ.no (k := 1) (kd_f (c10)) (by decide) (rfl) (MO.of (fr_th hM) hF9 hM9)
  · skip
    have hn := hV.n
    first | refine r_aload_n (pc := 0) hC dX5_addVisitor_0 rfl ?_ | refine r_aload_nN (pc := 0) hC dX5_addVisitor_0 rfl ?_
    refine r_iconst (pc := 1) (nI 0) hC dX5_addVisitor_1 (by decide) ?_
    refine r_pf (pc := 2) (κ := 6) (j := 0) hC cls6 (by decide) kf_X5_54 hM.k6 rfl rfl rfl dX5_addVisitor_2 ?_
    have hM0 := hM.th (v := 0)
    first | refine r_aload_n (pc := 5) hC dX5_addVisitor_5 rfl ?_ | refine r_aload_nN (pc := 5) hC dX5_addVisitor_5 rfl ?_
    refine r_iload_n (pc := 6) hC dX5_addVisitor_6 rfl ?_
    refine r_callV (pc := 7) hC (cm_isBadge hC.fl hM0 hV (p := p)) kv_X5_112 cls6 (show isK S 6 m from hM.k6) rfl rfl (Nat.le_of_ble_eq_true rfl) ⟨by decide, by decide, by decide, by decide⟩ dX5_addVisitor_7 (fun _ _ h => h.elim) (fun v7 S7 h7 => ?_)
    obtain ⟨rfl, rfl⟩ := h7
    first | refine rb_if_ne (pc := 10) (tgt := 19) hC dX5_addVisitor_10 (by decide) (fun c10 => ?_) (fun c10 => ?_) | refine rn_if_ne (pc := 10) (tgt := 19) hC dX5_addVisitor_10 (by decide) (by omega) (fun c10 => ?_) (fun c10 => ?_) | refine ri_if_ne (pc := 10) (tgt := 19) hC dX5_addVisitor_10 (by decide) (fun c10 => ?_) (fun c10 => ?_)
    · -- taken
      have hBp := inB_n c10
      have hh9 := (hV.vb hBp).2.2.1
      have hdp := inB_d c10
      rw [show Value.int p = Value.int (nI (iN p)) by rw [nI_iN (by omega)]]
      first | refine r_aload_n (pc := 19) hC dX5_addVisitor_19 rfl ?_ | refine r_aload_nN (pc := 19) hC dX5_addVisitor_19 rfl ?_
      refine r_gf (pc := 20) (κ := 6) (j := 15) hC cls6 (by decide) kf_X5_41 hM0.k6 (hM0.a (j := 15) (by decide)) dX5_addVisitor_20 ?_
      refine r_iload_n (pc := 23) hC dX5_addVisitor_23 rfl ?_
      refine r_iald (pc := 24) hC dX5_addVisitor_24 (hM0.kd (j := 15) (by decide)) (hM0.r15s (by assumption) hh).1 (hM0.r15s (by assumption) hh).2.1 (hM0.r15s (by assumption) hh).2.2 ?_
      refine r_iconst (pc := 25) (-1) hC dX5_addVisitor_25 (by decide) ?_
      refine r_m1_eqS (pc := 26) (tgt := 35) hC dX5_addVisitor_26 (by decide) (by omega) ?_
      first | refine r_aload_n (pc := 29) hC dX5_addVisitor_29 rfl ?_ | refine r_aload_nN (pc := 29) hC dX5_addVisitor_29 rfl ?_
      refine r_iconst (pc := 30) (nI 2) hC dX5_addVisitor_30 (by decide) ?_
      refine r_callV (pc := 31) hC (cm_fail hC.fl hM0 hV (k := 2)) kv_X5_67 cls6 (show isK S 6 m from hM.k6) rfl rfl (Nat.le_of_ble_eq_true rfl) ⟨by decide, by decide, by decide, by decide⟩ dX5_addVisitor_31 (fun _ _ h => h.elim) (fun v31 S31 h31 => ?_)
      obtain ⟨rfl, hM9, hF9⟩ := h31
      refine r_iret (pc := 34) hC hR dX5_addVisitor_34 ?_ (by decide) (by decide)
      exact RQ.no (k := 2) ((kd_t (c10)).trans (kd_f (decide_eq_false hh))) (by decide) (rfl) (MO.of (fr_th hM) hF9 hM9)
    · -- not
      first | refine r_aload_n (pc := 13) hC dX5_addVisitor_13 rfl ?_ | refine r_aload_nN (pc := 13) hC dX5_addVisitor_13 rfl ?_
      refine r_iconst (pc := 14) (nI 1) hC dX5_addVisitor_14 (by decide) ?_
      refine r_callV (pc := 15) hC (cm_fail hC.fl hM0 hV (k := 1)) kv_X5_67 cls6 (show isK S 6 m from hM.k6) rfl rfl (Nat.le_of_ble_eq_true rfl) ⟨by decide, by decide, by decide, by decide⟩ dX5_addVisitor_15 (fun _ _ h => h.elim) (fun v15 S15 h15 => ?_)
      obtain ⟨rfl, hM9, hF9⟩ := h15
      refine r_iret (pc := 18) hC hR dX5_addVisitor_18 ?_ (by decide) (by decide)
      exact RQ.no (k := 1) (kd_f (c10)) (by decide) (rfl) (MO.of (fr_th hM) hF9 hM9)
abbrev rm_X5_setRights : Room := { frames := 1, cells := 0, slots := 0, locals := 21 }
set_option maxHeartbeats 4000000 in
set_option maxRecDepth 100000 in
theorem cq_setRights {l : Launch} {G : Ids} {S : Ps} {M : Nat → Nat} {σ : Sg} {m t : Nat} {p q : Int32} (hfl : l.stackTraces = false) (hM : RM S M σ m t) (hV : InvC σ) : Ct l (Cond.code yX5_setRights cX5_setRights 4 (some .int)) yX5_setRights rm_X5_setRights G [.ref m, .int p, .int q] S (fun v S9 => RQ S [(1, inB σ p), (2, wi 0 255 q), (3, decide (hst σ (iN p) = 0))] (.int (nI (rgt σ (iN p)))) σ (up σ 11 (iN p) (iN q)) m v S9) (fun _ _ => False) := by
  refine Ct.of hfl (by decide) (Nat.le_of_ble_eq_true rfl) (fun Γ V hC hR hT hI => ?_)
  by_cases hh : hst σ (iN p) = 0
  · skip
    have hn := hV.n
    have q255 : (nI 255).toInt = 255 := rfl
    first | refine r_aload_n (pc := 0) hC dX5_setRights_0 rfl ?_ | refine r_aload_nN (pc := 0) hC dX5_setRights_0 rfl ?_
    refine r_iconst (pc := 1) (nI 0) hC dX5_setRights_1 (by decide) ?_
    refine r_pf (pc := 2) (κ := 6) (j := 0) hC cls6 (by decide) kf_X5_54 hM.k6 rfl rfl rfl dX5_setRights_2 ?_
    have hM0 := hM.th (v := 0)
    first | refine r_aload_n (pc := 5) hC dX5_setRights_5 rfl ?_ | refine r_aload_nN (pc := 5) hC dX5_setRights_5 rfl ?_
    refine r_iload_n (pc := 6) hC dX5_setRights_6 rfl ?_
    refine r_callV (pc := 7) hC (cm_isBadge hC.fl hM0 hV (p := p)) kv_X5_112 cls6 (show isK S 6 m from hM.k6) rfl rfl (Nat.le_of_ble_eq_true rfl) ⟨by decide, by decide, by decide, by decide⟩ dX5_setRights_7 (fun _ _ h => h.elim) (fun v7 S7 h7 => ?_)
    obtain ⟨rfl, rfl⟩ := h7
    first | refine rb_if_ne (pc := 10) (tgt := 19) hC dX5_setRights_10 (by decide) (fun c10 => ?_) (fun c10 => ?_) | refine rn_if_ne (pc := 10) (tgt := 19) hC dX5_setRights_10 (by decide) (by omega) (fun c10 => ?_) (fun c10 => ?_) | refine ri_if_ne (pc := 10) (tgt := 19) hC dX5_setRights_10 (by decide) (fun c10 => ?_) (fun c10 => ?_)
    · -- taken
      have hBp := inB_n c10
      have hh9 := (hV.vb hBp).2.2.1
      have hdp := inB_d c10
      rw [show Value.int p = Value.int (nI (iN p)) by rw [nI_iN (by omega)]]
      refine r_iload_n (pc := 19) hC dX5_setRights_19 rfl ?_
      refine ri_if_lt (pc := 20) (tgt := 30) hC dX5_setRights_20 (by decide) (fun c20 => ?_) (fun c20 => ?_)
      · -- taken
        first | refine r_aload_n (pc := 30) hC dX5_setRights_30 rfl ?_ | refine r_aload_nN (pc := 30) hC dX5_setRights_30 rfl ?_
        refine r_iconst (pc := 31) (nI 2) hC dX5_setRights_31 (by decide) ?_
        refine r_callV (pc := 32) hC (cm_fail hC.fl hM0 hV (k := 2)) kv_X5_67 cls6 (show isK S 6 m from hM.k6) rfl rfl (Nat.le_of_ble_eq_true rfl) ⟨by decide, by decide, by decide, by decide⟩ dX5_setRights_32 (fun _ _ h => h.elim) (fun v32 S32 h32 => ?_)
        obtain ⟨rfl, hM9, hF9⟩ := h32
        refine r_iret (pc := 35) hC hR dX5_setRights_35 ?_ (by decide) (by decide)
        exact RQ.no (k := 2) ((kd_t (c10)).trans (kd_f (decide_eq_false (by omega)))) (by decide) (rfl) (MO.of (fr_th hM) hF9 hM9)
      · -- not
        refine r_iload_n (pc := 23) hC dX5_setRights_23 rfl ?_
        refine r_sipush (pc := 24) (nI 255) hC dX5_setRights_24 (by decide) ?_
        first | refine rn_icmp_le (pc := 27) (tgt := 36) hC dX5_setRights_27 (by decide) (by omega) (by omega) (fun c27 => ?_) (fun c27 => ?_) | refine ri_icmp_le (pc := 27) (tgt := 36) hC dX5_setRights_27 (by decide) (fun c27 => ?_) (fun c27 => ?_)
        · -- taken
          have hw : wi 0 255 q = true := decide_eq_true (by omega)
          rw [show Value.int q = Value.int (nI (iN q)) by rw [nI_iN (by omega)]]
          have l14 : iN p < pN S (M 14) := hM.len (by decide) (by decide) (show mNn 14 = 10 from rfl) (by omega)
          first | refine r_aload_n (pc := 36) hC dX5_setRights_36 rfl ?_ | refine r_aload_nN (pc := 36) hC dX5_setRights_36 rfl ?_
          refine r_gf (pc := 37) (κ := 6) (j := 15) hC cls6 (by decide) kf_X5_41 hM0.k6 (hM0.a (j := 15) (by decide)) dX5_setRights_37 ?_
          refine r_iload_n (pc := 40) hC dX5_setRights_40 rfl ?_
          refine r_iald (pc := 41) hC dX5_setRights_41 (hM0.kd (j := 15) (by decide)) (hM0.r15n (by assumption) hh).1 (hM0.r15n (by assumption) hh).2.1 (hM0.r15n (by assumption) hh).2.2 ?_
          refine r_iconst (pc := 42) (-1) hC dX5_setRights_42 (by decide) ?_
          refine r_m1_eqN (pc := 43) (tgt := 52) hC dX5_setRights_43 (by decide) ?_
          first | refine r_aload_n (pc := 52) hC dX5_setRights_52 rfl ?_ | refine r_aload_nN (pc := 52) hC dX5_setRights_52 rfl ?_
          refine r_gf (pc := 53) (κ := 6) (j := 14) hC cls6 (by decide) kf_X5_38 hM0.k6 (hM0.a (j := 14) (by decide)) dX5_setRights_53 ?_
          refine r_iload_n (pc := 56) hC dX5_setRights_56 rfl ?_
          refine r_iald (pc := 57) hC dX5_setRights_57 (hM0.kd (j := 14) (by decide)) (hM0.r14 (by assumption)).1 (hM0.r14 (by assumption)).2.1 (hM0.r14 (by assumption)).2.2 ?_
          refine r_istore_n (pc := 58) hC dX5_setRights_58 (by decide) ?_
          first | refine r_aload_n (pc := 59) hC dX5_setRights_59 rfl ?_ | refine r_aload_nN (pc := 59) hC dX5_setRights_59 rfl ?_
          refine r_gf (pc := 60) (κ := 6) (j := 14) hC cls6 (by decide) kf_X5_38 hM0.k6 (hM0.a (j := 14) (by decide)) dX5_setRights_60 ?_
          refine r_iload_n (pc := 63) hC dX5_setRights_63 rfl ?_
          refine r_iload_n (pc := 64) hC dX5_setRights_64 rfl ?_
          refine r_iast (pc := 65) hC dX5_setRights_65 (hM0.kd (j := 14) (by decide)) l14 (hM0.l (j := 14) (by decide)) ?_
          refine r_iload_n (pc := 66) hC dX5_setRights_66 rfl ?_
          refine r_iret (pc := 67) hC hR dX5_setRights_67 ?_ (by decide) (by decide)
          exact RQ.ok ((kd_t (c10)).trans ((kd_t (hw)).trans ((kd_t (decide_eq_true hh)).trans (rfl)))) (rfl) (⟨(fr_sI (fr_th hM) (mPa hM (j := 14) (by decide))), M, hM0.u (f := 11) (jf := 14) (by decide) l14⟩)
        · -- not
          first | refine r_aload_n (pc := 30) hC dX5_setRights_30 rfl ?_ | refine r_aload_nN (pc := 30) hC dX5_setRights_30 rfl ?_
          refine r_iconst (pc := 31) (nI 2) hC dX5_setRights_31 (by decide) ?_
          refine r_callV (pc := 32) hC (cm_fail hC.fl hM0 hV (k := 2)) kv_X5_67 cls6 (show isK S 6 m from hM.k6) rfl rfl (Nat.le_of_ble_eq_true rfl) ⟨by decide, by decide, by decide, by decide⟩ dX5_setRights_32 (fun _ _ h => h.elim) (fun v32 S32 h32 => ?_)
          obtain ⟨rfl, hM9, hF9⟩ := h32
          refine r_iret (pc := 35) hC hR dX5_setRights_35 ?_ (by decide) (by decide)
          exact RQ.no (k := 2) ((kd_t (c10)).trans (kd_f (decide_eq_false (by omega)))) (by decide) (rfl) (MO.of (fr_th hM) hF9 hM9)
    · -- not
      first | refine r_aload_n (pc := 13) hC dX5_setRights_13 rfl ?_ | refine r_aload_nN (pc := 13) hC dX5_setRights_13 rfl ?_
      refine r_iconst (pc := 14) (nI 1) hC dX5_setRights_14 (by decide) ?_
      refine r_callV (pc := 15) hC (cm_fail hC.fl hM0 hV (k := 1)) kv_X5_67 cls6 (show isK S 6 m from hM.k6) rfl rfl (Nat.le_of_ble_eq_true rfl) ⟨by decide, by decide, by decide, by decide⟩ dX5_setRights_15 (fun _ _ h => h.elim) (fun v15 S15 h15 => ?_)
      obtain ⟨rfl, hM9, hF9⟩ := h15
      refine r_iret (pc := 18) hC hR dX5_setRights_18 ?_ (by decide) (by decide)
      exact RQ.no (k := 1) (kd_f (c10)) (by decide) (rfl) (MO.of (fr_th hM) hF9 hM9)
  · skip
    have hn := hV.n
    have q255 : (nI 255).toInt = 255 := rfl
    first | refine r_aload_n (pc := 0) hC dX5_setRights_0 rfl ?_ | refine r_aload_nN (pc := 0) hC dX5_setRights_0 rfl ?_
    refine r_iconst (pc := 1) (nI 0) hC dX5_setRights_1 (by decide) ?_
    refine r_pf (pc := 2) (κ := 6) (j := 0) hC cls6 (by decide) kf_X5_54 hM.k6 rfl rfl rfl dX5_setRights_2 ?_
    have hM0 := hM.th (v := 0)
    first | refine r_aload_n (pc := 5) hC dX5_setRights_5 rfl ?_ | refine r_aload_nN (pc := 5) hC dX5_setRights_5 rfl ?_
    refine r_iload_n (pc := 6) hC dX5_setRights_6 rfl ?_
    refine r_callV (pc := 7) hC (cm_isBadge hC.fl hM0 hV (p := p)) kv_X5_112 cls6 (show isK S 6 m from hM.k6) rfl rfl (Nat.le_of_ble_eq_true rfl) ⟨by decide, by decide, by decide, by decide⟩ dX5_setRights_7 (fun _ _ h => h.elim) (fun v7 S7 h7 => ?_)
    obtain ⟨rfl, rfl⟩ := h7
    first | refine rb_if_ne (pc := 10) (tgt := 19) hC dX5_setRights_10 (by decide) (fun c10 => ?_) (fun c10 => ?_) | refine rn_if_ne (pc := 10) (tgt := 19) hC dX5_setRights_10 (by decide) (by omega) (fun c10 => ?_) (fun c10 => ?_) | refine ri_if_ne (pc := 10) (tgt := 19) hC dX5_setRights_10 (by decide) (fun c10 => ?_) (fun c10 => ?_)
    · -- taken
      have hBp := inB_n c10
      have hh9 := (hV.vb hBp).2.2.1
      have hdp := inB_d c10
      rw [show Value.int p = Value.int (nI (iN p)) by rw [nI_iN (by omega)]]
      refine r_iload_n (pc := 19) hC dX5_setRights_19 rfl ?_
      refine ri_if_lt (pc := 20) (tgt := 30) hC dX5_setRights_20 (by decide) (fun c20 => ?_) (fun c20 => ?_)
      · -- taken
        first | refine r_aload_n (pc := 30) hC dX5_setRights_30 rfl ?_ | refine r_aload_nN (pc := 30) hC dX5_setRights_30 rfl ?_
        refine r_iconst (pc := 31) (nI 2) hC dX5_setRights_31 (by decide) ?_
        refine r_callV (pc := 32) hC (cm_fail hC.fl hM0 hV (k := 2)) kv_X5_67 cls6 (show isK S 6 m from hM.k6) rfl rfl (Nat.le_of_ble_eq_true rfl) ⟨by decide, by decide, by decide, by decide⟩ dX5_setRights_32 (fun _ _ h => h.elim) (fun v32 S32 h32 => ?_)
        obtain ⟨rfl, hM9, hF9⟩ := h32
        refine r_iret (pc := 35) hC hR dX5_setRights_35 ?_ (by decide) (by decide)
        exact RQ.no (k := 2) ((kd_t (c10)).trans (kd_f (decide_eq_false (by omega)))) (by decide) (rfl) (MO.of (fr_th hM) hF9 hM9)
      · -- not
        refine r_iload_n (pc := 23) hC dX5_setRights_23 rfl ?_
        refine r_sipush (pc := 24) (nI 255) hC dX5_setRights_24 (by decide) ?_
        first | refine rn_icmp_le (pc := 27) (tgt := 36) hC dX5_setRights_27 (by decide) (by omega) (by omega) (fun c27 => ?_) (fun c27 => ?_) | refine ri_icmp_le (pc := 27) (tgt := 36) hC dX5_setRights_27 (by decide) (fun c27 => ?_) (fun c27 => ?_)
        · -- taken
          have hw : wi 0 255 q = true := decide_eq_true (by omega)
          rw [show Value.int q = Value.int (nI (iN q)) by rw [nI_iN (by omega)]]
          have l14 : iN p < pN S (M 14) := hM.len (by decide) (by decide) (show mNn 14 = 10 from rfl) (by omega)
          first | refine r_aload_n (pc := 36) hC dX5_setRights_36 rfl ?_ | refine r_aload_nN (pc := 36) hC dX5_setRights_36 rfl ?_
          refine r_gf (pc := 37) (κ := 6) (j := 15) hC cls6 (by decide) kf_X5_41 hM0.k6 (hM0.a (j := 15) (by decide)) dX5_setRights_37 ?_
          refine r_iload_n (pc := 40) hC dX5_setRights_40 rfl ?_
          refine r_iald (pc := 41) hC dX5_setRights_41 (hM0.kd (j := 15) (by decide)) (hM0.r15s (by assumption) hh).1 (hM0.r15s (by assumption) hh).2.1 (hM0.r15s (by assumption) hh).2.2 ?_
          refine r_iconst (pc := 42) (-1) hC dX5_setRights_42 (by decide) ?_
          refine r_m1_eqS (pc := 43) (tgt := 52) hC dX5_setRights_43 (by decide) (by omega) ?_
          first | refine r_aload_n (pc := 46) hC dX5_setRights_46 rfl ?_ | refine r_aload_nN (pc := 46) hC dX5_setRights_46 rfl ?_
          refine r_iconst (pc := 47) (nI 3) hC dX5_setRights_47 (by decide) ?_
          refine r_callV (pc := 48) hC (cm_fail hC.fl hM0 hV (k := 3)) kv_X5_67 cls6 (show isK S 6 m from hM.k6) rfl rfl (Nat.le_of_ble_eq_true rfl) ⟨by decide, by decide, by decide, by decide⟩ dX5_setRights_48 (fun _ _ h => h.elim) (fun v48 S48 h48 => ?_)
          obtain ⟨rfl, hM9, hF9⟩ := h48
          refine r_iret (pc := 51) hC hR dX5_setRights_51 ?_ (by decide) (by decide)
          exact RQ.no (k := 3) ((kd_t (c10)).trans ((kd_t (hw)).trans (kd_f (decide_eq_false hh)))) (by decide) (rfl) (MO.of (fr_th hM) hF9 hM9)
        · -- not
          first | refine r_aload_n (pc := 30) hC dX5_setRights_30 rfl ?_ | refine r_aload_nN (pc := 30) hC dX5_setRights_30 rfl ?_
          refine r_iconst (pc := 31) (nI 2) hC dX5_setRights_31 (by decide) ?_
          refine r_callV (pc := 32) hC (cm_fail hC.fl hM0 hV (k := 2)) kv_X5_67 cls6 (show isK S 6 m from hM.k6) rfl rfl (Nat.le_of_ble_eq_true rfl) ⟨by decide, by decide, by decide, by decide⟩ dX5_setRights_32 (fun _ _ h => h.elim) (fun v32 S32 h32 => ?_)
          obtain ⟨rfl, hM9, hF9⟩ := h32
          refine r_iret (pc := 35) hC hR dX5_setRights_35 ?_ (by decide) (by decide)
          exact RQ.no (k := 2) ((kd_t (c10)).trans (kd_f (decide_eq_false (by omega)))) (by decide) (rfl) (MO.of (fr_th hM) hF9 hM9)
    · -- not
      first | refine r_aload_n (pc := 13) hC dX5_setRights_13 rfl ?_ | refine r_aload_nN (pc := 13) hC dX5_setRights_13 rfl ?_
      refine r_iconst (pc := 14) (nI 1) hC dX5_setRights_14 (by decide) ?_
      refine r_callV (pc := 15) hC (cm_fail hC.fl hM0 hV (k := 1)) kv_X5_67 cls6 (show isK S 6 m from hM.k6) rfl rfl (Nat.le_of_ble_eq_true rfl) ⟨by decide, by decide, by decide, by decide⟩ dX5_setRights_15 (fun _ _ h => h.elim) (fun v15 S15 h15 => ?_)
      obtain ⟨rfl, hM9, hF9⟩ := h15
      refine r_iret (pc := 18) hC hR dX5_setRights_18 ?_ (by decide) (by decide)
      exact RQ.no (k := 1) (kd_f (c10)) (by decide) (rfl) (MO.of (fr_th hM) hF9 hM9)
abbrev rm_X5_block : Room := { frames := 1, cells := 0, slots := 0, locals := 21 }
set_option maxHeartbeats 4000000 in
set_option maxRecDepth 100000 in
theorem cq_block {l : Launch} {G : Ids} {S : Ps} {M : Nat → Nat} {σ : Sg} {m t : Nat} {p : Int32} {q : Bool} (hfl : l.stackTraces = false) (hM : RM S M σ m t) (hV : InvC σ) : Ct l (Cond.code yX5_block cX5_block 4 (some .boolean)) yX5_block rm_X5_block G [.ref m, .int p, .int (b2i q)] S (fun v S9 => RQ S [(1, inB σ p)] (.int (b2i (decide (blk σ (iN p) = 1)))) σ (blS σ (iN p) (bN q)) m v S9) (fun _ _ => False) := by
  refine Ct.of hfl (by decide) (Nat.le_of_ble_eq_true rfl) (fun Γ V hC hR hT hI => ?_)
  have hn := hV.n
  first | refine r_aload_n (pc := 0) hC dX5_block_0 rfl ?_ | refine r_aload_nN (pc := 0) hC dX5_block_0 rfl ?_
  first | refine r_aload_n (pc := 1) hC dX5_block_1 rfl ?_ | refine r_aload_nN (pc := 1) hC dX5_block_1 rfl ?_
  refine r_iload_n (pc := 2) hC dX5_block_2 rfl ?_
  refine r_callV (pc := 3) hC (cm_isBadge hC.fl hM hV (p := p)) kv_X5_112 cls6 (show isK S 6 m from hM.k6) rfl rfl (Nat.le_of_ble_eq_true rfl) ⟨by decide, by decide, by decide, by decide⟩ dX5_block_3 (fun _ _ h => h.elim) (fun v3 S3 h3 => ?_)
  obtain ⟨rfl, rfl⟩ := h3
  first | refine rb_if_eq (pc := 6) (tgt := 13) hC dX5_block_6 (by decide) (fun c6 => ?_) (fun c6 => ?_) | refine rn_if_eq (pc := 6) (tgt := 13) hC dX5_block_6 (by decide) (by omega) (fun c6 => ?_) (fun c6 => ?_) | refine ri_if_eq (pc := 6) (tgt := 13) hC dX5_block_6 (by decide) (fun c6 => ?_) (fun c6 => ?_)
  · -- taken
    have hM0 := hM.th (v := 1)
    refine r_iconst (pc := 13) (nI 1) hC dX5_block_13 (by decide) ?_
    refine r_pf (pc := 14) (κ := 6) (j := 0) hC cls6 (by decide) kf_X5_54 hM0.k6 rfl rfl rfl dX5_block_14 ?_
    first | refine r_aload_n (pc := 17) hC dX5_block_17 rfl ?_ | refine r_aload_nN (pc := 17) hC dX5_block_17 rfl ?_
    refine r_gf (pc := 18) (κ := 6) (j := 0) hC cls6 (by decide) kf_X5_54 hM0.k6 hM0.s0 dX5_block_18 ?_
    refine rn_if_eq (pc := 21) (tgt := 26) hC dX5_block_21 (by decide) (by omega) (fun c => absurd c (by omega)) (fun _ => ?_)
    refine r_iconst (pc := 24) (nI 0) hC dX5_block_24 (by decide) ?_
    refine r_zret (pc := 25) hC hR dX5_block_25 (by first | rfl | exact b2i_z _ | decide) ?_ (by decide) (by decide)
    exact RQ.no (k := 1) (kd_f (c6)) (by decide) (rfl) (⟨fr_th hM, M, hM0⟩)
  · -- not
    have hM0 := hM.th (v := 0)
    have hBp := inB_n c6
    have hdp := inB_d c6
    rw [show Value.int p = Value.int (nI (iN p)) by rw [nI_iN (by omega)]]
    have l16 : iN p < pN S (M 16) := hM.len (by decide) (by decide) (show mNn 16 = 10 from rfl) (by omega)
    have l17 : iN p < pN S (M 17) := hM.len (by decide) (by decide) (show mNn 17 = 10 from rfl) (by omega)
    refine r_iconst (pc := 9) (nI 0) hC dX5_block_9 (by decide) ?_
    refine r_goto (pc := 10) (tgt := 14) hC dX5_block_10 (by decide) ?_
    refine r_pf (pc := 14) (κ := 6) (j := 0) hC cls6 (by decide) kf_X5_54 hM0.k6 rfl rfl rfl dX5_block_14 ?_
    first | refine r_aload_n (pc := 17) hC dX5_block_17 rfl ?_ | refine r_aload_nN (pc := 17) hC dX5_block_17 rfl ?_
    refine r_gf (pc := 18) (κ := 6) (j := 0) hC cls6 (by decide) kf_X5_54 hM0.k6 hM0.s0 dX5_block_18 ?_
    refine rn_if_eq (pc := 21) (tgt := 26) hC dX5_block_21 (by decide) (by omega) (fun _ => ?_) (fun c => absurd rfl c)
    first | refine r_aload_n (pc := 26) hC dX5_block_26 rfl ?_ | refine r_aload_nN (pc := 26) hC dX5_block_26 rfl ?_
    refine r_gf (pc := 27) (κ := 6) (j := 16) hC cls6 (by decide) kf_X5_44 hM0.k6 (hM0.a (j := 16) (by decide)) dX5_block_27 ?_
    refine r_iload_n (pc := 30) hC dX5_block_30 rfl ?_
    refine r_zald (pc := 31) hC dX5_block_31 (hM0.kd (j := 16) (by decide)) l16 (hM0.l (j := 16) (by decide)) ((hM0.r16 hBp).2.2.trans (nI_b3 (hV.vb hBp).2.2.2.2.1)) ?_
    refine r_istore_n (pc := 32) hC dX5_block_32 (by decide) ?_
    first | refine r_aload_n (pc := 33) hC dX5_block_33 rfl ?_ | refine r_aload_nN (pc := 33) hC dX5_block_33 rfl ?_
    refine r_gf (pc := 34) (κ := 6) (j := 16) hC cls6 (by decide) kf_X5_44 hM0.k6 (hM0.a (j := 16) (by decide)) dX5_block_34 ?_
    refine r_iload_n (pc := 37) hC dX5_block_37 rfl ?_
    refine r_iload_n (pc := 38) hC dX5_block_38 rfl ?_
    refine r_zast (pc := 39) hC dX5_block_39 (hM0.kd (j := 16) (by decide)) l16 (hM0.l (j := 16) (by decide)) (b2i_nar q) ?_
    first | refine r_aload_n (pc := 40) hC dX5_block_40 rfl ?_ | refine r_aload_nN (pc := 40) hC dX5_block_40 rfl ?_
    refine r_gf (pc := 41) (κ := 6) (j := 17) hC cls6 (by decide) kf_X5_48 hM0.k6 (hM0.a (j := 17) (by decide)) dX5_block_41 ?_
    refine r_iload_n (pc := 44) hC dX5_block_44 rfl ?_
    refine r_iconst (pc := 45) (nI 0) hC dX5_block_45 (by decide) ?_
    refine r_iast (pc := 46) hC dX5_block_46 (hM0.kd (j := 17) (by decide)) l17 (hM0.l (j := 17) (by decide)) ?_
    refine r_iload_n (pc := 47) hC dX5_block_47 rfl ?_
    refine r_zret (pc := 48) hC hR dX5_block_48 (by first | rfl | exact b2i_z _ | decide) ?_ (by decide) (by decide)
    exact RQ.ok ((kd_t (c6)).trans (rfl)) (rfl) (⟨(fr_sI (fr_sI (fr_th hM) (mPa hM (j := 16) (by decide))) (mPa hM (j := 17) (by decide))), M, by have h9 := (hM0.u (f := 13) (jf := 16) (i := iN p) (w := bN q) (by decide) l16).u (f := 14) (jf := 17) (i := iN p) (w := 0) (by decide) l17; rw [nI_bN] at h9; exact h9⟩)
abbrev rm_X5_badge : Room := { frames := 2, cells := 0, slots := 0, locals := 43 }
set_option maxHeartbeats 4000000 in
set_option maxRecDepth 100000 in
theorem cq_badge {l : Launch} {G : Ids} {S : Ps} {M : Nat → Nat} {σ : Sg} {m t : Nat} {p q : Int32} (hfl : l.stackTraces = false) (hM : RM S M σ m t) (hV : InvC σ) : Ct l (Cond.code yX5_badge cX5_badge 3 (some .int)) yX5_badge rm_X5_badge G [.ref m, .int p, .int q] S (fun v S9 => RQ S [(1, inB σ p), (1, wi 0 4 q)] (.int (tel σ (iN p) (iN q))) σ (σ) m v S9) (fun _ _ => False) := by
  refine Ct.of hfl (by decide) (Nat.le_of_ble_eq_true rfl) (fun Γ V hC hR hT hI => ?_)
  have hn := hV.n
  have q4 : (nI 4).toInt = 4 := rfl
  first | refine r_aload_n (pc := 0) hC dX5_badge_0 rfl ?_ | refine r_aload_nN (pc := 0) hC dX5_badge_0 rfl ?_
  refine r_iconst (pc := 1) (nI 0) hC dX5_badge_1 (by decide) ?_
  refine r_pf (pc := 2) (κ := 6) (j := 0) hC cls6 (by decide) kf_X5_54 hM.k6 rfl rfl rfl dX5_badge_2 ?_
  have hM0 := hM.th (v := 0)
  first | refine r_aload_n (pc := 5) hC dX5_badge_5 rfl ?_ | refine r_aload_nN (pc := 5) hC dX5_badge_5 rfl ?_
  refine r_iload_n (pc := 6) hC dX5_badge_6 rfl ?_
  refine r_callV (pc := 7) hC (cm_isBadge hC.fl hM0 hV (p := p)) kv_X5_112 cls6 (show isK S 6 m from hM.k6) rfl rfl (Nat.le_of_ble_eq_true rfl) ⟨by decide, by decide, by decide, by decide⟩ dX5_badge_7 (fun _ _ h => h.elim) (fun v7 S7 h7 => ?_)
  obtain ⟨rfl, rfl⟩ := h7
  first | refine rb_if_eq (pc := 10) (tgt := 31) hC dX5_badge_10 (by decide) (fun c10 => ?_) (fun c10 => ?_) | refine rn_if_eq (pc := 10) (tgt := 31) hC dX5_badge_10 (by decide) (by omega) (fun c10 => ?_) (fun c10 => ?_) | refine ri_if_eq (pc := 10) (tgt := 31) hC dX5_badge_10 (by decide) (fun c10 => ?_) (fun c10 => ?_)
  · -- taken
    first | refine r_aload_n (pc := 31) hC dX5_badge_31 rfl ?_ | refine r_aload_nN (pc := 31) hC dX5_badge_31 rfl ?_
    refine r_iconst (pc := 32) (nI 1) hC dX5_badge_32 (by decide) ?_
    refine r_callV (pc := 33) hC (cm_fail hC.fl hM0 hV (k := 1)) kv_X5_67 cls6 (show isK S 6 m from hM.k6) rfl rfl (Nat.le_of_ble_eq_true rfl) ⟨by decide, by decide, by decide, by decide⟩ dX5_badge_33 (fun _ _ h => h.elim) (fun v33 S33 h33 => ?_)
    obtain ⟨rfl, hM9, hF9⟩ := h33
    refine r_iret (pc := 36) hC hR dX5_badge_36 ?_ (by decide) (by decide)
    exact RQ.no (k := 1) (kd_f (c10)) (by decide) (rfl) (MO.of (fr_th hM) hF9 hM9)
  · -- not
    refine r_iload_n (pc := 13) hC dX5_badge_13 rfl ?_
    refine ri_if_lt (pc := 14) (tgt := 31) hC dX5_badge_14 (by decide) (fun c14 => ?_) (fun c14 => ?_)
    · -- taken
      first | refine r_aload_n (pc := 31) hC dX5_badge_31 rfl ?_ | refine r_aload_nN (pc := 31) hC dX5_badge_31 rfl ?_
      refine r_iconst (pc := 32) (nI 1) hC dX5_badge_32 (by decide) ?_
      refine r_callV (pc := 33) hC (cm_fail hC.fl hM0 hV (k := 1)) kv_X5_67 cls6 (show isK S 6 m from hM.k6) rfl rfl (Nat.le_of_ble_eq_true rfl) ⟨by decide, by decide, by decide, by decide⟩ dX5_badge_33 (fun _ _ h => h.elim) (fun v33 S33 h33 => ?_)
      obtain ⟨rfl, hM9, hF9⟩ := h33
      refine r_iret (pc := 36) hC hR dX5_badge_36 ?_ (by decide) (by decide)
      exact RQ.no (k := 1) ((kd_t (c10)).trans (kd_f (decide_eq_false (by omega)))) (by decide) (rfl) (MO.of (fr_th hM) hF9 hM9)
    · -- not
      refine r_iload_n (pc := 17) hC dX5_badge_17 rfl ?_
      refine r_iconst (pc := 18) (nI 4) hC dX5_badge_18 (by decide) ?_
      first | refine rn_icmp_gt (pc := 19) (tgt := 31) hC dX5_badge_19 (by decide) (by omega) (by omega) (fun c19 => ?_) (fun c19 => ?_) | refine ri_icmp_gt (pc := 19) (tgt := 31) hC dX5_badge_19 (by decide) (fun c19 => ?_) (fun c19 => ?_)
      · -- taken
        first | refine r_aload_n (pc := 31) hC dX5_badge_31 rfl ?_ | refine r_aload_nN (pc := 31) hC dX5_badge_31 rfl ?_
        refine r_iconst (pc := 32) (nI 1) hC dX5_badge_32 (by decide) ?_
        refine r_callV (pc := 33) hC (cm_fail hC.fl hM0 hV (k := 1)) kv_X5_67 cls6 (show isK S 6 m from hM.k6) rfl rfl (Nat.le_of_ble_eq_true rfl) ⟨by decide, by decide, by decide, by decide⟩ dX5_badge_33 (fun _ _ h => h.elim) (fun v33 S33 h33 => ?_)
        obtain ⟨rfl, hM9, hF9⟩ := h33
        refine r_iret (pc := 36) hC hR dX5_badge_36 ?_ (by decide) (by decide)
        exact RQ.no (k := 1) ((kd_t (c10)).trans (kd_f (decide_eq_false (by omega)))) (by decide) (rfl) (MO.of (fr_th hM) hF9 hM9)
      · -- not
        have hw : wi 0 4 q = true := decide_eq_true (by omega)
        have hBp := inB_n c10
        have hh9 := (hV.vb hBp).2.2.1
        have hdp := inB_d c10
        rw [show Value.int p = Value.int (nI (iN p)) by rw [nI_iN (by omega)]]
        rw [show Value.int q = Value.int (nI (iN q)) by rw [nI_iN (by omega)]]
        first | refine r_aload_n (pc := 22) hC dX5_badge_22 rfl ?_ | refine r_aload_nN (pc := 22) hC dX5_badge_22 rfl ?_
        refine r_iload_n (pc := 23) hC dX5_badge_23 rfl ?_
        refine r_iload_n (pc := 24) hC dX5_badge_24 rfl ?_
        refine r_callV (pc := 25) hC (cm_told hC.fl hM0 hV hBp (w := iN q) (by unfold iN; omega)) kv_X5_118 cls6 (show isK S 6 m from hM.k6) rfl rfl (Nat.le_of_ble_eq_true rfl) ⟨by decide, by decide, by decide, by decide⟩ dX5_badge_25 (fun _ _ h => h.elim) (fun v25 S25 h25 => ?_)
        obtain ⟨rfl, rfl⟩ := h25
        refine r_goto (pc := 28) (tgt := 36) hC dX5_badge_28 (by decide) ?_
        refine r_iret (pc := 36) hC hR dX5_badge_36 ?_ (by decide) (by decide)
        exact RQ.ok ((kd_t (c10)).trans ((kd_t (hw)).trans (rfl))) (rfl) (MO.t0 hM)
abbrev rm_X5_tick : Room := { frames := 1, cells := 0, slots := 0, locals := 21 }
set_option maxHeartbeats 4000000 in
set_option maxRecDepth 100000 in
theorem cq_tick {l : Launch} {G : Ids} {S : Ps} {M : Nat → Nat} {σ : Sg} {m t : Nat} {p : Int32} (hfl : l.stackTraces = false) (hM : RM S M σ m t) (hV : InvC σ) : Ct l (Cond.code yX5_tick cX5_tick 2 (some .int)) yX5_tick rm_X5_tick G [.ref m, .int p] S (fun v S9 => RQ S [(1, wi 1 2000 p), (2, decide (p.toInt + mi σ ≤ 99999))] (.int (nI (mi σ + iN p))) σ (up σ 1 0 (mi σ + iN p)) m v S9) (fun _ _ => False) := by
  refine Ct.of hfl (by decide) (Nat.le_of_ble_eq_true rfl) (fun Γ V hC hR hT hI => ?_)
  have hn := hV.n
  have q1 : (nI 1).toInt = 1 := rfl
  have q2 : (nI 2000).toInt = 2000 := rfl
  first | refine r_aload_n (pc := 0) hC dX5_tick_0 rfl ?_ | refine r_aload_nN (pc := 0) hC dX5_tick_0 rfl ?_
  refine r_iconst (pc := 1) (nI 0) hC dX5_tick_1 (by decide) ?_
  refine r_pf (pc := 2) (κ := 6) (j := 0) hC cls6 (by decide) kf_X5_54 hM.k6 rfl rfl rfl dX5_tick_2 ?_
  have hM0 := hM.th (v := 0)
  refine r_iload_n (pc := 5) hC dX5_tick_5 rfl ?_
  refine r_iconst (pc := 6) (nI 1) hC dX5_tick_6 (by decide) ?_
  first | refine rn_icmp_lt (pc := 7) (tgt := 17) hC dX5_tick_7 (by decide) (by omega) (by omega) (fun c7 => ?_) (fun c7 => ?_) | refine ri_icmp_lt (pc := 7) (tgt := 17) hC dX5_tick_7 (by decide) (fun c7 => ?_) (fun c7 => ?_)
  · -- taken
    first | refine r_aload_n (pc := 17) hC dX5_tick_17 rfl ?_ | refine r_aload_nN (pc := 17) hC dX5_tick_17 rfl ?_
    refine r_iconst (pc := 18) (nI 1) hC dX5_tick_18 (by decide) ?_
    refine r_callV (pc := 19) hC (cm_fail hC.fl hM0 hV (k := 1)) kv_X5_67 cls6 (show isK S 6 m from hM.k6) rfl rfl (Nat.le_of_ble_eq_true rfl) ⟨by decide, by decide, by decide, by decide⟩ dX5_tick_19 (fun _ _ h => h.elim) (fun v19 S19 h19 => ?_)
    obtain ⟨rfl, hM9, hF9⟩ := h19
    refine r_iret (pc := 22) hC hR dX5_tick_22 ?_ (by decide) (by decide)
    exact RQ.no (k := 1) (kd_f (decide_eq_false (by omega))) (by decide) (rfl) (MO.of (fr_th hM) hF9 hM9)
  · -- not
    refine r_iload_n (pc := 10) hC dX5_tick_10 rfl ?_
    refine r_sipush (pc := 11) (nI 2000) hC dX5_tick_11 (by decide) ?_
    first | refine rn_icmp_le (pc := 14) (tgt := 23) hC dX5_tick_14 (by decide) (by omega) (by omega) (fun c14 => ?_) (fun c14 => ?_) | refine ri_icmp_le (pc := 14) (tgt := 23) hC dX5_tick_14 (by decide) (fun c14 => ?_) (fun c14 => ?_)
    · -- taken
      have hw : wi 1 2000 p = true := decide_eq_true (by omega)
      have ep := iN_toInt (p := p) (by omega)
      rw [show Value.int p = Value.int (nI (iN p)) by rw [nI_iN (by omega)]]
      first | refine r_aload_n (pc := 23) hC dX5_tick_23 rfl ?_ | refine r_aload_nN (pc := 23) hC dX5_tick_23 rfl ?_
      refine r_gf (pc := 24) (κ := 6) (j := 1) hC cls6 (by decide) kf_X5_91 hM0.k6 hM0.s1 dX5_tick_24 ?_
      refine r_iload_n (pc := 27) hC dX5_tick_27 rfl ?_
      first | refine rn_iadd (pc := 28) hC dX5_tick_28 ?_ | refine r_iadd (pc := 28) hC dX5_tick_28 ?_
      refine r_ldc (pc := 29) hC dX5_tick_29 kk_X5_121 ?_
      rw [show Value.int (99999 : Int32) = Value.int (nI 99999) from rfl]
      first | refine rn_icmp_le (pc := 31) (tgt := 40) hC dX5_tick_31 (by decide) (by omega) (by omega) (fun c31 => ?_) (fun c31 => ?_) | refine ri_icmp_le (pc := 31) (tgt := 40) hC dX5_tick_31 (by decide) (fun c31 => ?_) (fun c31 => ?_)
      · -- taken
        first | refine r_aload_n (pc := 40) hC dX5_tick_40 rfl ?_ | refine r_aload_nN (pc := 40) hC dX5_tick_40 rfl ?_
        refine r_dup (pc := 41) hC dX5_tick_41 rfl ?_
        refine r_gf (pc := 42) (κ := 6) (j := 1) hC cls6 (by decide) kf_X5_91 hM0.k6 hM0.s1 dX5_tick_42 ?_
        refine r_iload_n (pc := 45) hC dX5_tick_45 rfl ?_
        first | refine rn_iadd (pc := 46) hC dX5_tick_46 ?_ | refine r_iadd (pc := 46) hC dX5_tick_46 ?_
        refine r_pf (pc := 47) (κ := 6) (j := 1) hC cls6 (by decide) kf_X5_91 hM0.k6 rfl rfl rfl dX5_tick_47 ?_
        first | refine r_aload_n (pc := 50) hC dX5_tick_50 rfl ?_ | refine r_aload_nN (pc := 50) hC dX5_tick_50 rfl ?_
        refine r_gf (pc := 51) (κ := 6) (j := 1) hC cls6 (by decide) kf_X5_91 hM0.k6 (pF_sF_eq _ _ _ _) dX5_tick_51 ?_
        refine r_iret (pc := 54) hC hR dX5_tick_54 ?_ (by decide) (by decide)
        exact RQ.ok ((kd_t (hw)).trans ((kd_t (decide_eq_true (by omega))).trans (rfl))) (rfl) (⟨(fr_sF (fr_th hM) (mP6 hM.k6)), M, hM0.mi'⟩)
      · -- not
        first | refine r_aload_n (pc := 34) hC dX5_tick_34 rfl ?_ | refine r_aload_nN (pc := 34) hC dX5_tick_34 rfl ?_
        refine r_iconst (pc := 35) (nI 2) hC dX5_tick_35 (by decide) ?_
        refine r_callV (pc := 36) hC (cm_fail hC.fl hM0 hV (k := 2)) kv_X5_67 cls6 (show isK S 6 m from hM.k6) rfl rfl (Nat.le_of_ble_eq_true rfl) ⟨by decide, by decide, by decide, by decide⟩ dX5_tick_36 (fun _ _ h => h.elim) (fun v36 S36 h36 => ?_)
        obtain ⟨rfl, hM9, hF9⟩ := h36
        refine r_iret (pc := 39) hC hR dX5_tick_39 ?_ (by decide) (by decide)
        exact RQ.no (k := 2) ((kd_t (hw)).trans (kd_f (decide_eq_false (by omega)))) (by decide) (rfl) (MO.of (fr_th hM) hF9 hM9)
    · -- not
      first | refine r_aload_n (pc := 17) hC dX5_tick_17 rfl ?_ | refine r_aload_nN (pc := 17) hC dX5_tick_17 rfl ?_
      refine r_iconst (pc := 18) (nI 1) hC dX5_tick_18 (by decide) ?_
      refine r_callV (pc := 19) hC (cm_fail hC.fl hM0 hV (k := 1)) kv_X5_67 cls6 (show isK S 6 m from hM.k6) rfl rfl (Nat.le_of_ble_eq_true rfl) ⟨by decide, by decide, by decide, by decide⟩ dX5_tick_19 (fun _ _ h => h.elim) (fun v19 S19 h19 => ?_)
      obtain ⟨rfl, hM9, hF9⟩ := h19
      refine r_iret (pc := 22) hC hR dX5_tick_22 ?_ (by decide) (by decide)
      exact RQ.no (k := 1) (kd_f (decide_eq_false (by omega))) (by decide) (rfl) (MO.of (fr_th hM) hF9 hM9)
abbrev rm_X5_alarm : Room := { frames := 0, cells := 0, slots := 0, locals := 0 }
set_option maxHeartbeats 4000000 in
set_option maxRecDepth 100000 in
theorem cq_alarm {l : Launch} {G : Ids} {S : Ps} {M : Nat → Nat} {σ : Sg} {m t : Nat} {q : Bool} (hfl : l.stackTraces = false) (hM : RM S M σ m t) (hV : InvC σ) : Ct l (Cond.code yX5_alarm cX5_alarm 3 (some .boolean)) yX5_alarm rm_X5_alarm G [.ref m, .int (b2i q)] S (fun v S9 => RQ S [] (.int (b2i (decide (al σ = 1)))) σ (up σ 1 1 (bN q)) m v S9) (fun _ _ => False) := by
  refine Ct.of hfl (by decide) (Nat.le_of_ble_eq_true rfl) (fun Γ V hC hR hT hI => ?_)
  cases q
  · skip
    have hn := hV.n
    first | refine r_aload_n (pc := 0) hC dX5_alarm_0 rfl ?_ | refine r_aload_nN (pc := 0) hC dX5_alarm_0 rfl ?_
    refine r_iconst (pc := 1) (nI 0) hC dX5_alarm_1 (by decide) ?_
    refine r_pf (pc := 2) (κ := 6) (j := 0) hC cls6 (by decide) kf_X5_54 hM.k6 rfl rfl rfl dX5_alarm_2 ?_
    have hM0 := hM.th (v := 0)
    first | refine r_aload_n (pc := 5) hC dX5_alarm_5 rfl ?_ | refine r_aload_nN (pc := 5) hC dX5_alarm_5 rfl ?_
    refine r_gf (pc := 6) (κ := 6) (j := 2) hC cls6 (by decide) kf_X5_122 hM0.k6 (hM0.s2.trans (nI_b2 hn.2.2.2.2.2)) dX5_alarm_6 ?_
    refine r_istore_n (pc := 9) hC dX5_alarm_9 (by decide) ?_
    first | refine r_aload_n (pc := 10) hC dX5_alarm_10 rfl ?_ | refine r_aload_nN (pc := 10) hC dX5_alarm_10 rfl ?_
    refine r_iload_n (pc := 11) hC dX5_alarm_11 rfl ?_
    refine r_pf (pc := 12) (κ := 6) (j := 2) hC cls6 (by decide) kf_X5_122 hM0.k6 rfl rfl rfl dX5_alarm_12 ?_
    refine r_iload_n (pc := 15) hC dX5_alarm_15 rfl ?_
    refine r_zret (pc := 16) hC hR dX5_alarm_16 (by first | rfl | exact b2i_z _ | decide) ?_ (by decide) (by decide)
    exact RQ.ok (rfl) (rfl) (⟨(fr_sF (fr_th hM) (mP6 hM.k6)), M, hM0.al' (v := bN false)⟩)
  · skip
    have hn := hV.n
    first | refine r_aload_n (pc := 0) hC dX5_alarm_0 rfl ?_ | refine r_aload_nN (pc := 0) hC dX5_alarm_0 rfl ?_
    refine r_iconst (pc := 1) (nI 0) hC dX5_alarm_1 (by decide) ?_
    refine r_pf (pc := 2) (κ := 6) (j := 0) hC cls6 (by decide) kf_X5_54 hM.k6 rfl rfl rfl dX5_alarm_2 ?_
    have hM0 := hM.th (v := 0)
    first | refine r_aload_n (pc := 5) hC dX5_alarm_5 rfl ?_ | refine r_aload_nN (pc := 5) hC dX5_alarm_5 rfl ?_
    refine r_gf (pc := 6) (κ := 6) (j := 2) hC cls6 (by decide) kf_X5_122 hM0.k6 (hM0.s2.trans (nI_b2 hn.2.2.2.2.2)) dX5_alarm_6 ?_
    refine r_istore_n (pc := 9) hC dX5_alarm_9 (by decide) ?_
    first | refine r_aload_n (pc := 10) hC dX5_alarm_10 rfl ?_ | refine r_aload_nN (pc := 10) hC dX5_alarm_10 rfl ?_
    refine r_iload_n (pc := 11) hC dX5_alarm_11 rfl ?_
    refine r_pf (pc := 12) (κ := 6) (j := 2) hC cls6 (by decide) kf_X5_122 hM0.k6 rfl rfl rfl dX5_alarm_12 ?_
    refine r_iload_n (pc := 15) hC dX5_alarm_15 rfl ?_
    refine r_zret (pc := 16) hC hR dX5_alarm_16 (by first | rfl | exact b2i_z _ | decide) ?_ (by decide) (by decide)
    exact RQ.ok (rfl) (rfl) (⟨(fr_sF (fr_th hM) (mP6 hM.k6)), M, hM0.al' (v := bN true)⟩)
abbrev rm_X5_request : Room := { frames := 4, cells := 1, slots := 3072, locals := 97 }
set_option maxHeartbeats 4000000 in
set_option maxRecDepth 100000 in
theorem cq_request {l : Launch} {G : Ids} {S : Ps} {M : Nat → Nat} {σ : Sg} {m t : Nat} {p q : Int32} (hfl : l.stackTraces = false) (hM : RM S M σ m t) (hV : InvC σ) (hmv : mv σ ≤ 511) : Ct l (Cond.code yX5_request cX5_request 4 (some .int)) yX5_request rm_X5_request G [.ref m, .int p, .int q] S (fun v S9 => RQ S [(1, inB σ p), (1, inD σ q)] (.int (nI (ans σ (iN p) (iN q)))) σ (rqS σ (iN p) (iN q)) m v S9) (fun _ _ => False) := by
  refine Ct.of hfl (by decide) (Nat.le_of_ble_eq_true rfl) (fun Γ V hC hR hT hI => ?_)
  have hn := hV.n
  first | refine r_aload_n (pc := 0) hC dX5_request_0 rfl ?_ | refine r_aload_nN (pc := 0) hC dX5_request_0 rfl ?_
  refine r_iconst (pc := 1) (nI 0) hC dX5_request_1 (by decide) ?_
  refine r_pf (pc := 2) (κ := 6) (j := 0) hC cls6 (by decide) kf_X5_54 hM.k6 rfl rfl rfl dX5_request_2 ?_
  have hM0 := hM.th (v := 0)
  first | refine r_aload_n (pc := 5) hC dX5_request_5 rfl ?_ | refine r_aload_nN (pc := 5) hC dX5_request_5 rfl ?_
  refine r_iload_n (pc := 6) hC dX5_request_6 rfl ?_
  refine r_callV (pc := 7) hC (cm_isBadge hC.fl hM0 hV (p := p)) kv_X5_112 cls6 (show isK S 6 m from hM.k6) rfl rfl (Nat.le_of_ble_eq_true rfl) ⟨by decide, by decide, by decide, by decide⟩ dX5_request_7 (fun _ _ h => h.elim) (fun v7 S7 h7 => ?_)
  obtain ⟨rfl, rfl⟩ := h7
  first | refine rb_if_eq (pc := 10) (tgt := 21) hC dX5_request_10 (by decide) (fun c10 => ?_) (fun c10 => ?_) | refine rn_if_eq (pc := 10) (tgt := 21) hC dX5_request_10 (by decide) (by omega) (fun c10 => ?_) (fun c10 => ?_) | refine ri_if_eq (pc := 10) (tgt := 21) hC dX5_request_10 (by decide) (fun c10 => ?_) (fun c10 => ?_)
  · -- taken
    first | refine r_aload_n (pc := 21) hC dX5_request_21 rfl ?_ | refine r_aload_nN (pc := 21) hC dX5_request_21 rfl ?_
    refine r_iconst (pc := 22) (nI 1) hC dX5_request_22 (by decide) ?_
    refine r_callV (pc := 23) hC (cm_fail hC.fl hM0 hV (k := 1)) kv_X5_67 cls6 (show isK S 6 m from hM.k6) rfl rfl (Nat.le_of_ble_eq_true rfl) ⟨by decide, by decide, by decide, by decide⟩ dX5_request_23 (fun _ _ h => h.elim) (fun v23 S23 h23 => ?_)
    obtain ⟨rfl, hM9, hF9⟩ := h23
    refine r_iret (pc := 26) hC hR dX5_request_26 ?_ (by decide) (by decide)
    exact RQ.no (k := 1) (kd_f (c10)) (by decide) (rfl) (MO.of (fr_th hM) hF9 hM9)
  · -- not
    first | refine r_aload_n (pc := 13) hC dX5_request_13 rfl ?_ | refine r_aload_nN (pc := 13) hC dX5_request_13 rfl ?_
    refine r_iload_n (pc := 14) hC dX5_request_14 rfl ?_
    refine r_callV (pc := 15) hC (cm_isDoor hC.fl hM0 hV (p := q)) kv_X5_103 cls6 (show isK S 6 m from hM.k6) rfl rfl (Nat.le_of_ble_eq_true rfl) ⟨by decide, by decide, by decide, by decide⟩ dX5_request_15 (fun _ _ h => h.elim) (fun v15 S15 h15 => ?_)
    obtain ⟨rfl, rfl⟩ := h15
    first | refine rb_if_ne (pc := 18) (tgt := 27) hC dX5_request_18 (by decide) (fun c18 => ?_) (fun c18 => ?_) | refine rn_if_ne (pc := 18) (tgt := 27) hC dX5_request_18 (by decide) (by omega) (fun c18 => ?_) (fun c18 => ?_) | refine ri_if_ne (pc := 18) (tgt := 27) hC dX5_request_18 (by decide) (fun c18 => ?_) (fun c18 => ?_)
    · -- taken
      have hBp := inB_n c10
      have hh9 := (hV.vb hBp).2.2.1
      have hdp := inB_d c10
      rw [show Value.int p = Value.int (nI (iN p)) by rw [nI_iN (by omega)]]
      have hDq := inD_n c18
      have hdq := inD_d c18
      rw [show Value.int q = Value.int (nI (iN q)) by rw [nI_iN (by omega)]]
      have hal := ans_le (σ := σ) (b := iN p) (d := iN q)
      have hb2 := hV.vb hBp
      have hd2 := hV.vd hDq
      have l13 : iN p < pN S (M 13) := hM.len (by decide) (by decide) (show mNn 13 = 10 from rfl) (by omega)
      have l16 : iN p < pN S (M 16) := hM.len (by decide) (by decide) (show mNn 16 = 10 from rfl) (by omega)
      have l17 : iN p < pN S (M 17) := hM.len (by decide) (by decide) (show mNn 17 = 10 from rfl) (by omega)
      have l11 : iN q < pN S (M 11) := hM.len (by decide) (by decide) (show mNn 11 = 12 from rfl) (by omega)
      first | refine r_aload_n (pc := 27) hC dX5_request_27 rfl ?_ | refine r_aload_nN (pc := 27) hC dX5_request_27 rfl ?_
      refine r_iload_n (pc := 28) hC dX5_request_28 rfl ?_
      refine r_iload_n (pc := 29) hC dX5_request_29 rfl ?_
      refine r_callV (pc := 30) hC (cm_ans hC.fl hM0 hV hBp hDq) kv_X5_150 cls6 (show isK S 6 m from hM.k6) rfl rfl (Nat.le_of_ble_eq_true rfl) ⟨by decide, by decide, by decide, by decide⟩ dX5_request_30 (fun _ _ h => h.elim) (fun v30 S30 h30 => ?_)
      obtain ⟨rfl, rfl⟩ := h30
      refine r_istore_n (pc := 33) hC dX5_request_33 (by decide) ?_
      refine r_iload_n (pc := 34) hC dX5_request_34 rfl ?_
      first | refine rb_if_ne (pc := 35) (tgt := 93) hC dX5_request_35 (by decide) (fun c35 => ?_) (fun c35 => ?_) | refine rn_if_ne (pc := 35) (tgt := 93) hC dX5_request_35 (by decide) (by omega) (fun c35 => ?_) (fun c35 => ?_) | refine ri_if_ne (pc := 35) (tgt := 93) hC dX5_request_35 (by decide) (fun c35 => ?_) (fun c35 => ?_)
      · -- taken
        refine r_iload_n (pc := 93) hC dX5_request_93 rfl ?_
        refine r_bipush (pc := 94) (nI 8) hC dX5_request_94 (by decide) ?_
        first | refine rn_icmp_eq (pc := 96) (tgt := 130) hC dX5_request_96 (by decide) (by omega) (by omega) (fun c96 => ?_) (fun c96 => ?_) | refine ri_icmp_eq (pc := 96) (tgt := 130) hC dX5_request_96 (by decide) (fun c96 => ?_) (fun c96 => ?_)
        · -- taken
          refine r_iload_n (pc := 130) hC dX5_request_130 rfl ?_
          refine r_iret (pc := 131) hC hR dX5_request_131 ?_ (by decide) (by decide)
          exact RQ.ok ((kd_t (c10)).trans ((kd_t (c18)).trans (rfl))) (rfl) (⟨fr_th hM, M, by unfold rqS; rw [if_neg c35, if_pos c96]; exact hM0⟩)
        · -- not
          first | refine r_aload_n (pc := 99) hC dX5_request_99 rfl ?_ | refine r_aload_nN (pc := 99) hC dX5_request_99 rfl ?_
          refine r_gf (pc := 100) (κ := 6) (j := 17) hC cls6 (by decide) kf_X5_48 hM0.k6 (hM0.a (j := 17) (by decide)) dX5_request_100 ?_
          refine r_iload_n (pc := 103) hC dX5_request_103 rfl ?_
          refine r_dup2 (pc := 104) hC dX5_request_104 rfl rfl ?_
          refine r_iald (pc := 105) hC dX5_request_105 (hM0.kd (j := 17) (by decide)) (hM0.r17 hBp).1 (hM0.r17 hBp).2.1 (hM0.r17 hBp).2.2 ?_
          refine r_iconst (pc := 106) (nI 1) hC dX5_request_106 (by decide) ?_
          first | refine rn_iadd (pc := 107) hC dX5_request_107 ?_ | refine r_iadd (pc := 107) hC dX5_request_107 ?_
          refine r_iast (pc := 108) hC dX5_request_108 (hM0.kd (j := 17) (by decide)) l17 (hM0.l (j := 17) (by decide)) ?_
          have hM1 := hM0.u (f := 14) (jf := 17) (i := iN p) (w := rfs σ (iN p) + 1) (by decide) l17
          first | refine r_aload_n (pc := 109) hC dX5_request_109 rfl ?_ | refine r_aload_nN (pc := 109) hC dX5_request_109 rfl ?_
          refine r_gf (pc := 110) (κ := 6) (j := 16) hC cls6 (by decide) kf_X5_44 hM0.k6 (hM0.a (j := 16) (by decide)) dX5_request_110 ?_
          refine r_iload_n (pc := 113) hC dX5_request_113 rfl ?_
          first | refine r_aload_n (pc := 114) hC dX5_request_114 rfl ?_ | refine r_aload_nN (pc := 114) hC dX5_request_114 rfl ?_
          refine r_gf (pc := 115) (κ := 6) (j := 17) hC cls6 (by decide) kf_X5_48 hM0.k6 (hM0.a (j := 17) (by decide)) dX5_request_115 ?_
          refine r_iload_n (pc := 118) hC dX5_request_118 rfl ?_
          refine r_iald (pc := 119) hC dX5_request_119 (hM0.kd (j := 17) (by decide)) l17 (hM0.l (j := 17) (by decide)) (show (if M 17 = M 17 ∧ iN p = iN p then nI (rfs σ (iN p) + 1) else _) = nI (rfs σ (iN p) + 1) from if_pos ⟨rfl, rfl⟩) ?_
          refine r_iconst (pc := 120) (nI 3) hC dX5_request_120 (by decide) ?_
          first | refine rn_icmp_lt (pc := 121) (tgt := 128) hC dX5_request_121 (by decide) (by omega) (by omega) (fun c121 => ?_) (fun c121 => ?_) | refine ri_icmp_lt (pc := 121) (tgt := 128) hC dX5_request_121 (by decide) (fun c121 => ?_) (fun c121 => ?_)
          · -- taken
            refine r_iconst (pc := 128) (nI 0) hC dX5_request_128 (by decide) ?_
            refine r_zast (pc := 129) hC dX5_request_129 (hM0.kd (j := 16) (by decide)) l16 (hM0.l (j := 16) (by decide)) (by rfl) ?_
            refine r_iload_n (pc := 130) hC dX5_request_130 rfl ?_
            refine r_iret (pc := 131) hC hR dX5_request_131 ?_ (by decide) (by decide)
            exact RQ.ok ((kd_t (c10)).trans ((kd_t (c18)).trans (rfl))) (rfl) (⟨(fr_sI (fr_sI (fr_th hM) (mPa hM (j := 17) (by decide))) (mPa hM (j := 16) (by decide))), M, by unfold rqS; rw [if_neg c35, if_neg c96]; exact RM.rf1 (w := 0) (hM1.u (f := 13) (jf := 16) (i := iN p) (w := 0) (by decide) l16) (by have := ans_8 c96; omega) (by rw [if_pos (by omega)])⟩)
          · -- not
            refine r_iconst (pc := 124) (nI 1) hC dX5_request_124 (by decide) ?_
            refine r_goto (pc := 125) (tgt := 129) hC dX5_request_125 (by decide) ?_
            refine r_zast (pc := 129) hC dX5_request_129 (hM0.kd (j := 16) (by decide)) l16 (hM0.l (j := 16) (by decide)) (by rfl) ?_
            refine r_iload_n (pc := 130) hC dX5_request_130 rfl ?_
            refine r_iret (pc := 131) hC hR dX5_request_131 ?_ (by decide) (by decide)
            exact RQ.ok ((kd_t (c10)).trans ((kd_t (c18)).trans (rfl))) (rfl) (⟨(fr_sI (fr_sI (fr_th hM) (mPa hM (j := 17) (by decide))) (mPa hM (j := 16) (by decide))), M, by unfold rqS; rw [if_neg c35, if_neg c96]; exact RM.rf1 (w := 1) (hM1.u (f := 13) (jf := 16) (i := iN p) (w := 1) (by decide) l16) (by have := ans_8 c96; omega) (by rw [if_neg (by omega)])⟩)
      · -- not
        have hg : oth σ (iN q) (plc σ (iN p)) - 1 < nz σ := oth_lt hV hDq (ans_0 c35)
        have hM1 := hM0.u (f := 10) (jf := 13) (i := iN p) (w := oth σ (iN q) (plc σ (iN p)) - 1) (by decide) l13
        have hV1 : InvC (up σ 10 (iN p) (oth σ (iN q) (plc σ (iN p)) - 1)) := hV.u10 hg
        have e13 : plc (up σ 10 (iN p) (oth σ (iN q) (plc σ (iN p)) - 1)) (iN p) = (oth σ (iN q) (plc σ (iN p)) - 1) := up_eq _ _ _ _
        first | refine r_aload_n (pc := 38) hC dX5_request_38 rfl ?_ | refine r_aload_nN (pc := 38) hC dX5_request_38 rfl ?_
        refine r_gf (pc := 39) (κ := 6) (j := 13) hC cls6 (by decide) kf_X5_35 hM0.k6 (hM0.a (j := 13) (by decide)) dX5_request_39 ?_
        refine r_iload_n (pc := 42) hC dX5_request_42 rfl ?_
        first | refine r_aload_n (pc := 43) hC dX5_request_43 rfl ?_ | refine r_aload_nN (pc := 43) hC dX5_request_43 rfl ?_
        refine r_iload_n (pc := 44) hC dX5_request_44 rfl ?_
        first | refine r_aload_n (pc := 45) hC dX5_request_45 rfl ?_ | refine r_aload_nN (pc := 45) hC dX5_request_45 rfl ?_
        refine r_gf (pc := 46) (κ := 6) (j := 13) hC cls6 (by decide) kf_X5_35 hM0.k6 (hM0.a (j := 13) (by decide)) dX5_request_46 ?_
        refine r_iload_n (pc := 49) hC dX5_request_49 rfl ?_
        refine r_iald (pc := 50) hC dX5_request_50 (hM0.kd (j := 13) (by decide)) (hM0.r13 (by assumption)).1 (hM0.r13 (by assumption)).2.1 (hM0.r13 (by assumption)).2.2 ?_
        refine r_callV (pc := 51) hC (cm_across hC.fl hM0 hV hDq hb2.1) kv_X5_126 cls6 (show isK S 6 m from hM.k6) rfl rfl (Nat.le_of_ble_eq_true rfl) ⟨by decide, by decide, by decide, by decide⟩ dX5_request_51 (fun _ _ h => h.elim) (fun v51 S51 h51 => ?_)
        obtain ⟨rfl, rfl⟩ := h51
        rw [acI_s (ans_0 c35)]
        refine r_iast (pc := 54) hC dX5_request_54 (hM0.kd (j := 13) (by decide)) l13 (hM0.l (j := 13) (by decide)) ?_
        first | refine r_aload_n (pc := 55) hC dX5_request_55 rfl ?_ | refine r_aload_nN (pc := 55) hC dX5_request_55 rfl ?_
        refine r_iload_n (pc := 56) hC dX5_request_56 rfl ?_
        first | refine r_aload_n (pc := 57) hC dX5_request_57 rfl ?_ | refine r_aload_nN (pc := 57) hC dX5_request_57 rfl ?_
        refine r_gf (pc := 58) (κ := 6) (j := 13) hC cls6 (by decide) kf_X5_35 hM1.k6 (hM1.a (j := 13) (by decide)) dX5_request_58 ?_
        refine r_iload_n (pc := 61) hC dX5_request_61 rfl ?_
        refine r_iald (pc := 62) hC dX5_request_62 (hM1.kd (j := 13) (by decide)) (hM1.r13 (b := iN p) hBp).1 (hM1.r13 (b := iN p) hBp).2.1 ((hM1.r13 (b := iN p) hBp).2.2.trans (congrArg nI e13)) ?_
        refine r_callV (pc := 63) hC (cm_note hC.fl hM1 hV1 (b := iN p) (z := (oth σ (iN q) (plc σ (iN p)) - 1)) hmv) kv_X5_153 cls6 hM1.k6 rfl rfl (Nat.le_of_ble_eq_true rfl) ⟨by decide, by decide, by decide, by decide⟩ dX5_request_63 (fun _ _ h => h.elim) (fun v63 S2 h63 => ?_)
        obtain ⟨rfl, hF2, M2, hM2⟩ := h63
        first | refine r_aload_n (pc := 66) hC dX5_request_66 rfl ?_ | refine r_aload_nN (pc := 66) hC dX5_request_66 rfl ?_
        refine r_gf (pc := 67) (κ := 6) (j := 11) hC cls6 (by decide) kf_X5_32 hM2.k6 (hM2.a (j := 11) (by decide)) dX5_request_67 ?_
        refine r_iload_n (pc := 70) hC dX5_request_70 rfl ?_
        first | refine r_aload_n (pc := 71) hC dX5_request_71 rfl ?_ | refine r_aload_nN (pc := 71) hC dX5_request_71 rfl ?_
        refine r_gf (pc := 72) (κ := 6) (j := 1) hC cls6 (by decide) kf_X5_91 hM2.k6 hM2.s1 dX5_request_72 ?_
        first | refine r_aload_n (pc := 75) hC dX5_request_75 rfl ?_ | refine r_aload_nN (pc := 75) hC dX5_request_75 rfl ?_
        refine r_gf (pc := 76) (κ := 6) (j := 9) hC cls6 (by decide) kf_X5_26 hM2.k6 (hM2.a (j := 9) (by decide)) dX5_request_76 ?_
        refine r_iload_n (pc := 79) hC dX5_request_79 rfl ?_
        refine r_iald (pc := 80) hC dX5_request_80 (hM2.kd (j := 9) (by decide)) (hM2.r9 (d := iN q) hDq).1 (hM2.r9 (d := iN q) hDq).2.1 (hM2.r9 (d := iN q) hDq).2.2 ?_
        first | refine rn_iadd (pc := 81) hC dX5_request_81 ?_ | refine r_iadd (pc := 81) hC dX5_request_81 ?_
        refine r_iast (pc := 82) hC dX5_request_82 (hM2.kd (j := 11) (by decide)) (hM2.r11 (d := iN q) hDq).1 (hM2.l (j := 11) (by decide)) ?_
        first | refine r_aload_n (pc := 83) hC dX5_request_83 rfl ?_ | refine r_aload_nN (pc := 83) hC dX5_request_83 rfl ?_
        refine r_gf (pc := 84) (κ := 6) (j := 17) hC cls6 (by decide) kf_X5_48 hM2.k6 (hM2.a (j := 17) (by decide)) dX5_request_84 ?_
        refine r_iload_n (pc := 87) hC dX5_request_87 rfl ?_
        refine r_iconst (pc := 88) (nI 0) hC dX5_request_88 (by decide) ?_
        refine r_iast (pc := 89) hC dX5_request_89 (hM2.kd (j := 17) (by decide)) (hM2.r17 (b := iN p) hBp).1 (hM2.l (j := 17) (by decide)) ?_
        refine r_goto (pc := 90) (tgt := 130) hC dX5_request_90 (by decide) ?_
        refine r_iload_n (pc := 130) hC dX5_request_130 rfl ?_
        refine r_iret (pc := 131) hC hR dX5_request_131 ?_ (by decide) (by decide)
        have hM4 := (hM2.u (f := 9) (jf := 11) (i := iN q) (w := mi σ + hold σ (iN q)) (by decide) (hM2.r11 (d := iN q) hDq).1).u (f := 14) (jf := 17) (i := iN p) (w := 0) (by decide) (hM2.r17 (b := iN p) hBp).1
        exact RQ.ok ((kd_t (c10)).trans ((kd_t (c18)).trans (rfl))) (rfl) (⟨FrM.trans (fr_sI (fr_th hM) (mPa hM (j := 13) (by decide))) (FrM.trans hF2 (fr_sI (fr_sI (Fr.rfl (P := mP S2) (S := S2)) (mPa hM2 (j := 11) (by decide))) (mPa hM2 (j := 17) (by decide)))), M2, by rw [rqS_wy c35]; exact RM.rq rfl hM4⟩)
    · -- not
      first | refine r_aload_n (pc := 21) hC dX5_request_21 rfl ?_ | refine r_aload_nN (pc := 21) hC dX5_request_21 rfl ?_
      refine r_iconst (pc := 22) (nI 1) hC dX5_request_22 (by decide) ?_
      refine r_callV (pc := 23) hC (cm_fail hC.fl hM0 hV (k := 1)) kv_X5_67 cls6 (show isK S 6 m from hM.k6) rfl rfl (Nat.le_of_ble_eq_true rfl) ⟨by decide, by decide, by decide, by decide⟩ dX5_request_23 (fun _ _ h => h.elim) (fun v23 S23 h23 => ?_)
      obtain ⟨rfl, hM9, hF9⟩ := h23
      refine r_iret (pc := 26) hC hR dX5_request_26 ?_ (by decide) (by decide)
      exact RQ.no (k := 1) ((kd_t (c10)).trans (kd_f (c18))) (by decide) (rfl) (MO.of (fr_th hM) hF9 hM9)
abbrev rm_X5_wouldBe : Room := { frames := 4, cells := 0, slots := 0, locals := 97 }
set_option maxHeartbeats 4000000 in
set_option maxRecDepth 100000 in
theorem cq_wouldBe {l : Launch} {G : Ids} {S : Ps} {M : Nat → Nat} {σ : Sg} {m t : Nat} {p q : Int32} (hfl : l.stackTraces = false) (hM : RM S M σ m t) (hV : InvC σ) : Ct l (Cond.code yX5_wouldBe cX5_wouldBe 3 (some .int)) yX5_wouldBe rm_X5_wouldBe G [.ref m, .int p, .int q] S (fun v S9 => RQ S [(1, inB σ p), (1, inD σ q)] (.int (nI (ans σ (iN p) (iN q)))) σ (σ) m v S9) (fun _ _ => False) := by
  refine Ct.of hfl (by decide) (Nat.le_of_ble_eq_true rfl) (fun Γ V hC hR hT hI => ?_)
  have hn := hV.n
  first | refine r_aload_n (pc := 0) hC dX5_wouldBe_0 rfl ?_ | refine r_aload_nN (pc := 0) hC dX5_wouldBe_0 rfl ?_
  refine r_iconst (pc := 1) (nI 0) hC dX5_wouldBe_1 (by decide) ?_
  refine r_pf (pc := 2) (κ := 6) (j := 0) hC cls6 (by decide) kf_X5_54 hM.k6 rfl rfl rfl dX5_wouldBe_2 ?_
  have hM0 := hM.th (v := 0)
  first | refine r_aload_n (pc := 5) hC dX5_wouldBe_5 rfl ?_ | refine r_aload_nN (pc := 5) hC dX5_wouldBe_5 rfl ?_
  refine r_iload_n (pc := 6) hC dX5_wouldBe_6 rfl ?_
  refine r_callV (pc := 7) hC (cm_isBadge hC.fl hM0 hV (p := p)) kv_X5_112 cls6 (show isK S 6 m from hM.k6) rfl rfl (Nat.le_of_ble_eq_true rfl) ⟨by decide, by decide, by decide, by decide⟩ dX5_wouldBe_7 (fun _ _ h => h.elim) (fun v7 S7 h7 => ?_)
  obtain ⟨rfl, rfl⟩ := h7
  first | refine rb_if_eq (pc := 10) (tgt := 30) hC dX5_wouldBe_10 (by decide) (fun c10 => ?_) (fun c10 => ?_) | refine rn_if_eq (pc := 10) (tgt := 30) hC dX5_wouldBe_10 (by decide) (by omega) (fun c10 => ?_) (fun c10 => ?_) | refine ri_if_eq (pc := 10) (tgt := 30) hC dX5_wouldBe_10 (by decide) (fun c10 => ?_) (fun c10 => ?_)
  · -- taken
    first | refine r_aload_n (pc := 30) hC dX5_wouldBe_30 rfl ?_ | refine r_aload_nN (pc := 30) hC dX5_wouldBe_30 rfl ?_
    refine r_iconst (pc := 31) (nI 1) hC dX5_wouldBe_31 (by decide) ?_
    refine r_callV (pc := 32) hC (cm_fail hC.fl hM0 hV (k := 1)) kv_X5_67 cls6 (show isK S 6 m from hM.k6) rfl rfl (Nat.le_of_ble_eq_true rfl) ⟨by decide, by decide, by decide, by decide⟩ dX5_wouldBe_32 (fun _ _ h => h.elim) (fun v32 S32 h32 => ?_)
    obtain ⟨rfl, hM9, hF9⟩ := h32
    refine r_iret (pc := 35) hC hR dX5_wouldBe_35 ?_ (by decide) (by decide)
    exact RQ.no (k := 1) (kd_f (c10)) (by decide) (rfl) (MO.of (fr_th hM) hF9 hM9)
  · -- not
    first | refine r_aload_n (pc := 13) hC dX5_wouldBe_13 rfl ?_ | refine r_aload_nN (pc := 13) hC dX5_wouldBe_13 rfl ?_
    refine r_iload_n (pc := 14) hC dX5_wouldBe_14 rfl ?_
    refine r_callV (pc := 15) hC (cm_isDoor hC.fl hM0 hV (p := q)) kv_X5_103 cls6 (show isK S 6 m from hM.k6) rfl rfl (Nat.le_of_ble_eq_true rfl) ⟨by decide, by decide, by decide, by decide⟩ dX5_wouldBe_15 (fun _ _ h => h.elim) (fun v15 S15 h15 => ?_)
    obtain ⟨rfl, rfl⟩ := h15
    first | refine rb_if_eq (pc := 18) (tgt := 30) hC dX5_wouldBe_18 (by decide) (fun c18 => ?_) (fun c18 => ?_) | refine rn_if_eq (pc := 18) (tgt := 30) hC dX5_wouldBe_18 (by decide) (by omega) (fun c18 => ?_) (fun c18 => ?_) | refine ri_if_eq (pc := 18) (tgt := 30) hC dX5_wouldBe_18 (by decide) (fun c18 => ?_) (fun c18 => ?_)
    · -- taken
      first | refine r_aload_n (pc := 30) hC dX5_wouldBe_30 rfl ?_ | refine r_aload_nN (pc := 30) hC dX5_wouldBe_30 rfl ?_
      refine r_iconst (pc := 31) (nI 1) hC dX5_wouldBe_31 (by decide) ?_
      refine r_callV (pc := 32) hC (cm_fail hC.fl hM0 hV (k := 1)) kv_X5_67 cls6 (show isK S 6 m from hM.k6) rfl rfl (Nat.le_of_ble_eq_true rfl) ⟨by decide, by decide, by decide, by decide⟩ dX5_wouldBe_32 (fun _ _ h => h.elim) (fun v32 S32 h32 => ?_)
      obtain ⟨rfl, hM9, hF9⟩ := h32
      refine r_iret (pc := 35) hC hR dX5_wouldBe_35 ?_ (by decide) (by decide)
      exact RQ.no (k := 1) ((kd_t (c10)).trans (kd_f (c18))) (by decide) (rfl) (MO.of (fr_th hM) hF9 hM9)
    · -- not
      have hBp := inB_n c10
      have hh9 := (hV.vb hBp).2.2.1
      have hdp := inB_d c10
      rw [show Value.int p = Value.int (nI (iN p)) by rw [nI_iN (by omega)]]
      have hDq := inD_n c18
      have hdq := inD_d c18
      rw [show Value.int q = Value.int (nI (iN q)) by rw [nI_iN (by omega)]]
      first | refine r_aload_n (pc := 21) hC dX5_wouldBe_21 rfl ?_ | refine r_aload_nN (pc := 21) hC dX5_wouldBe_21 rfl ?_
      refine r_iload_n (pc := 22) hC dX5_wouldBe_22 rfl ?_
      refine r_iload_n (pc := 23) hC dX5_wouldBe_23 rfl ?_
      refine r_callV (pc := 24) hC (cm_ans hC.fl hM0 hV hBp hDq) kv_X5_150 cls6 (show isK S 6 m from hM.k6) rfl rfl (Nat.le_of_ble_eq_true rfl) ⟨by decide, by decide, by decide, by decide⟩ dX5_wouldBe_24 (fun _ _ h => h.elim) (fun v24 S24 h24 => ?_)
      obtain ⟨rfl, rfl⟩ := h24
      refine r_goto (pc := 27) (tgt := 35) hC dX5_wouldBe_27 (by decide) ?_
      refine r_iret (pc := 35) hC hR dX5_wouldBe_35 ?_ (by decide) (by decide)
      exact RQ.ok ((kd_t (c10)).trans ((kd_t (c18)).trans (rfl))) (rfl) (MO.t0 hM)
abbrev rm_X5_distance : Room := { frames := 2, cells := 0, slots := 0, locals := 50 }
set_option maxHeartbeats 4000000 in
set_option maxRecDepth 100000 in
theorem cq_distance {l : Launch} {G : Ids} {S : Ps} {M : Nat → Nat} {σ : Sg} {m t : Nat} {p : Int32} (hfl : l.stackTraces = false) (hM : RM S M σ m t) (hV : InvC σ) : Ct l (Cond.code yX5_distance cX5_distance 2 (some .int)) yX5_distance rm_X5_distance G [.ref m, .int p] S (fun v S9 => RQ S [(1, inZ σ p)] (.int (dI (dst σ okA (iN p) 0))) σ (σ) m v S9) (fun _ _ => False) := by
  refine Ct.of hfl (by decide) (Nat.le_of_ble_eq_true rfl) (fun Γ V hC hR hT hI => ?_)
  have hn := hV.n
  first | refine r_aload_n (pc := 0) hC dX5_distance_0 rfl ?_ | refine r_aload_nN (pc := 0) hC dX5_distance_0 rfl ?_
  refine r_iconst (pc := 1) (nI 0) hC dX5_distance_1 (by decide) ?_
  refine r_pf (pc := 2) (κ := 6) (j := 0) hC cls6 (by decide) kf_X5_54 hM.k6 rfl rfl rfl dX5_distance_2 ?_
  have hM0 := hM.th (v := 0)
  first | refine r_aload_n (pc := 5) hC dX5_distance_5 rfl ?_ | refine r_aload_nN (pc := 5) hC dX5_distance_5 rfl ?_
  refine r_iload_n (pc := 6) hC dX5_distance_6 rfl ?_
  refine r_callV (pc := 7) hC (cm_isZone hC.fl hM0 hV (p := p)) kv_X5_71 cls6 (show isK S 6 m from hM.k6) rfl rfl (Nat.le_of_ble_eq_true rfl) ⟨by decide, by decide, by decide, by decide⟩ dX5_distance_7 (fun _ _ h => h.elim) (fun v7 S7 h7 => ?_)
  obtain ⟨rfl, rfl⟩ := h7
  first | refine rb_if_eq (pc := 10) (tgt := 25) hC dX5_distance_10 (by decide) (fun c10 => ?_) (fun c10 => ?_) | refine rn_if_eq (pc := 10) (tgt := 25) hC dX5_distance_10 (by decide) (by omega) (fun c10 => ?_) (fun c10 => ?_) | refine ri_if_eq (pc := 10) (tgt := 25) hC dX5_distance_10 (by decide) (fun c10 => ?_) (fun c10 => ?_)
  · -- taken
    first | refine r_aload_n (pc := 25) hC dX5_distance_25 rfl ?_ | refine r_aload_nN (pc := 25) hC dX5_distance_25 rfl ?_
    refine r_iconst (pc := 26) (nI 1) hC dX5_distance_26 (by decide) ?_
    refine r_callV (pc := 27) hC (cm_fail hC.fl hM0 hV (k := 1)) kv_X5_67 cls6 (show isK S 6 m from hM.k6) rfl rfl (Nat.le_of_ble_eq_true rfl) ⟨by decide, by decide, by decide, by decide⟩ dX5_distance_27 (fun _ _ h => h.elim) (fun v27 S27 h27 => ?_)
    obtain ⟨rfl, hM9, hF9⟩ := h27
    refine r_iret (pc := 30) hC hR dX5_distance_30 ?_ (by decide) (by decide)
    exact RQ.no (k := 1) (kd_f (c10)) (by decide) (rfl) (MO.of (fr_th hM) hF9 hM9)
  · -- not
    have hZp := inZ_n c10
    have hdp := inZ_d c10
    rw [show Value.int p = Value.int (nI (iN p)) by rw [nI_iN (by omega)]]
    first | refine r_aload_n (pc := 13) hC dX5_distance_13 rfl ?_ | refine r_aload_nN (pc := 13) hC dX5_distance_13 rfl ?_
    refine r_iload_n (pc := 14) hC dX5_distance_14 rfl ?_
    refine r_iconst (pc := 15) (nI 0) hC dX5_distance_15 (by decide) ?_
    refine r_sipush (pc := 16) (nI 255) hC dX5_distance_16 (by decide) ?_
    refine r_callV (pc := 19) hC (cm_steps hC.fl hM0 hV (ok := okA) hZp hn.1 (by decide) (fun z hz => a255 z (by omega))) kv_X5_87 cls6 (show isK S 6 m from hM.k6) rfl rfl (Nat.le_of_ble_eq_true rfl) ⟨by decide, by decide, by decide, by decide⟩ dX5_distance_19 (fun _ _ h => h.elim) (fun v19 S19 h19 => ?_)
    obtain ⟨rfl, rfl⟩ := h19
    refine r_goto (pc := 22) (tgt := 30) hC dX5_distance_22 (by decide) ?_
    refine r_iret (pc := 30) hC hR dX5_distance_30 ?_ (by decide) (by decide)
    exact RQ.ok ((kd_t (c10)).trans (rfl)) (rfl) (MO.t0 hM)
abbrev rm_X5_openFor : Room := { frames := 2, cells := 0, slots := 0, locals := 42 }
set_option maxHeartbeats 4000000 in
set_option maxRecDepth 100000 in
theorem cq_openFor {l : Launch} {G : Ids} {S : Ps} {M : Nat → Nat} {σ : Sg} {m t : Nat} {p : Int32} (hfl : l.stackTraces = false) (hM : RM S M σ m t) (hV : InvC σ) : Ct l (Cond.code yX5_openFor cX5_openFor 2 (some .int)) yX5_openFor rm_X5_openFor G [.ref m, .int p] S (fun v S9 => RQ S [(1, inD σ p)] (.int (nI (lft σ (iN p)))) σ (σ) m v S9) (fun _ _ => False) := by
  refine Ct.of hfl (by decide) (Nat.le_of_ble_eq_true rfl) (fun Γ V hC hR hT hI => ?_)
  have hn := hV.n
  first | refine r_aload_n (pc := 0) hC dX5_openFor_0 rfl ?_ | refine r_aload_nN (pc := 0) hC dX5_openFor_0 rfl ?_
  refine r_iconst (pc := 1) (nI 0) hC dX5_openFor_1 (by decide) ?_
  refine r_pf (pc := 2) (κ := 6) (j := 0) hC cls6 (by decide) kf_X5_54 hM.k6 rfl rfl rfl dX5_openFor_2 ?_
  have hM0 := hM.th (v := 0)
  first | refine r_aload_n (pc := 5) hC dX5_openFor_5 rfl ?_ | refine r_aload_nN (pc := 5) hC dX5_openFor_5 rfl ?_
  refine r_iload_n (pc := 6) hC dX5_openFor_6 rfl ?_
  refine r_callV (pc := 7) hC (cm_isDoor hC.fl hM0 hV (p := p)) kv_X5_103 cls6 (show isK S 6 m from hM.k6) rfl rfl (Nat.le_of_ble_eq_true rfl) ⟨by decide, by decide, by decide, by decide⟩ dX5_openFor_7 (fun _ _ h => h.elim) (fun v7 S7 h7 => ?_)
  obtain ⟨rfl, rfl⟩ := h7
  first | refine rb_if_eq (pc := 10) (tgt := 21) hC dX5_openFor_10 (by decide) (fun c10 => ?_) (fun c10 => ?_) | refine rn_if_eq (pc := 10) (tgt := 21) hC dX5_openFor_10 (by decide) (by omega) (fun c10 => ?_) (fun c10 => ?_) | refine ri_if_eq (pc := 10) (tgt := 21) hC dX5_openFor_10 (by decide) (fun c10 => ?_) (fun c10 => ?_)
  · -- taken
    first | refine r_aload_n (pc := 21) hC dX5_openFor_21 rfl ?_ | refine r_aload_nN (pc := 21) hC dX5_openFor_21 rfl ?_
    refine r_iconst (pc := 22) (nI 1) hC dX5_openFor_22 (by decide) ?_
    refine r_callV (pc := 23) hC (cm_fail hC.fl hM0 hV (k := 1)) kv_X5_67 cls6 (show isK S 6 m from hM.k6) rfl rfl (Nat.le_of_ble_eq_true rfl) ⟨by decide, by decide, by decide, by decide⟩ dX5_openFor_23 (fun _ _ h => h.elim) (fun v23 S23 h23 => ?_)
    obtain ⟨rfl, hM9, hF9⟩ := h23
    refine r_iret (pc := 26) hC hR dX5_openFor_26 ?_ (by decide) (by decide)
    exact RQ.no (k := 1) (kd_f (c10)) (by decide) (rfl) (MO.of (fr_th hM) hF9 hM9)
  · -- not
    have hDp := inD_n c10
    have hdp := inD_d c10
    rw [show Value.int p = Value.int (nI (iN p)) by rw [nI_iN (by omega)]]
    first | refine r_aload_n (pc := 13) hC dX5_openFor_13 rfl ?_ | refine r_aload_nN (pc := 13) hC dX5_openFor_13 rfl ?_
    refine r_iload_n (pc := 14) hC dX5_openFor_14 rfl ?_
    refine r_callV (pc := 15) hC (cm_left hC.fl hM0 hV hDp) kv_X5_106 cls6 (show isK S 6 m from hM.k6) rfl rfl (Nat.le_of_ble_eq_true rfl) ⟨by decide, by decide, by decide, by decide⟩ dX5_openFor_15 (fun _ _ h => h.elim) (fun v15 S15 h15 => ?_)
    obtain ⟨rfl, rfl⟩ := h15
    refine r_goto (pc := 18) (tgt := 26) hC dX5_openFor_18 (by decide) ?_
    refine r_iret (pc := 26) hC hR dX5_openFor_26 ?_ (by decide) (by decide)
    exact RQ.ok ((kd_t (c10)).trans (rfl)) (rfl) (MO.t0 hM)
abbrev rm_X5_inside : Room := { frames := 1, cells := 0, slots := 0, locals := 23 }
set_option maxHeartbeats 4000000 in
set_option maxRecDepth 100000 in
theorem cq_inside {l : Launch} {G : Ids} {S : Ps} {M : Nat → Nat} {σ : Sg} {m t : Nat} {p : Int32} (hfl : l.stackTraces = false) (hM : RM S M σ m t) (hV : InvC σ) : Ct l (Cond.code yX5_inside cX5_inside 2 (some .int)) yX5_inside rm_X5_inside G [.ref m, .int p] S (fun v S9 => RQ S [(1, inZ σ p)] (.int (nI (insB σ (iN p)))) σ (σ) m v S9) (fun _ _ => False) := by
  refine Ct.of hfl (by decide) (Nat.le_of_ble_eq_true rfl) (fun Γ V hC hR hT hI => ?_)
  have hn := hV.n
  first | refine r_aload_n (pc := 0) hC dX5_inside_0 rfl ?_ | refine r_aload_nN (pc := 0) hC dX5_inside_0 rfl ?_
  refine r_iconst (pc := 1) (nI 0) hC dX5_inside_1 (by decide) ?_
  refine r_pf (pc := 2) (κ := 6) (j := 0) hC cls6 (by decide) kf_X5_54 hM.k6 rfl rfl rfl dX5_inside_2 ?_
  have hM0 := hM.th (v := 0)
  first | refine r_aload_n (pc := 5) hC dX5_inside_5 rfl ?_ | refine r_aload_nN (pc := 5) hC dX5_inside_5 rfl ?_
  refine r_iload_n (pc := 6) hC dX5_inside_6 rfl ?_
  refine r_callV (pc := 7) hC (cm_isZone hC.fl hM0 hV (p := p)) kv_X5_71 cls6 (show isK S 6 m from hM.k6) rfl rfl (Nat.le_of_ble_eq_true rfl) ⟨by decide, by decide, by decide, by decide⟩ dX5_inside_7 (fun _ _ h => h.elim) (fun v7 S7 h7 => ?_)
  obtain ⟨rfl, rfl⟩ := h7
  first | refine rb_if_eq (pc := 10) (tgt := 21) hC dX5_inside_10 (by decide) (fun c10 => ?_) (fun c10 => ?_) | refine rn_if_eq (pc := 10) (tgt := 21) hC dX5_inside_10 (by decide) (by omega) (fun c10 => ?_) (fun c10 => ?_) | refine ri_if_eq (pc := 10) (tgt := 21) hC dX5_inside_10 (by decide) (fun c10 => ?_) (fun c10 => ?_)
  · -- taken
    first | refine r_aload_n (pc := 21) hC dX5_inside_21 rfl ?_ | refine r_aload_nN (pc := 21) hC dX5_inside_21 rfl ?_
    refine r_iconst (pc := 22) (nI 1) hC dX5_inside_22 (by decide) ?_
    refine r_callV (pc := 23) hC (cm_fail hC.fl hM0 hV (k := 1)) kv_X5_67 cls6 (show isK S 6 m from hM.k6) rfl rfl (Nat.le_of_ble_eq_true rfl) ⟨by decide, by decide, by decide, by decide⟩ dX5_inside_23 (fun _ _ h => h.elim) (fun v23 S23 h23 => ?_)
    obtain ⟨rfl, hM9, hF9⟩ := h23
    refine r_iret (pc := 26) hC hR dX5_inside_26 ?_ (by decide) (by decide)
    exact RQ.no (k := 1) (kd_f (c10)) (by decide) (rfl) (MO.of (fr_th hM) hF9 hM9)
  · -- not
    have hZp := inZ_n c10
    have hdp := inZ_d c10
    rw [show Value.int p = Value.int (nI (iN p)) by rw [nI_iN (by omega)]]
    first | refine r_aload_n (pc := 13) hC dX5_inside_13 rfl ?_ | refine r_aload_nN (pc := 13) hC dX5_inside_13 rfl ?_
    refine r_iload_n (pc := 14) hC dX5_inside_14 rfl ?_
    refine r_callV (pc := 15) hC (cm_inside hC.fl hM0 hV hZp) kv_X5_75 cls6 (show isK S 6 m from hM.k6) rfl rfl (Nat.le_of_ble_eq_true rfl) ⟨by decide, by decide, by decide, by decide⟩ dX5_inside_15 (fun _ _ h => h.elim) (fun v15 S15 h15 => ?_)
    obtain ⟨rfl, rfl⟩ := h15
    refine r_goto (pc := 18) (tgt := 26) hC dX5_inside_18 (by decide) ?_
    refine r_iret (pc := 26) hC hR dX5_inside_26 ?_ (by decide) (by decide)
    exact RQ.ok ((kd_t (c10)).trans (rfl)) (rfl) (MO.t0 hM)
abbrev rm_X5_way : Room := { frames := 3, cells := 0, slots := 0, locals := 72 }
set_option maxHeartbeats 4000000 in
set_option maxRecDepth 100000 in
theorem cq_way {l : Launch} {G : Ids} {S : Ps} {M : Nat → Nat} {σ : Sg} {m t : Nat} {p q : Int32} (hfl : l.stackTraces = false) (hM : RM S M σ m t) (hV : InvC σ) : Ct l (Cond.code yX5_way cX5_way 3 (some .int)) yX5_way rm_X5_way G [.ref m, .int p, .int q] S (fun v S9 => RQ S [(1, inB σ p), (1, inZ σ q)] (.int (wayI σ (iN p) (iN q))) σ (σ) m v S9) (fun _ _ => False) := by
  refine Ct.of hfl (by decide) (Nat.le_of_ble_eq_true rfl) (fun Γ V hC hR hT hI => ?_)
  have hn := hV.n
  first | refine r_aload_n (pc := 0) hC dX5_way_0 rfl ?_ | refine r_aload_nN (pc := 0) hC dX5_way_0 rfl ?_
  refine r_iconst (pc := 1) (nI 0) hC dX5_way_1 (by decide) ?_
  refine r_pf (pc := 2) (κ := 6) (j := 0) hC cls6 (by decide) kf_X5_54 hM.k6 rfl rfl rfl dX5_way_2 ?_
  have hM0 := hM.th (v := 0)
  first | refine r_aload_n (pc := 5) hC dX5_way_5 rfl ?_ | refine r_aload_nN (pc := 5) hC dX5_way_5 rfl ?_
  refine r_iload_n (pc := 6) hC dX5_way_6 rfl ?_
  refine r_callV (pc := 7) hC (cm_isBadge hC.fl hM0 hV (p := p)) kv_X5_112 cls6 (show isK S 6 m from hM.k6) rfl rfl (Nat.le_of_ble_eq_true rfl) ⟨by decide, by decide, by decide, by decide⟩ dX5_way_7 (fun _ _ h => h.elim) (fun v7 S7 h7 => ?_)
  obtain ⟨rfl, rfl⟩ := h7
  first | refine rb_if_eq (pc := 10) (tgt := 30) hC dX5_way_10 (by decide) (fun c10 => ?_) (fun c10 => ?_) | refine rn_if_eq (pc := 10) (tgt := 30) hC dX5_way_10 (by decide) (by omega) (fun c10 => ?_) (fun c10 => ?_) | refine ri_if_eq (pc := 10) (tgt := 30) hC dX5_way_10 (by decide) (fun c10 => ?_) (fun c10 => ?_)
  · -- taken
    first | refine r_aload_n (pc := 30) hC dX5_way_30 rfl ?_ | refine r_aload_nN (pc := 30) hC dX5_way_30 rfl ?_
    refine r_iconst (pc := 31) (nI 1) hC dX5_way_31 (by decide) ?_
    refine r_callV (pc := 32) hC (cm_fail hC.fl hM0 hV (k := 1)) kv_X5_67 cls6 (show isK S 6 m from hM.k6) rfl rfl (Nat.le_of_ble_eq_true rfl) ⟨by decide, by decide, by decide, by decide⟩ dX5_way_32 (fun _ _ h => h.elim) (fun v32 S32 h32 => ?_)
    obtain ⟨rfl, hM9, hF9⟩ := h32
    refine r_iret (pc := 35) hC hR dX5_way_35 ?_ (by decide) (by decide)
    exact RQ.no (k := 1) (kd_f (c10)) (by decide) (rfl) (MO.of (fr_th hM) hF9 hM9)
  · -- not
    first | refine r_aload_n (pc := 13) hC dX5_way_13 rfl ?_ | refine r_aload_nN (pc := 13) hC dX5_way_13 rfl ?_
    refine r_iload_n (pc := 14) hC dX5_way_14 rfl ?_
    refine r_callV (pc := 15) hC (cm_isZone hC.fl hM0 hV (p := q)) kv_X5_71 cls6 (show isK S 6 m from hM.k6) rfl rfl (Nat.le_of_ble_eq_true rfl) ⟨by decide, by decide, by decide, by decide⟩ dX5_way_15 (fun _ _ h => h.elim) (fun v15 S15 h15 => ?_)
    obtain ⟨rfl, rfl⟩ := h15
    first | refine rb_if_eq (pc := 18) (tgt := 30) hC dX5_way_18 (by decide) (fun c18 => ?_) (fun c18 => ?_) | refine rn_if_eq (pc := 18) (tgt := 30) hC dX5_way_18 (by decide) (by omega) (fun c18 => ?_) (fun c18 => ?_) | refine ri_if_eq (pc := 18) (tgt := 30) hC dX5_way_18 (by decide) (fun c18 => ?_) (fun c18 => ?_)
    · -- taken
      first | refine r_aload_n (pc := 30) hC dX5_way_30 rfl ?_ | refine r_aload_nN (pc := 30) hC dX5_way_30 rfl ?_
      refine r_iconst (pc := 31) (nI 1) hC dX5_way_31 (by decide) ?_
      refine r_callV (pc := 32) hC (cm_fail hC.fl hM0 hV (k := 1)) kv_X5_67 cls6 (show isK S 6 m from hM.k6) rfl rfl (Nat.le_of_ble_eq_true rfl) ⟨by decide, by decide, by decide, by decide⟩ dX5_way_32 (fun _ _ h => h.elim) (fun v32 S32 h32 => ?_)
      obtain ⟨rfl, hM9, hF9⟩ := h32
      refine r_iret (pc := 35) hC hR dX5_way_35 ?_ (by decide) (by decide)
      exact RQ.no (k := 1) ((kd_t (c10)).trans (kd_f (c18))) (by decide) (rfl) (MO.of (fr_th hM) hF9 hM9)
    · -- not
      have hBp := inB_n c10
      have hdp := inB_d c10
      rw [show Value.int p = Value.int (nI (iN p)) by rw [nI_iN (by omega)]]
      have hZq := inZ_n c18
      have hdq := inZ_d c18
      rw [show Value.int q = Value.int (nI (iN q)) by rw [nI_iN (by omega)]]
      first | refine r_aload_n (pc := 21) hC dX5_way_21 rfl ?_ | refine r_aload_nN (pc := 21) hC dX5_way_21 rfl ?_
      refine r_iload_n (pc := 22) hC dX5_way_22 rfl ?_
      refine r_iload_n (pc := 23) hC dX5_way_23 rfl ?_
      refine r_callV (pc := 24) hC (cm_wayOf hC.fl hM0 hV hBp hZq) kv_X5_160 cls6 (show isK S 6 m from hM.k6) rfl rfl (Nat.le_of_ble_eq_true rfl) ⟨by decide, by decide, by decide, by decide⟩ dX5_way_24 (fun _ _ h => h.elim) (fun v24 S24 h24 => ?_)
      obtain ⟨rfl, rfl⟩ := h24
      refine r_goto (pc := 27) (tgt := 35) hC dX5_way_27 (by decide) ?_
      refine r_iret (pc := 35) hC hR dX5_way_35 ?_ (by decide) (by decide)
      exact RQ.ok ((kd_t (c10)).trans ((kd_t (c18)).trans (rfl))) (rfl) (MO.t0 hM)
abbrev rm_X5_now : Room := { frames := 0, cells := 0, slots := 0, locals := 0 }
set_option maxHeartbeats 4000000 in
set_option maxRecDepth 100000 in
theorem cq_now {l : Launch} {G : Ids} {S : Ps} {M : Nat → Nat} {σ : Sg} {m t : Nat} (hfl : l.stackTraces = false) (hM : RM S M σ m t) (hV : InvC σ) : Ct l (Cond.code yX5_now cX5_now 1 (some .int)) yX5_now rm_X5_now G [.ref m] S (fun v S9 => RQ S [] (.int (nI (mi σ))) σ (σ) m v S9) (fun _ _ => False) := by
  refine Ct.of hfl (by decide) (Nat.le_of_ble_eq_true rfl) (fun Γ V hC hR hT hI => ?_)
  have hn := hV.n
  first | refine r_aload_n (pc := 0) hC dX5_now_0 rfl ?_ | refine r_aload_nN (pc := 0) hC dX5_now_0 rfl ?_
  refine r_iconst (pc := 1) (nI 0) hC dX5_now_1 (by decide) ?_
  refine r_pf (pc := 2) (κ := 6) (j := 0) hC cls6 (by decide) kf_X5_54 hM.k6 rfl rfl rfl dX5_now_2 ?_
  have hM0 := hM.th (v := 0)
  first | refine r_aload_n (pc := 5) hC dX5_now_5 rfl ?_ | refine r_aload_nN (pc := 5) hC dX5_now_5 rfl ?_
  refine r_gf (pc := 6) (κ := 6) (j := 1) hC cls6 (by decide) kf_X5_91 hM0.k6 hM0.s1 dX5_now_6 ?_
  refine r_iret (pc := 9) hC hR dX5_now_9 ?_ (by decide) (by decide)
  exact RQ.ok (rfl) (rfl) (MO.t0 hM)
abbrev rm_X5_isOpen : Room := { frames := 1, cells := 0, slots := 0, locals := 22 }
set_option maxHeartbeats 4000000 in
set_option maxRecDepth 100000 in
theorem cq_isOpen {l : Launch} {G : Ids} {S : Ps} {M : Nat → Nat} {σ : Sg} {m t : Nat} {p : Int32} (hfl : l.stackTraces = false) (hM : RM S M σ m t) (hV : InvC σ) : Ct l (Cond.code yX5_isOpen cX5_isOpen 2 (some .boolean)) yX5_isOpen rm_X5_isOpen G [.ref m, .int p] S (fun v S9 => RQ S [(1, inZ σ p)] (.int (b2i (opn σ (iN p)))) σ (σ) m v S9) (fun _ _ => False) := by
  refine Ct.of hfl (by decide) (Nat.le_of_ble_eq_true rfl) (fun Γ V hC hR hT hI => ?_)
  have hn := hV.n
  first | refine r_aload_n (pc := 0) hC dX5_isOpen_0 rfl ?_ | refine r_aload_nN (pc := 0) hC dX5_isOpen_0 rfl ?_
  first | refine r_aload_n (pc := 1) hC dX5_isOpen_1 rfl ?_ | refine r_aload_nN (pc := 1) hC dX5_isOpen_1 rfl ?_
  refine r_iload_n (pc := 2) hC dX5_isOpen_2 rfl ?_
  refine r_callV (pc := 3) hC (cm_isZone hC.fl hM hV (p := p)) kv_X5_71 cls6 (show isK S 6 m from hM.k6) rfl rfl (Nat.le_of_ble_eq_true rfl) ⟨by decide, by decide, by decide, by decide⟩ dX5_isOpen_3 (fun _ _ h => h.elim) (fun v3 S3 h3 => ?_)
  obtain ⟨rfl, rfl⟩ := h3
  first | refine rb_if_eq (pc := 6) (tgt := 13) hC dX5_isOpen_6 (by decide) (fun c6 => ?_) (fun c6 => ?_) | refine rn_if_eq (pc := 6) (tgt := 13) hC dX5_isOpen_6 (by decide) (by omega) (fun c6 => ?_) (fun c6 => ?_) | refine ri_if_eq (pc := 6) (tgt := 13) hC dX5_isOpen_6 (by decide) (fun c6 => ?_) (fun c6 => ?_)
  · -- taken
    have hM0 := hM.th (v := 1)
    refine r_iconst (pc := 13) (nI 1) hC dX5_isOpen_13 (by decide) ?_
    refine r_pf (pc := 14) (κ := 6) (j := 0) hC cls6 (by decide) kf_X5_54 hM0.k6 rfl rfl rfl dX5_isOpen_14 ?_
    first | refine r_aload_n (pc := 17) hC dX5_isOpen_17 rfl ?_ | refine r_aload_nN (pc := 17) hC dX5_isOpen_17 rfl ?_
    refine r_gf (pc := 18) (κ := 6) (j := 0) hC cls6 (by decide) kf_X5_54 hM0.k6 hM0.s0 dX5_isOpen_18 ?_
    refine rn_if_ne (pc := 21) (tgt := 36) hC dX5_isOpen_21 (by decide) (by omega) (fun _ => ?_) (fun c => absurd c (by omega))
    refine r_iconst (pc := 36) (nI 0) hC dX5_isOpen_36 (by decide) ?_
    refine r_zret (pc := 37) hC hR dX5_isOpen_37 (by first | rfl | exact b2i_z _ | decide) ?_ (by decide) (by decide)
    exact RQ.no (k := 1) (kd_f (c6)) (by decide) (rfl) (⟨fr_th hM, M, hM0⟩)
  · -- not
    have hM0 := hM.th (v := 0)
    have hZp := inZ_n c6
    have hdp := inZ_d c6
    rw [show Value.int p = Value.int (nI (iN p)) by rw [nI_iN (by omega)]]
    refine r_iconst (pc := 9) (nI 0) hC dX5_isOpen_9 (by decide) ?_
    refine r_goto (pc := 10) (tgt := 14) hC dX5_isOpen_10 (by decide) ?_
    refine r_pf (pc := 14) (κ := 6) (j := 0) hC cls6 (by decide) kf_X5_54 hM0.k6 rfl rfl rfl dX5_isOpen_14 ?_
    first | refine r_aload_n (pc := 17) hC dX5_isOpen_17 rfl ?_ | refine r_aload_nN (pc := 17) hC dX5_isOpen_17 rfl ?_
    refine r_gf (pc := 18) (κ := 6) (j := 0) hC cls6 (by decide) kf_X5_54 hM0.k6 hM0.s0 dX5_isOpen_18 ?_
    refine rn_if_ne (pc := 21) (tgt := 36) hC dX5_isOpen_21 (by decide) (by omega) (fun c => absurd rfl c) (fun _ => ?_)
    first | refine r_aload_n (pc := 24) hC dX5_isOpen_24 rfl ?_ | refine r_aload_nN (pc := 24) hC dX5_isOpen_24 rfl ?_
    refine r_iload_n (pc := 25) hC dX5_isOpen_25 rfl ?_
    refine r_callV (pc := 26) hC (cm_open hC.fl hM0 hV hZp) kv_X5_94 cls6 (show isK S 6 m from hM.k6) rfl rfl (Nat.le_of_ble_eq_true rfl) ⟨by decide, by decide, by decide, by decide⟩ dX5_isOpen_26 (fun _ _ h => h.elim) (fun v26 S26 h26 => ?_)
    obtain ⟨rfl, rfl⟩ := h26
    first | refine rb_if_eq (pc := 29) (tgt := 36) hC dX5_isOpen_29 (by decide) (fun c29 => ?_) (fun c29 => ?_) | refine rn_if_eq (pc := 29) (tgt := 36) hC dX5_isOpen_29 (by decide) (by omega) (fun c29 => ?_) (fun c29 => ?_) | refine ri_if_eq (pc := 29) (tgt := 36) hC dX5_isOpen_29 (by decide) (fun c29 => ?_) (fun c29 => ?_)
    · -- taken
      refine r_iconst (pc := 36) (nI 0) hC dX5_isOpen_36 (by decide) ?_
      refine r_zret (pc := 37) hC hR dX5_isOpen_37 (by first | rfl | exact b2i_z _ | decide) ?_ (by decide) (by decide)
      exact RQ.ok ((kd_t (c6)).trans (rfl)) (ret_f c29) (MO.t0 hM)
    · -- not
      refine r_iconst (pc := 32) (nI 1) hC dX5_isOpen_32 (by decide) ?_
      refine r_goto (pc := 33) (tgt := 37) hC dX5_isOpen_33 (by decide) ?_
      refine r_zret (pc := 37) hC hR dX5_isOpen_37 (by first | rfl | exact b2i_z _ | decide) ?_ (by decide) (by decide)
      exact RQ.ok ((kd_t (c6)).trans (rfl)) (ret_t c29) (MO.t0 hM)
abbrev rm_X5_presence : Room := { frames := 1, cells := 0, slots := 0, locals := 23 }
set_option maxHeartbeats 4000000 in
set_option maxRecDepth 100000 in
theorem cq_presence {l : Launch} {G : Ids} {S : Ps} {M : Nat → Nat} {σ : Sg} {m t : Nat} (hfl : l.stackTraces = false) (hM : RM S M σ m t) (hV : InvC σ) : Ct l (Cond.code yX5_presence cX5_presence 1 (some .double)) yX5_presence rm_X5_presence G [.ref m] S (fun v S9 => RQ S [] (.double (pres σ)) σ (σ) m v S9) (fun _ _ => False) := by
  refine Ct.of hfl (by decide) (Nat.le_of_ble_eq_true rfl) (fun Γ V hC hR hT hI => ?_)
  have hn := hV.n
  have hi := popc_le _ (insB_lt hn.2.2.2.1 0)
  have hib := pop_nb (σ := σ) (z := 0) hn.2.2.2.1
  first | refine r_aload_n (pc := 0) hC dX5_presence_0 rfl ?_ | refine r_aload_nN (pc := 0) hC dX5_presence_0 rfl ?_
  refine r_iconst (pc := 1) (nI 0) hC dX5_presence_1 (by decide) ?_
  refine r_pf (pc := 2) (κ := 6) (j := 0) hC cls6 (by decide) kf_X5_54 hM.k6 rfl rfl rfl dX5_presence_2 ?_
  have hM0 := hM.th (v := 0)
  first | refine r_aload_n (pc := 5) hC dX5_presence_5 rfl ?_ | refine r_aload_nN (pc := 5) hC dX5_presence_5 rfl ?_
  refine r_gf (pc := 6) (κ := 6) (j := 12) hC cls6 (by decide) kf_X5_60 hM0.k6 hM0.s12 dX5_presence_6 ?_
  first | refine rb_if_ne (pc := 9) (tgt := 16) hC dX5_presence_9 (by decide) (fun c9 => ?_) (fun c9 => ?_) | refine rn_if_ne (pc := 9) (tgt := 16) hC dX5_presence_9 (by decide) (by omega) (fun c9 => ?_) (fun c9 => ?_) | refine ri_if_ne (pc := 9) (tgt := 16) hC dX5_presence_9 (by decide) (fun c9 => ?_) (fun c9 => ?_)
  · -- taken
    first | refine r_aload_n (pc := 16) hC dX5_presence_16 rfl ?_ | refine r_aload_nN (pc := 16) hC dX5_presence_16 rfl ?_
    refine r_gf (pc := 17) (κ := 6) (j := 12) hC cls6 (by decide) kf_X5_60 hM0.k6 hM0.s12 dX5_presence_17 ?_
    first | refine r_aload_n (pc := 20) hC dX5_presence_20 rfl ?_ | refine r_aload_nN (pc := 20) hC dX5_presence_20 rfl ?_
    refine r_iconst (pc := 21) (nI 0) hC dX5_presence_21 (by decide) ?_
    refine r_callV (pc := 22) hC (cm_inside hC.fl hM0 hV (z := 0) hn.1) kv_X5_75 cls6 (show isK S 6 m from hM.k6) rfl rfl (Nat.le_of_ble_eq_true rfl) ⟨by decide, by decide, by decide, by decide⟩ dX5_presence_22 (fun _ _ h => h.elim) (fun v22 S22 h22 => ?_)
    obtain ⟨rfl, rfl⟩ := h22
    refine r_callS (pc := 25) hC (ct_bitc hC.fl (insB_lt hn.2.2.2.1 0)) ks_X5_78 rfl rfl (Nat.le_of_ble_eq_true rfl) ⟨by decide, by decide, by decide, by decide⟩ dX5_presence_25 (fun _ _ h => h.elim) (fun v25 S25 h25 => ?_)
    obtain ⟨rfl, rfl⟩ := h25
    first | refine rn_isub (pc := 28) hC dX5_presence_28 (by omega) ?_ | refine r_isub (pc := 28) hC dX5_presence_28 ?_
    refine r_i2d (pc := 29) hC dX5_presence_29 ?_
    first | refine r_aload_n (pc := 30) hC dX5_presence_30 rfl ?_ | refine r_aload_nN (pc := 30) hC dX5_presence_30 rfl ?_
    refine r_gf (pc := 31) (κ := 6) (j := 12) hC cls6 (by decide) kf_X5_60 hM0.k6 hM0.s12 dX5_presence_31 ?_
    refine r_i2d (pc := 34) hC dX5_presence_34 ?_
    refine r_ddiv (pc := 35) hC dX5_presence_35 (pr_ok _ (by omega) _ (by omega) c9) ?_
    refine r_dret (pc := 36) hC hR dX5_presence_36 ?_ (by decide) (by decide)
    exact RQ.ok (rfl) (by unfold pres; rw [if_neg c9]) (MO.t0 hM)
  · -- not
    refine r_dconst0 (pc := 12) hC dX5_presence_12 ?_
    refine r_goto (pc := 13) (tgt := 36) hC dX5_presence_13 (by decide) ?_
    refine r_dret (pc := 36) hC hR dX5_presence_36 ?_ (by decide) (by decide)
    exact RQ.ok (rfl) (by unfold pres; rw [if_pos c9]) (MO.t0 hM)
