-- arguments from the script, as numbers
def iN (p : Int32) : Nat := p.toInt.toNat
theorem nI_iN {p : Int32} (h : 0 ≤ p.toInt) : nI (iN p) = p := by
  rw [i_eq, nI_toInt]
  · unfold iN; omega
  · have := Int32.toInt_lt p; unfold iN; omega
theorem iN_toInt {p : Int32} (h : 0 ≤ p.toInt) : ((iN p : Nat) : Int) = p.toInt := by unfold iN; omega
def inZ (σ : Sg) (p : Int32) : Bool := decide (0 ≤ p.toInt ∧ p.toInt < nz σ)
def inD (σ : Sg) (p : Int32) : Bool := decide (0 ≤ p.toInt ∧ p.toInt < nd σ)
def inB (σ : Sg) (p : Int32) : Bool := decide (0 ≤ p.toInt ∧ p.toInt < nb σ)
def wi (a b : Int) (p : Int32) : Bool := decide (a ≤ p.toInt ∧ p.toInt ≤ b)
def inH (p q r : Int32) : Bool := decide ((1 ≤ p.toInt ∧ p.toInt ≤ 20) ∧ (0 ≤ q.toInt ∧ q.toInt ≤ 1439) ∧ (0 ≤ r.toInt ∧ r.toInt ≤ 1440) ∧ q.toInt ≠ r.toInt)
def inE (p q h k : Int32) : Bool := decide (p.toInt ≠ q.toInt ∧ (0 ≤ h.toInt ∧ h.toInt ≤ 9) ∧ (0 ≤ k.toInt ∧ k.toInt ≤ 3))
theorem inZ_d {σ : Sg} {p : Int32} (h : inZ σ p = true) : 0 ≤ p.toInt ∧ p.toInt < nz σ := of_decide_eq_true h
theorem inD_d {σ : Sg} {p : Int32} (h : inD σ p = true) : 0 ≤ p.toInt ∧ p.toInt < nd σ := of_decide_eq_true h
theorem inB_d {σ : Sg} {p : Int32} (h : inB σ p = true) : 0 ≤ p.toInt ∧ p.toInt < nb σ := of_decide_eq_true h
theorem wi_d {a b : Int} {p : Int32} (h : wi a b p = true) : a ≤ p.toInt ∧ p.toInt ≤ b := of_decide_eq_true h
theorem inH_d {p q r : Int32} (h : inH p q r = true) : (1 ≤ p.toInt ∧ p.toInt ≤ 20) ∧ (0 ≤ q.toInt ∧ q.toInt ≤ 1439) ∧ (0 ≤ r.toInt ∧ r.toInt ≤ 1440) ∧ q.toInt ≠ r.toInt := of_decide_eq_true h
theorem inE_d {p q h k : Int32} (c : inE p q h k = true) : p.toInt ≠ q.toInt ∧ (0 ≤ h.toInt ∧ h.toInt ≤ 9) ∧ (0 ≤ k.toInt ∧ k.toInt ≤ 3) := of_decide_eq_true c
theorem wi_f {a b : Int} {p : Int32} (h : wi a b p = false) : ¬ (a ≤ p.toInt ∧ p.toInt ≤ b) := of_decide_eq_false h
theorem inZ_n {σ : Sg} {p : Int32} (h : inZ σ p = true) : iN p < nz σ := by have := inZ_d h; unfold iN; omega
theorem inD_n {σ : Sg} {p : Int32} (h : inD σ p = true) : iN p < nd σ := by have := inD_d h; unfold iN; omega
theorem inB_n {σ : Sg} {p : Int32} (h : inB σ p = true) : iN p < nb σ := by have := inB_d h; unfold iN; omega
abbrev eIOB : String := "java/lang/IndexOutOfBoundsException"
abbrev eIAE : String := "java/lang/IllegalArgumentException"
abbrev eISE : String := "java/lang/IllegalStateException"
-- what the constructors leave
def zI (S : Ps) (a : Nat) (v0 v1 v2 v3 : Int32) : Ps := sF (sF (sF (sF (sF (sF S 4 a (.int (nI 0))) 5 a (.int (-1))) 0 a (.int v0)) 1 a (.int v1)) 2 a (.int v2)) 3 a (.int v3)
def dI9 (S : Ps) (a p q : Nat) (v2 v3 : Int32) : Ps := sF (sF (sF (sF (sF S 4 a (.int (nI 0))) 0 a (.ref p)) 1 a (.ref q)) 2 a (.int v2)) 3 a (.int v3)
def sI9 (S : Ps) (a z : Nat) (v : Int32) : Ps := sF (sF S 0 a (.ref z)) 1 a (.int v)
theorem zI_fr {S : Ps} {a : Nat} {v0 v1 v2 v3 : Int32} : Fr (fun q => q = a) S (zI S a v0 v1 v2 v3) := (Fr.sF (P := fun q => q = a) (fun _ => Eq.refl _)).trans ((Fr.sF (P := fun q => q = a) (fun _ => Eq.refl _)).trans ((Fr.sF (P := fun q => q = a) (fun _ => Eq.refl _)).trans ((Fr.sF (P := fun q => q = a) (fun _ => Eq.refl _)).trans ((Fr.sF (P := fun q => q = a) (fun _ => Eq.refl _)).trans (Fr.sF (P := fun q => q = a) (fun _ => Eq.refl _))))))
theorem dI9_fr {S : Ps} {a p q : Nat} {v2 v3 : Int32} : Fr (fun q => q = a) S (dI9 S a p q v2 v3) := (Fr.sF (P := fun q => q = a) (fun _ => Eq.refl _)).trans ((Fr.sF (P := fun q => q = a) (fun _ => Eq.refl _)).trans ((Fr.sF (P := fun q => q = a) (fun _ => Eq.refl _)).trans ((Fr.sF (P := fun q => q = a) (fun _ => Eq.refl _)).trans (Fr.sF (P := fun q => q = a) (fun _ => Eq.refl _)))))
theorem sI9_fr {S : Ps} {a z : Nat} {v : Int32} : Fr (fun q => q = a) S (sI9 S a z v) := (Fr.sF (P := fun q => q = a) (fun _ => Eq.refl _)).trans (Fr.sF (P := fun q => q = a) (fun _ => Eq.refl _))
theorem zI_F {S : Ps} {a : Nat} {v0 v1 v2 v3 : Int32} : pF (zI S a v0 v1 v2 v3) 0 a = .int v0 ∧ pF (zI S a v0 v1 v2 v3) 1 a = .int v1 ∧ pF (zI S a v0 v1 v2 v3) 2 a = .int v2 ∧ pF (zI S a v0 v1 v2 v3) 3 a = .int v3 := by
  unfold zI; simp [pF_sF]
theorem dI9_F {S : Ps} {a p q : Nat} {v2 v3 : Int32} : pF (dI9 S a p q v2 v3) 0 a = .ref p ∧ pF (dI9 S a p q v2 v3) 1 a = .ref q ∧ pF (dI9 S a p q v2 v3) 2 a = .int v2 ∧ pF (dI9 S a p q v2 v3) 3 a = .int v3 ∧ pF (dI9 S a p q v2 v3) 4 a = .int (nI 0) := by
  unfold dI9; simp [pF_sF]
theorem sI9_F {S : Ps} {a z : Nat} {v : Int32} : pF (sI9 S a z v) 0 a = .ref z ∧ pF (sI9 S a z v) 1 a = .int v := by
  unfold sI9; simp [pF_sF]
/-- a new address is none of the old -/
theorem fr_new {S S' : Ps} {a : Nat} (h : Fr (fun q => q = a) S S') (ha : a ∉ pL S) : Fr (fun _ => False) S S' := h.mono (fun _ hb q => ha (q ▸ hb))
theorem fr_newO {S S' : Ps} {a k : Nat} (h : Fr (fun q => q = a) (nwO S a k) S') (ha : a ∉ pL S) : Fr (fun _ => False) S S' := fr_new ((Fr.nwO (P := fun q => q = a) ha).trans h) ha
theorem fr_any {P : Nat → Prop} {S S' : Ps} (h : Fr (fun _ => False) S S') : Fr P S S' := h.mono (fun _ _ q => q.elim)
theorem RC.n7 {G : Ids} {S : Ps} {Y : Lay} {σ : Sg} {x k q j : Nat} (h : RC G S Y σ x) (he : G.2.2.1 ∉ pL S) (hj : j < 3 + nb σ) (hq : isK S k q) (hk : k ≠ 9) : q ≠ Y 7 j := fun e => isK_ne hq (h.k7 hj (fun z => he (z ▸ e ▸ hq.1))) hk e
theorem RC.n3 {G : Ids} {S : Ps} {Y : Lay} {σ : Sg} {x k q j : Nat} (h : RC G S Y σ x) (hj : j < 3 + nb σ) (hq : isK S k q) (hk : k ≠ 0) : q ≠ Y 3 j := isK_ne hq (h.kl hj) hk
/-- where a badge goes in: the stay that goes on is changed, or another begins -/
def psS (σ : Sg) (b z : Nat) : Sg := if sys σ b (ns σ b - 1) = mi σ then stR σ b z else adS σ b z
/-- the class's objects after a call -/
def CO (G : Ids) (S S9 : Ps) (σ' : Sg) (x : Nat) : Prop := Fr (cP S) S S9 ∧ ∃ Y', RC G S9 Y' σ' x
def rfS (σ : Sg) (b : Nat) : Sg := if rfs σ b + 1 < 3 then up σ 14 b (rfs σ b + 1) else up (up σ 14 b (rfs σ b + 1)) 13 b 1
abbrev rm_X3_init : Room := { frames := 1, cells := 0, slots := 0, locals := 20 }
abbrev rm_X1_init : Room := { frames := 1, cells := 0, slots := 0, locals := 20 }
abbrev rm_X2_init : Room := { frames := 1, cells := 0, slots := 0, locals := 20 }
set_option maxHeartbeats 4000000 in
set_option maxRecDepth 100000 in
theorem ct_zinit {l : Launch} {G : Ids} {S : Ps} {a : Nat} {v0 v1 v2 v3 : Int32} (hfl : l.stackTraces = false) (ha : isK S 4 a) : Ct l (Cond.code yX3_init cX3_init 5 none) yX3_init rm_X3_init G [.ref a, .int v0, .int v1, .int v2, .int v3] S (fun v S9 => v = none ∧ S9 = zI S a v0 v1 v2 v3) (fun _ _ => False) := by
  refine Ct.of hfl (by decide) (Nat.le_of_ble_eq_true rfl) (fun Γ V hC hR hT hI => ?_)
  first | refine r_aload_n (pc := 0) hC dX3_init_0 rfl ?_ | refine r_aload_nN (pc := 0) hC dX3_init_0 rfl ?_
  refine r_objInit (pc := 1) hC ko_X3_3 (Nat.le_of_ble_eq_true rfl) (by decide) dX3_init_1 ?_
  first | refine r_aload_n (pc := 4) hC dX3_init_4 rfl ?_ | refine r_aload_nN (pc := 4) hC dX3_init_4 rfl ?_
  refine r_iconst (pc := 5) (nI 0) hC dX3_init_5 (by decide) ?_
  refine r_pf (pc := 6) (κ := 4) (j := 4) hC cls4 (by decide) kf_X3_9 ha rfl rfl rfl dX3_init_6 ?_
  first | refine r_aload_n (pc := 9) hC dX3_init_9 rfl ?_ | refine r_aload_nN (pc := 9) hC dX3_init_9 rfl ?_
  refine r_iconst (pc := 10) (-1) hC dX3_init_10 (by decide) ?_
  refine r_pf (pc := 11) (κ := 4) (j := 5) hC cls4 (by decide) kf_X3_15 ha rfl rfl rfl dX3_init_11 ?_
  first | refine r_aload_n (pc := 14) hC dX3_init_14 rfl ?_ | refine r_aload_nN (pc := 14) hC dX3_init_14 rfl ?_
  refine r_iload_n (pc := 15) hC dX3_init_15 rfl ?_
  refine r_pfF (pc := 16) (κ := 4) (j := 0) hC cls4 (by decide) kf_X3_19 ha rfl hI rfl rfl rfl dX3_init_16 ?_
  first | refine r_aload_n (pc := 19) hC dX3_init_19 rfl ?_ | refine r_aload_nN (pc := 19) hC dX3_init_19 rfl ?_
  refine r_iload_n (pc := 20) hC dX3_init_20 rfl ?_
  refine r_pf (pc := 21) (κ := 4) (j := 1) hC cls4 (by decide) kf_X3_22 ha rfl rfl rfl dX3_init_21 ?_
  first | refine r_aload_n (pc := 24) hC dX3_init_24 rfl ?_ | refine r_aload_nN (pc := 24) hC dX3_init_24 rfl ?_
  refine r_iload_n (pc := 25) hC dX3_init_25 rfl ?_
  refine r_pf (pc := 26) (κ := 4) (j := 2) hC cls4 (by decide) kf_X3_25 ha rfl rfl rfl dX3_init_26 ?_
  first | refine r_aload_n (pc := 29) hC dX3_init_29 rfl ?_ | refine r_aload_nN (pc := 29) hC dX3_init_29 rfl ?_
  refine r_iload (pc := 30) hC dX3_init_30 rfl ?_
  refine r_pf (pc := 32) (κ := 4) (j := 3) hC cls4 (by decide) kf_X3_28 ha rfl rfl rfl dX3_init_32 ?_
  refine r_vret (pc := 35) hC hR dX3_init_35 ?_ (by decide) (by decide)
  exact ⟨rfl, rfl⟩
set_option maxHeartbeats 4000000 in
set_option maxRecDepth 100000 in
theorem ct_dinit {l : Launch} {G : Ids} {S : Ps} {a p q : Nat} {v2 v3 : Int32} (hfl : l.stackTraces = false) (ha : isK S 2 a) : Ct l (Cond.code yX1_init cX1_init 5 none) yX1_init rm_X1_init G [.ref a, .ref p, .ref q, .int v2, .int v3] S (fun v S9 => v = none ∧ S9 = dI9 S a p q v2 v3) (fun _ _ => False) := by
  refine Ct.of hfl (by decide) (Nat.le_of_ble_eq_true rfl) (fun Γ V hC hR hT hI => ?_)
  first | refine r_aload_n (pc := 0) hC dX1_init_0 rfl ?_ | refine r_aload_nN (pc := 0) hC dX1_init_0 rfl ?_
  refine r_objInit (pc := 1) hC ko_X1_3 (Nat.le_of_ble_eq_true rfl) (by decide) dX1_init_1 ?_
  first | refine r_aload_n (pc := 4) hC dX1_init_4 rfl ?_ | refine r_aload_nN (pc := 4) hC dX1_init_4 rfl ?_
  refine r_iconst (pc := 5) (nI 0) hC dX1_init_5 (by decide) ?_
  refine r_pf (pc := 6) (κ := 2) (j := 4) hC cls2 (by decide) kf_X1_9 ha rfl rfl rfl dX1_init_6 ?_
  first | refine r_aload_n (pc := 9) hC dX1_init_9 rfl ?_ | refine r_aload_nN (pc := 9) hC dX1_init_9 rfl ?_
  first | refine r_aload_n (pc := 10) hC dX1_init_10 rfl ?_ | refine r_aload_nN (pc := 10) hC dX1_init_10 rfl ?_
  refine r_pfF (pc := 11) (κ := 2) (j := 0) hC cls2 (by decide) kf_X1_15 ha rfl hI rfl rfl rfl dX1_init_11 ?_
  first | refine r_aload_n (pc := 14) hC dX1_init_14 rfl ?_ | refine r_aload_nN (pc := 14) hC dX1_init_14 rfl ?_
  first | refine r_aload_n (pc := 15) hC dX1_init_15 rfl ?_ | refine r_aload_nN (pc := 15) hC dX1_init_15 rfl ?_
  refine r_pfF (pc := 16) (κ := 2) (j := 1) hC cls2 (by decide) kf_X1_19 ha rfl hI rfl rfl rfl dX1_init_16 ?_
  first | refine r_aload_n (pc := 19) hC dX1_init_19 rfl ?_ | refine r_aload_nN (pc := 19) hC dX1_init_19 rfl ?_
  refine r_iload_n (pc := 20) hC dX1_init_20 rfl ?_
  refine r_pfF (pc := 21) (κ := 2) (j := 2) hC cls2 (by decide) kf_X1_22 ha rfl hI rfl rfl rfl dX1_init_21 ?_
  first | refine r_aload_n (pc := 24) hC dX1_init_24 rfl ?_ | refine r_aload_nN (pc := 24) hC dX1_init_24 rfl ?_
  refine r_iload (pc := 25) hC dX1_init_25 rfl ?_
  refine r_pfF (pc := 27) (κ := 2) (j := 3) hC cls2 (by decide) kf_X1_25 ha rfl hI rfl rfl rfl dX1_init_27 ?_
  refine r_vret (pc := 30) hC hR dX1_init_30 ?_ (by decide) (by decide)
  exact ⟨rfl, rfl⟩
set_option maxHeartbeats 4000000 in
set_option maxRecDepth 100000 in
theorem ct_sinit {l : Launch} {G : Ids} {S : Ps} {a z : Nat} {v : Int32} (hfl : l.stackTraces = false) (ha : isK S 3 a) : Ct l (Cond.code yX2_init cX2_init 3 none) yX2_init rm_X2_init G [.ref a, .ref z, .int v] S (fun v9 S9 => v9 = none ∧ S9 = sI9 S a z v) (fun _ _ => False) := by
  refine Ct.of hfl (by decide) (Nat.le_of_ble_eq_true rfl) (fun Γ V hC hR hT hI => ?_)
  first | refine r_aload_n (pc := 0) hC dX2_init_0 rfl ?_ | refine r_aload_nN (pc := 0) hC dX2_init_0 rfl ?_
  refine r_objInit (pc := 1) hC ko_X2_1 (Nat.le_of_ble_eq_true rfl) (by decide) dX2_init_1 ?_
  first | refine r_aload_n (pc := 4) hC dX2_init_4 rfl ?_ | refine r_aload_nN (pc := 4) hC dX2_init_4 rfl ?_
  first | refine r_aload_n (pc := 5) hC dX2_init_5 rfl ?_ | refine r_aload_nN (pc := 5) hC dX2_init_5 rfl ?_
  refine r_pf (pc := 6) (κ := 3) (j := 0) hC cls3 (by decide) kf_X2_7 ha rfl rfl rfl dX2_init_6 ?_
  first | refine r_aload_n (pc := 9) hC dX2_init_9 rfl ?_ | refine r_aload_nN (pc := 9) hC dX2_init_9 rfl ?_
  refine r_iload_n (pc := 10) hC dX2_init_10 rfl ?_
  refine r_pfF (pc := 11) (κ := 3) (j := 1) hC cls3 (by decide) kf_X2_13 ha rfl hI rfl rfl rfl dX2_init_11 ?_
  refine r_vret (pc := 14) hC hR dX2_init_14 ?_ (by decide) (by decide)
  exact ⟨rfl, rfl⟩
set_option maxHeartbeats 4000000 in
set_option maxRecDepth 100000 in
theorem ct_refuse {l : Launch} {G : Ids} {S : Ps} {Y : Lay} {σ : Sg} {x b : Nat} (hfl : l.stackTraces = false) (hZ : RC G S Y σ x) (hV : InvC σ) (hb : b < nb σ) : Ct l (Cond.code yX0_countRefusal cX0_countRefusal 1 none) yX0_countRefusal rm_X0_countRefusal G [.ref (Y 2 b)] S (fun v S9 => v = none ∧ RC G S9 Y (rfS σ b) x ∧ Fr (cP S) S S9) (fun _ _ => False) := by
  refine Ct.of hfl (by decide) (Nat.le_of_ble_eq_true rfl) (fun Γ V hC hR hT hI => ?_)
  have hb2 := hV.vb hb
  first | refine r_aload_n (pc := 0) hC dX0_countRefusal_0 rfl ?_ | refine r_aload_nN (pc := 0) hC dX0_countRefusal_0 rfl ?_
  refine r_dup (pc := 1) hC dX0_countRefusal_1 rfl ?_
  refine r_gf (pc := 2) (κ := 1) (j := 6) hC cls1 (by decide) kf_X0_22 (hZ.kb (by assumption)) (hZ.b6 (by assumption)) dX0_countRefusal_2 ?_
  refine r_iconst (pc := 5) (nI 1) hC dX0_countRefusal_5 (by decide) ?_
  first | refine rn_iadd (pc := 6) hC dX0_countRefusal_6 ?_ | refine r_iadd (pc := 6) hC dX0_countRefusal_6 ?_
  refine r_pf (pc := 7) (κ := 1) (j := 6) hC cls1 (by decide) kf_X0_22 (hZ.kb (by assumption)) rfl rfl rfl dX0_countRefusal_7 ?_
  first | refine r_aload_n (pc := 10) hC dX0_countRefusal_10 rfl ?_ | refine r_aload_nN (pc := 10) hC dX0_countRefusal_10 rfl ?_
  refine r_gf (pc := 11) (κ := 1) (j := 6) hC cls1 (by decide) kf_X0_22 (isK_sF.mpr (hZ.kb hb)) (pF_sF_eq _ _ _ _) dX0_countRefusal_11 ?_
  refine r_iconst (pc := 14) (nI 3) hC dX0_countRefusal_14 (by decide) ?_
  first | refine rn_icmp_lt (pc := 15) (tgt := 23) hC dX0_countRefusal_15 (by decide) (by omega) (by omega) (fun c15 => ?_) (fun c15 => ?_) | refine ri_icmp_lt (pc := 15) (tgt := 23) hC dX0_countRefusal_15 (by decide) (fun c15 => ?_) (fun c15 => ?_)
  · -- taken
    refine r_vret (pc := 23) hC hR dX0_countRefusal_23 ?_ (by decide) (by decide)
    exact ⟨rfl, by unfold rfS; rw [if_pos c15]; exact (hZ.uB6 hb), (Fr.sF (fun _ => Or.inl (by rw [(hZ.kb hb).2]; decide)))⟩
  · -- not
    first | refine r_aload_n (pc := 18) hC dX0_countRefusal_18 rfl ?_ | refine r_aload_nN (pc := 18) hC dX0_countRefusal_18 rfl ?_
    refine r_iconst (pc := 19) (nI 1) hC dX0_countRefusal_19 (by decide) ?_
    refine r_pf (pc := 20) (κ := 1) (j := 5) hC cls1 (by decide) kf_X0_18 (isK_sF.mpr (hZ.kb hb)) rfl rfl rfl dX0_countRefusal_20 ?_
    refine r_vret (pc := 23) hC hR dX0_countRefusal_23 ?_ (by decide) (by decide)
    refine ⟨rfl, by unfold rfS; rw [if_neg c15]; exact ((hZ.uB6 (v := rfs σ b + 1) hb).uB5 (v := 1) hb), ?_⟩
    exact Fr.trans (Fr.sF (fun _ => Or.inl (by rw [(hZ.kb hb).2]; decide))) (Fr.sF (fun _ => Or.inl (by rw [(hZ.kb hb).2]; decide)))
set_option maxHeartbeats 4000000 in
set_option maxRecDepth 100000 in
theorem ct_openAt {l : Launch} {G : Ids} {S : Ps} {Y : Lay} {σ : Sg} {x d : Nat} (hfl : l.stackTraces = false) (hZ : RC G S Y σ x) (hV : InvC σ) (hd : d < nd σ) : Ct l (Cond.code yX1_openAt cX1_openAt 2 none) yX1_openAt rm_X1_openAt G [.ref (Y 1 d), .int (nI (mi σ))] S (fun v S9 => v = none ∧ RC G S9 Y (up σ 9 d (mi σ + hold σ d)) x ∧ Fr (cP S) S S9) (fun _ _ => False) := by
  refine Ct.of hfl (by decide) (Nat.le_of_ble_eq_true rfl) (fun Γ V hC hR hT hI => ?_)
  first | refine r_aload_n (pc := 0) hC dX1_openAt_0 rfl ?_ | refine r_aload_nN (pc := 0) hC dX1_openAt_0 rfl ?_
  refine r_iload_n (pc := 1) hC dX1_openAt_1 rfl ?_
  first | refine r_aload_n (pc := 2) hC dX1_openAt_2 rfl ?_ | refine r_aload_nN (pc := 2) hC dX1_openAt_2 rfl ?_
  refine r_gf (pc := 3) (κ := 2) (j := 2) hC cls2 (by decide) kf_X1_22 (hZ.kd (by assumption)) (hZ.d2 (by assumption)) dX1_openAt_3 ?_
  first | refine rn_iadd (pc := 6) hC dX1_openAt_6 ?_ | refine r_iadd (pc := 6) hC dX1_openAt_6 ?_
  refine r_pf (pc := 7) (κ := 2) (j := 4) hC cls2 (by decide) kf_X1_9 (hZ.kd (by assumption)) rfl rfl rfl dX1_openAt_7 ?_
  refine r_vret (pc := 10) hC hR dX1_openAt_10 ?_ (by decide) (by decide)
  exact ⟨rfl, hZ.uD4 hd, Fr.sF (fun _ => Or.inl (by rw [(hZ.kd hd).2]; decide))⟩
abbrev rm_X0_enter : Room := { frames := 7, cells := 3, slots := 812, locals := 171 }
set_option maxHeartbeats 4000000 in
set_option maxRecDepth 100000 in
theorem ct_enter {l : Launch} {G : Ids} {S : Ps} {Y : Lay} {σ : Sg} {x b z n : Nat} (hfl : l.stackTraces = false) (hZ : RC G S Y σ x) (hV : InvC σ) (hb : b < nb σ) (hz : z < nz σ) (hS : InvS σ n) (hn5 : n ≤ 511) : Ct l (Cond.code yX0_enter cX0_enter 3 none) yX0_enter rm_X0_enter G [.ref (Y 2 b), .ref (Y 0 z), .int (nI (mi σ))] S (fun v S9 => v = none ∧ Fr (cP S) S S9 ∧ ∃ Y2, RC G S9 Y2 (psS σ b z) x ∧ Y2 0 = Y 0 ∧ Y2 1 = Y 1 ∧ Y2 2 = Y 2) (fun _ _ => False) := by
  refine Ct.of hfl (by decide) (Nat.le_of_ble_eq_true rfl) (fun Γ V hC hR hT hI => ?_)
  have hS0 := hS b hb
  have hn := hV.n
  refine at_know hC (fun he => ?_)
  first | refine r_aload_n (pc := 0) hC dX0_enter_0 rfl ?_ | refine r_aload_nN (pc := 0) hC dX0_enter_0 rfl ?_
  refine r_gf (pc := 1) (κ := 1) (j := 3) hC cls1 (by decide) kf_X0_41 (hZ.kb (by assumption)) (hZ.b3 (by assumption)) dX0_enter_1 ?_
  refine r_gf (pc := 4) (κ := 3) (j := 1) hC cls3 (by decide) kf_X0_60 (hZ.c (by assumption)) (hZ.c1 (by assumption)) dX0_enter_4 ?_
  refine r_iload_n (pc := 7) hC dX0_enter_7 rfl ?_
  first | refine rn_icmp_eq (pc := 8) (tgt := 24) hC dX0_enter_8 (by decide) (by omega) (by omega) (fun c8 => ?_) (fun c8 => ?_) | refine ri_icmp_eq (pc := 8) (tgt := 24) hC dX0_enter_8 (by decide) (fun c8 => ?_) (fun c8 => ?_)
  · -- taken
    first | refine r_aload_n (pc := 24) hC dX0_enter_24 rfl ?_ | refine r_aload_nN (pc := 24) hC dX0_enter_24 rfl ?_
    refine r_gf (pc := 25) (κ := 1) (j := 3) hC cls1 (by decide) kf_X0_41 (hZ.kb (by assumption)) (hZ.b3 (by assumption)) dX0_enter_25 ?_
    first | refine r_aload_n (pc := 28) hC dX0_enter_28 rfl ?_ | refine r_aload_nN (pc := 28) hC dX0_enter_28 rfl ?_
    refine r_pf (pc := 29) (κ := 3) (j := 0) hC cls3 (by decide) kf_X0_56 (hZ.c hb) rfl rfl rfl dX0_enter_29 ?_
    refine r_vret (pc := 32) hC hR dX0_enter_32 ?_ (by decide) (by decide)
    exact ⟨rfl, Fr.sF (fun _ => Or.inl (by rw [(hZ.c hb).2]; decide)), Y, by unfold psS; rw [if_pos c8]; exact hZ.uS hb hn.2.2.2.1, rfl, rfl, rfl⟩
  · -- not
    first | refine r_aload_n (pc := 11) hC dX0_enter_11 rfl ?_ | refine r_aload_nN (pc := 11) hC dX0_enter_11 rfl ?_
    refine r_gf (pc := 12) (κ := 1) (j := 2) hC cls1 (by decide) kf_X0_12 (hZ.kb (by assumption)) (hZ.b2 (by assumption)) dX0_enter_12 ?_
    refine r_callV (pc := 15) hC (ct_size hC.fl (hZ.lst hb)) kv_X0_63 cls0 (hZ.lst hb).1 rfl rfl (Nat.le_of_ble_eq_true rfl) ⟨by decide, by decide, by decide, by decide⟩ dX0_enter_15 (fun _ _ h => h.elim) (fun v15 S15 h15 => ?_)
    obtain ⟨rfl, rfl⟩ := h15
    refine r_sipush (pc := 18) (nI 513) hC dX0_enter_18 (by decide) ?_
    first | refine rn_icmp_lt (pc := 21) (tgt := 33) hC dX0_enter_21 (by decide) (by omega) (by omega) (fun c21 => ?_) (fun c21 => ?_) | refine ri_icmp_lt (pc := 21) (tgt := 33) hC dX0_enter_21 (by decide) (fun c21 => ?_) (fun c21 => ?_)
    · -- taken
      first | refine r_aload_n (pc := 33) hC dX0_enter_33 rfl ?_ | refine r_aload_nN (pc := 33) hC dX0_enter_33 rfl ?_
      refine r_new (pc := 34) hC cls3 kc_X0_36 kn_X2 (by decide) (by decide) (by decide) dX0_enter_34 (fun a34 hf34 => ?_)
      refine r_dup (pc := 37) hC dX0_enter_37 rfl ?_
      first | refine r_aload_n (pc := 38) hC dX0_enter_38 rfl ?_ | refine r_aload_nN (pc := 38) hC dX0_enter_38 rfl ?_
      refine r_iload_n (pc := 39) hC dX0_enter_39 rfl ?_
      refine r_callI (pc := 40) hC (ct_sinit hC.fl (isK_nwO' (k := 3))) ki_X0_38 rfl rfl (Nat.le_of_ble_eq_true rfl) ⟨by decide, by decide, by decide, by decide⟩ dX0_enter_40 (fun _ _ h => h.elim) (fun v40 S40 h40 => ?_)
      obtain ⟨rfl, rfl⟩ := h40
      have F1 : Fr (fun _ => False) S (sI9 (nwO S a34 3) a34 (Y 0 z) (nI (mi σ))) := fr_newO sI9_fr hf34
      have hZ1 := hZ.fr0 F1
      have hka : isK (sI9 (nwO S a34 3) a34 (Y 0 z) (nI (mi σ))) 3 a34 := isK_nwO'
      refine r_pf (pc := 43) (κ := 1) (j := 3) hC cls1 (by decide) kf_X0_41 (F1.K (hZ.kb hb)) rfl rfl rfl dX0_enter_43 ?_
      first | refine r_aload_n (pc := 46) hC dX0_enter_46 rfl ?_ | refine r_aload_nN (pc := 46) hC dX0_enter_46 rfl ?_
      refine r_gf (pc := 47) (κ := 1) (j := 2) hC cls1 (by decide) kf_X0_12 (isK_sF.mpr (F1.K (hZ.kb hb))) ((pF_sF_j _ _ _ _ (by decide)).trans (hZ1.b2 hb)) dX0_enter_47 ?_
      first | refine r_aload_n (pc := 50) hC dX0_enter_50 rfl ?_ | refine r_aload_nN (pc := 50) hC dX0_enter_50 rfl ?_
      refine r_gf (pc := 51) (κ := 1) (j := 3) hC cls1 (by decide) kf_X0_41 (isK_sF.mpr (F1.K (hZ.kb hb))) (pF_sF_eq _ _ _ _) dX0_enter_51 ?_
      refine r_callV (pc := 54) hC (ct_add hC.fl ((hZ1.lst hb).sF (v := .ref a34) (j := 3) (F1.K (hZ.kb hb)) (by decide)) (by omega) (isK_sF.mpr hka) cls3 kt_X2) kv_X0_45 cls0 (isK_sF.mpr (hZ1.lst hb).1) rfl rfl (Nat.le_of_ble_eq_true rfl) ⟨by decide, by decide, by decide, by decide⟩ dX0_enter_54 (fun _ _ h => h.elim) (fun v54 S54 h54 => ?_)
      obtain ⟨rfl, r2, hA1, hA2, hA3, hA4⟩ := h54
      refine at_know hC (fun heS0 => ?_)
      have heS : G.2.2.1 ∉ pL (sF (sI9 (nwO S a34 3) a34 (Y 0 z) (nI (mi σ))) 3 (Y 2 b) (.ref a34)) := fun q => heS0 (hA4 _ q).1
      refine r_pop (pc := 57) hC dX0_enter_57 rfl ?_
      refine r_vret (pc := 58) hC hR dX0_enter_58 ?_ (by decide) (by decide)
      have hn7 := hZ.n7 he (j := 3 + b) (by omega) (hZ.kb hb) (by decide)
      have hn3 := hZ.n3 (j := 3 + b) (by omega) (hZ.kb hb) (by decide)
      have hk43 : isK (sF (sI9 (nwO S a34 3) a34 (Y 0 z) (nI (mi σ))) 3 (Y 2 b) (.ref a34)) 1 (Y 2 b) := isK_sF.mpr (F1.K (hZ.kb hb))
      have hs43 : isK (sF (sI9 (nwO S a34 3) a34 (Y 0 z) (nI (mi σ))) 3 (Y 2 b) (.ref a34)) 3 a34 := isK_sF.mpr hka
      have e3 := isK_ne hka (hZ1.kl (j := 3 + b) (by omega)) (by decide)
      have eb : a34 ≠ Y 2 b := isK_ne hka (hZ1.kb hb) (by decide)
      have he1 : G.2.2.1 ≠ a34 := fun e => heS (e ▸ hs43.1)
      have e7 : a34 ≠ Y 7 (3 + b) := fun e => by
        rcases (hZ1.lst hb).2.2.2.2.2 with q | q
        · exact he1 (q.1.symm.trans e.symm)
        · exact isK_ne hka q.1 (by decide) e
      have FA : Fr (fun q => q = Y 2 b ∨ q = Y 3 (3 + b) ∨ q = Y 7 (3 + b)) S S54 := (fr_any F1).trans ((Fr.sF (fun _ => Or.inl rfl)).trans (hA4.mono (fun _ _ q => Or.inr q)))
      refine ⟨rfl, FA.mono (fun q hq hp => ?_), up (up Y (10 + b) (ns σ b) a34) 7 (3 + b) r2, ?_, ?_⟩
      · rcases hp with e | e
        · exact Or.inl (by rw [e, (hZ.kb hb).2]; decide)
        · exact hZ.lsP' he (j := 3 + b) (by omega) q hq e
      · unfold psS; rw [if_neg c8]
        refine hZ.addS (r' := r2) hb hn.2.2.2.1 hf34 he FA (fun j hj => ?_) ?_ hA1 (hA2.imp id (fun h9 h8 => h9 (F1 r2 h8).1)) hA3 (hA4.K hs43) ?_ ?_
        · rw [hA4.F hk43 (fun q => q.elim hn3 hn7) j, pF_sF_j _ _ _ _ hj]; exact F1.F (hZ.kb hb) (fun q => q) j
        · rw [hA4.F hk43 (fun q => q.elim hn3 hn7) 3]; exact pF_sF_eq _ _ _ _
        · rw [hA4.F hs43 (fun q => q.elim e3 e7) 0, pF_sF_j _ _ _ _ (by decide)]; exact sI9_F.1
        · rw [hA4.F hs43 (fun q => q.elim e3 e7) 1, pF_sF_j _ _ _ _ (by decide)]; exact sI9_F.2
      · exact ⟨by rw [up_ff _ (by decide), up_ff _ (by omega)], by rw [up_ff _ (by decide), up_ff _ (by omega)], by rw [up_ff _ (by decide), up_ff _ (by omega)]⟩
    · -- not
      first | refine r_aload_n (pc := 24) hC dX0_enter_24 rfl ?_ | refine r_aload_nN (pc := 24) hC dX0_enter_24 rfl ?_
      refine r_gf (pc := 25) (κ := 1) (j := 3) hC cls1 (by decide) kf_X0_41 (hZ.kb (by assumption)) (hZ.b3 (by assumption)) dX0_enter_25 ?_
      first | refine r_aload_n (pc := 28) hC dX0_enter_28 rfl ?_ | refine r_aload_nN (pc := 28) hC dX0_enter_28 rfl ?_
      refine r_pf (pc := 29) (κ := 3) (j := 0) hC cls3 (by decide) kf_X0_56 (hZ.c hb) rfl rfl rfl dX0_enter_29 ?_
      refine r_vret (pc := 32) hC hR dX0_enter_32 ?_ (by decide) (by decide)
      exfalso; omega
