/-! WHAT THE PROPERTY SAYS OF A HOUSE, and what keeps it. -/
theorem fa_and (a b : Nat) : nI a &&& nI b = nI (a &&& b) := by
  apply Int32.toBitVec_inj.1
  show BitVec.ofNat 32 a &&& BitVec.ofNat 32 b = BitVec.ofNat 32 (a &&& b)
  apply BitVec.eq_of_getLsbD_eq
  intro i hi
  simp [hi]
theorem bset_tb (p : Nat → Bool) (n i : Nat) : (bset p n).testBit i = (decide (i < n) && p i) := by
  rw [Nat.testBit_eq_decide_div_mod_eq]
  have h := bset_bit p n i
  by_cases c : i < n ∧ p i = true
  · rw [decide_eq_true (h.mpr c), decide_eq_true c.1, c.2]; rfl
  · rw [decide_eq_false (fun q => c (h.mp q))]
    by_cases c1 : i < n
    · have c2 : p i = false := by
        cases e : p i with
        | true => exact absurd ⟨c1, e⟩ c
        | false => rfl
      rw [c2, Bool.and_false]
    · rw [decide_eq_false c1, Bool.false_and]
theorem bset_and (p q : Nat → Bool) (n : Nat) : bset p n &&& bset q n = bset (fun i => p i && q i) n := by
  apply Nat.eq_of_testBit_eq
  intro i
  rw [Nat.testBit_and, bset_tb, bset_tb, bset_tb]
  cases decide (i < n) <;> cases p i <;> cases q i <;> rfl
theorem bset_or (p q : Nat → Bool) (n : Nat) : bset p n ||| bset q n = bset (fun i => p i || q i) n := by
  apply Nat.eq_of_testBit_eq
  intro i
  rw [Nat.testBit_or, bset_tb, bset_tb, bset_tb]
  cases decide (i < n) <;> cases p i <;> cases q i <;> rfl
theorem bset_no {p : Nat → Bool} : ∀ {n : Nat}, (∀ i, i < n → p i = false) → bset p n = 0
  | 0, _ => rfl
  | n + 1, h => by
    unfold bset
    rw [bset_no (fun i hi => h i (by omega)), h n (by omega)]; rfl
theorem bset_all {p : Nat → Bool} : ∀ {n : Nat}, (∀ i, i < n → p i = true) → bset p n = 2 ^ n - 1
  | 0, _ => rfl
  | n + 1, h => by
    unfold bset
    have h1 : 1 ≤ 2 ^ n := Nat.one_le_two_pow
    rw [bset_all (fun i hi => h i (by omega)), h n (by omega), if_pos rfl, Nat.pow_succ]
    omega
theorem rqS_eq (σ : Sg) (b d : Nat) : rqS σ b d = if ans σ b d = 0 then rqP σ b d (oth σ d (plc σ b) - 1) else if ans σ b d = 8 then σ else rfS σ b := rfl
/-- the badges in the zones below z -/
def alS (σ : Sg) (z : Nat) : Nat := bset (fun b => decide (plc σ b < z)) (nb σ)
theorem alS_0 (σ : Sg) : alS σ 0 = 0 := bset_no (fun i _ => decide_eq_false (Nat.not_lt_zero _))
theorem alS_and (σ : Sg) (z : Nat) : nI (alS σ z) &&& nI (insB σ z) = nI 0 := by
  rw [fa_and]
  unfold alS insB
  rw [bset_and]
  refine congrArg nI (bset_no (fun i _ => ?_))
  by_cases c : plc σ i < z
  · rw [decide_eq_false (show ¬ plc σ i = z by omega), Bool.and_false]
  · rw [decide_eq_false c, Bool.false_and]
theorem alS_or (σ : Sg) (z : Nat) : nI (alS σ z) ||| nI (insB σ z) = nI (alS σ (z + 1)) := by
  rw [fa_or]
  unfold alS insB
  rw [bset_or]
  refine congrArg nI (bset_congr (fun i _ => ?_))
  by_cases c : plc σ i < z
  · rw [decide_eq_true c, decide_eq_true (show plc σ i < z + 1 by omega), Bool.true_or]
  · rw [decide_eq_false c, Bool.false_or]
    by_cases c2 : plc σ i = z
    · rw [decide_eq_true c2, decide_eq_true (show plc σ i < z + 1 by omega)]
    · rw [decide_eq_false c2, decide_eq_false (show ¬ plc σ i < z + 1 by omega)]
theorem alS_n {σ : Sg} {n : Nat} (hJ : Inv σ n) : alS σ (nz σ) = 2 ^ nb σ - 1 := bset_all (fun i hi => decide_eq_true (hJ.1.vb hi).1)
theorem sh1 : ∀ n, n ≤ 6 → nI 1 <<< (nI n &&& 31) - nI 1 = nI (2 ^ n - 1) := by decide +kernel
theorem ins_lt {σ : Sg} {n : Nat} (hJ : Inv σ n) (z : Nat) : insB σ z < 1024 := insB_lt hJ.1.n.2.2.2.1 z
theorem ins_bit {σ : Sg} {n k z : Nat} (hJ : Inv σ n) (hk : k < nb σ) : (nI (insB σ z) >>> (nI k &&& 31)) &&& nI 1 = nI (if plc σ k = z then 1 else 0) := by
  have h := ins_lt hJ z
  have hn := hJ.1.n
  rw [bit_at (by omega) (by omega)]
  refine congrArg nI ?_
  have e := bset_bit (fun b => decide (plc σ b = z)) (nb σ) k
  have e2 : insB σ z / 2 ^ k % 2 < 2 := Nat.mod_lt _ (by decide)
  by_cases c : plc σ k = z
  · rw [if_pos c]
    exact e.mpr ⟨hk, decide_eq_true c⟩
  · rw [if_neg c]
    have : ¬ insB σ z / 2 ^ k % 2 = 1 := fun q => c (of_decide_eq_true (e.mp q).2)
    omega
-- how many
theorem popc_cnt (p : Nat → Bool) (n : Nat) : popc (bset p n) = cntT (fun i => decide (i < n) && p i) 10 := by
  have e : ∀ i, bset p n / 2 ^ i % 2 = if (decide (i < n) && p i) = true then 1 else 0 := fun i => by
    have h := bset_bit p n i
    have h2 : bset p n / 2 ^ i % 2 < 2 := Nat.mod_lt _ (by decide)
    by_cases c : i < n ∧ p i = true
    · rw [h.mpr c, decide_eq_true c.1, c.2]; rfl
    · have h3 : ¬ bset p n / 2 ^ i % 2 = 1 := fun q => c (h.mp q)
      rw [if_neg (fun q => c ⟨of_decide_eq_true (Bool.and_eq_true_iff.mp q).1, (Bool.and_eq_true_iff.mp q).2⟩)]
      omega
  show 0 + bset p n / 2 ^ 0 % 2 + bset p n / 2 ^ 1 % 2 + bset p n / 2 ^ 2 % 2 + bset p n / 2 ^ 3 % 2 + bset p n / 2 ^ 4 % 2 + bset p n / 2 ^ 5 % 2 + bset p n / 2 ^ 6 % 2 + bset p n / 2 ^ 7 % 2 + bset p n / 2 ^ 8 % 2 + bset p n / 2 ^ 9 % 2 = _
  rw [e 0, e 1, e 2, e 3, e 4, e 5, e 6, e 7, e 8, e 9]
  rfl
theorem cntT_mono {p q : Nat → Bool} : ∀ {n : Nat}, (∀ i, i < n → p i = true → q i = true) → cntT p n ≤ cntT q n
  | 0, _ => Nat.le_refl _
  | n + 1, h => by
    have h1 := cntT_mono (p := p) (q := q) (n := n) (fun i hi => h i (by omega))
    show cntT p n + (if p n = true then 1 else 0) ≤ cntT q n + (if q n = true then 1 else 0)
    by_cases c : p n = true
    · rw [if_pos c, if_pos (h n (by omega) c)]; omega
    · rw [if_neg c]; omega
theorem cntT_one {p q : Nat → Bool} {b : Nat} : ∀ {n : Nat}, (∀ i, i < n → i ≠ b → p i = true → q i = true) → cntT p n ≤ cntT q n + 1
  | 0, _ => Nat.zero_le _
  | n + 1, h => by
    show cntT p n + (if p n = true then 1 else 0) ≤ cntT q n + (if q n = true then 1 else 0) + 1
    by_cases e : n = b
    · have h1 := cntT_mono (p := p) (q := q) (n := n) (fun i hi => h i (by omega) (by omega))
      split <;> split <;> omega
    · have h1 := cntT_one (p := p) (q := q) (b := b) (n := n) (fun i hi => h i (by omega))
      by_cases c : p n = true
      · rw [if_pos c, if_pos (h n (by omega) e c)]; omega
      · rw [if_neg c]; omega
theorem cntT_no {p : Nat → Bool} : ∀ {n : Nat}, (∀ i, i < n → p i = false) → cntT p n = 0
  | 0, _ => rfl
  | n + 1, h => by
    show cntT p n + (if p n = true then 1 else 0) = 0
    rw [cntT_no (fun i hi => h i (by omega)), h n (by omega)]; rfl
theorem cntT_all {p : Nat → Bool} : ∀ {n : Nat}, (∀ i, i < n → p i = true) → cntT p n = n
  | 0, _ => rfl
  | n + 1, h => by
    show cntT p n + (if p n = true then 1 else 0) = n + 1
    rw [cntT_all (fun i hi => h i (by omega)), h n (by omega)]; rfl
theorem cntT_lt (f : Nat → Nat) (z : Nat) : ∀ n, cntT (fun t => decide (f t < z + 1)) n = cntT (fun t => decide (f t < z)) n + cntT (fun t => decide (f t = z)) n
  | 0 => rfl
  | n + 1 => by
    have ih := cntT_lt f z n
    show cntT _ n + (if decide (f n < z + 1) = true then 1 else 0) = (cntT _ n + (if decide (f n < z) = true then 1 else 0)) + (cntT _ n + (if decide (f n = z) = true then 1 else 0))
    rw [ih]
    by_cases c1 : f n < z
    · simp [c1, show f n < z + 1 by omega, show ¬ f n = z by omega]; omega
    · by_cases c2 : f n = z
      · simp [c2]; omega
      · simp [c1, c2, show ¬ f n < z + 1 by omega]
/-- the minutes in the zones below z -/
def smZ (σ : Sg) (b z : Nat) : Nat := cntT (fun t => decide (lkL σ b t (mv σ) < z)) (mi σ)
theorem smZ_0 (σ : Sg) (b : Nat) : smZ σ b 0 = 0 := cntT_no (fun i _ => decide_eq_false (Nat.not_lt_zero _))
theorem smZ_s (σ : Sg) (b z : Nat) : smZ σ b (z + 1) = smZ σ b z + minZ σ b z := cntT_lt (fun t => lkL σ b t (mv σ)) z (mi σ)
theorem smZ_n {σ : Sg} {n b : Nat} (hJ : Inv σ n) (hb : b < nb σ) : smZ σ b (nz σ) = mi σ := by
  refine cntT_all (fun t _ => decide_eq_true ?_)
  show lkL σ b t (mv σ) < nz σ
  rw [← hJ.2.2.2 b hb t]
  exact lkS_lt hJ.2.1 hb hJ.1.n.1 _ (Nat.le_refl _)
theorem lk_now {σ : Sg} {n b : Nat} (hJ : Inv σ n) (hb : b < nb σ) : lkL σ b (mi σ) (mv σ) = plc σ b := by
  rw [← hJ.2.2.2 b hb (mi σ)]
  obtain ⟨a1, a2, a3, a4, a5, a6, a7⟩ := hJ.2.1 b hb
  obtain ⟨k, hk⟩ : ∃ k, ns σ b = k + 1 := ⟨ns σ b - 1, by omega⟩
  rw [hk] at a5 a7 ⊢
  simp only [Nat.add_sub_cancel] at a5 a7
  show (if sys σ b k ≤ mi σ then syz σ b k else _) = _
  rw [if_pos a5, a7]
/-- as long as there was no alarm -/
def P28 (σ : Sg) : Prop := al σ = 0 ∧ (∀ z, 0 < z → z < nz σ → popc (insB σ z) ≤ cap σ z) ∧ (∀ d e, d < nd σ → e < nd σ → d ≠ e → lock σ d ≠ 0 → lock σ d = lock σ e → ¬ (0 < lft σ d ∧ 0 < lft σ e))
/-- the house is built as before -/
def H28 (σ σ' : Sg) : Prop := nz σ' = nz σ ∧ nd σ' = nd σ ∧ nb σ' = nb σ ∧ cap σ' = cap σ ∧ lock σ' = lock σ
theorem H28.rfl {σ : Sg} : H28 σ σ := ⟨Eq.refl _, Eq.refl _, Eq.refl _, Eq.refl _, Eq.refl _⟩
theorem H28.trans {σ σ' σ'' : Sg} (h : H28 σ σ') (h' : H28 σ' σ'') : H28 σ σ'' := ⟨h'.1.trans h.1, h'.2.1.trans h.2.1, h'.2.2.1.trans h.2.2.1, h'.2.2.2.1.trans h.2.2.2.1, h'.2.2.2.2.trans h.2.2.2.2⟩
theorem P28.cg {σ σ' : Sg} (h : P28 σ) (hs : H28 σ σ') (ha : al σ' = 0) (hp : plc σ' = plc σ) (hl : ∀ d, lft σ' d ≤ lft σ d) : P28 σ' := by
  obtain ⟨s1, s2, s3, s4, s5⟩ := hs
  refine ⟨ha, fun z h0 hz => ?_, fun d e hd he hde h0 hl2 q => ?_⟩
  · rw [s1] at hz
    have := h.2.1 z h0 hz
    unfold insB at this ⊢
    rw [s3, s4, hp]; exact this
  · rw [s2] at hd he
    rw [s5] at h0 hl2
    have h1 := hl d
    have h2 := hl e
    exact h.2.2 d e hd he hde h0 hl2 ⟨by omega, by omega⟩
theorem H28.mi' {σ : Sg} {v : Nat} : H28 σ (up σ 1 0 v) := ⟨up_f _ (by omega), up_f _ (by omega), up_f _ (by omega), up_ff _ (by omega), up_ff _ (by omega)⟩
theorem H28.al' {σ : Sg} {v : Nat} : H28 σ (up σ 1 1 v) := ⟨up_f _ (by omega), up_f _ (by omega), up_f _ (by omega), up_ff _ (by omega), up_ff _ (by omega)⟩
theorem H28.bl {σ : Sg} {b v : Nat} : H28 σ (blS σ b v) := by
  have e : ∀ g, g ≠ 13 → g ≠ 14 → blS σ b v g = σ g := fun g h1 h2 => by unfold blS; rw [up_ff _ h2, up_ff _ h1]
  exact ⟨congrFun (e 0 (by omega) (by omega)) 0, congrFun (e 0 (by omega) (by omega)) 1, congrFun (e 0 (by omega) (by omega)) 2, e 2 (by omega) (by omega), e 8 (by omega) (by omega)⟩
theorem H28.rf {σ : Sg} {b : Nat} : H28 σ (rfS σ b) := by
  have e := fun g h1 h2 => rfS_g (σ := σ) (b := b) (g := g) h1 h2
  exact ⟨congrFun (e 0 (by omega) (by omega)) 0, congrFun (e 0 (by omega) (by omega)) 1, congrFun (e 0 (by omega) (by omega)) 2, e 2 (by omega) (by omega), e 8 (by omega) (by omega)⟩
theorem H28.rq {σ : Sg} {b d z : Nat} (hb : b < 10) : H28 σ (rqP σ b d z) := by
  have e0 := rq_0 (σ := σ) (b := b) (d := d) (z := z)
  refine ⟨(congrFun e0 0).trans (ps_0 (by omega)), (congrFun e0 1).trans (ps_0 (by omega)), (congrFun e0 2).trans (ps_0 (by omega)), rq_g (by omega) (by omega) (by omega) (by omega) (by omega) (by omega) (by omega) (by omega) (by omega) (by omega), rq_g (by omega) (by omega) (by omega) (by omega) (by omega) (by omega) (by omega) (by omega) (by omega) (by omega)⟩
theorem H28.rqS {σ : Sg} {b d : Nat} (hb : b < 10) : H28 σ (rqS σ b d) := by
  rw [rqS_eq]
  split
  · exact H28.rq hb
  · split
    · exact H28.rfl
    · exact H28.rf
theorem P28.mi' {σ : Sg} {m : Nat} (h : P28 σ) : P28 (up σ 1 0 (mi σ + m)) := h.cg H28.mi' ((up_i σ (f := 1) (by omega)).trans h.1) (up_ff _ (by omega)) (fun d => by
  show up σ 1 0 (mi σ + m) 9 d - up σ 1 0 (mi σ + m) 1 0 ≤ shut σ d - mi σ
  rw [up_f _ (by omega), up_eq]
  show shut σ d - _ ≤ _
  omega)
theorem P28.al' {σ : Sg} (h : P28 σ) : P28 (up σ 1 1 0) := h.cg H28.al' (up_eq _ _ _ _) (up_ff _ (by omega)) (fun d => by
  show up σ 1 1 0 9 d - up σ 1 1 0 1 0 ≤ shut σ d - mi σ
  rw [up_f _ (by omega), up_i _ (by omega)]
  exact Nat.le_refl _)
theorem P28.bl {σ : Sg} {b v : Nat} (h : P28 σ) : P28 (blS σ b v) := by
  have e : ∀ g, g ≠ 13 → g ≠ 14 → blS σ b v g = σ g := fun g h1 h2 => by unfold blS; rw [up_ff _ h2, up_ff _ h1]
  refine h.cg H28.bl ((congrFun (e 1 (by omega) (by omega)) 1).trans h.1) (e 10 (by omega) (by omega)) (fun d => ?_)
  show blS σ b v 9 d - blS σ b v 1 0 ≤ shut σ d - mi σ
  rw [e 9 (by omega) (by omega), e 1 (by omega) (by omega)]
  exact Nat.le_refl _
theorem P28.rf {σ : Sg} {b : Nat} (h : P28 σ) : P28 (rfS σ b) := by
  have e := fun g h1 h2 => rfS_g (σ := σ) (b := b) (g := g) h1 h2
  refine h.cg H28.rf ((congrFun (e 1 (by omega) (by omega)) 1).trans h.1) (e 10 (by omega) (by omega)) (fun d => ?_)
  show rfS σ b 9 d - rfS σ b 1 0 ≤ shut σ d - mi σ
  rw [e 9 (by omega) (by omega), e 1 (by omega) (by omega)]
  exact Nat.le_refl _
theorem ans_pe {σ : Sg} {b d : Nat} (h : ans σ b d = 0) (ha : al σ = 0) : ¬ cap σ (oth σ d (plc σ b) - 1) ≤ popc (insB σ (oth σ d (plc σ b) - 1)) ∧ excl σ d = false := by
  have h0 := ans_0 h
  unfold ans at h
  split at h
  · exact absurd h (by decide)
  · rw [if_neg (by omega)] at h
    unfold ansP at h
    split at h
    · exact absurd h (by decide)
    · split at h
      · exact absurd h (by decide)
      · split at h
        · exact absurd h (by decide)
        · split at h
          · exact absurd h (by decide)
          · rename_i c1 c2
            exact ⟨c1, by simpa using c2⟩
theorem oth_ne {σ : Sg} {n b d : Nat} (hJ : Inv σ n) (hd : d < nd σ) (h0 : ¬ oth σ d (plc σ b) = 0) : oth σ d (plc σ b) - 1 < nz σ ∧ oth σ d (plc σ b) - 1 ≠ plc σ b := by
  have hv := hJ.1.vd hd
  unfold oth at h0 ⊢
  split
  · rename_i c
    rw [Nat.add_sub_cancel]
    exact ⟨hv.2.1, fun q => hv.2.2.1 (c.trans q.symm)⟩
  · rename_i c
    rw [if_neg c] at h0
    split
    · rename_i c2
      rw [Nat.add_sub_cancel]
      exact ⟨hv.1, c⟩
    · rename_i c2
      rw [if_neg c2] at h0
      exact absurd rfl h0
theorem P28.rq {σ : Sg} {n b d : Nat} (h : P28 σ) (hJ : Inv σ n) (hb : b < nb σ) (hd : d < nd σ) (ha : ans σ b d = 0) : P28 (rqP σ b d (oth σ d (plc σ b) - 1)) := by
  have hn := hJ.1.n
  obtain ⟨p1, p2⟩ := ans_pe ha h.1
  obtain ⟨g1, g2⟩ := oth_ne hJ hd (ans_0 ha)
  generalize oth σ d (plc σ b) - 1 = g at *
  obtain ⟨s1, s2, s3, s4, s5⟩ := H28.rq (σ := σ) (b := b) (d := d) (z := g) (by omega)
  have e10 := rq_10 (σ := σ) (b := b) (d := d) (z := g)
  have emi := rq_mi (σ := σ) (b := b) (d := d) (z := g)
  have ep : plc (rqP σ b d g) b = g := (congrFun e10 b).trans ps_p
  have ep' : ∀ i, i ≠ b → plc (rqP σ b d g) i = plc σ i := fun i hi => (congrFun e10 i).trans (ps_p' hi)
  have esd : shut (rqP σ b d g) d = mi σ + hold σ d := by
    show rqP σ b d g 9 d = _
    unfold rqP lgS pdS
    rw [up_f _ (by omega), up_f _ (by omega), up_f _ (by omega), up_f _ (by omega), up_eq]
  have ese : ∀ e, e ≠ d → shut (rqP σ b d g) e = shut σ e := fun e he => by
    show rqP σ b d g 9 e = _
    unfold rqP lgS pdS
    rw [up_f _ (by omega), up_f _ (by omega), up_f _ (by omega), up_f _ (by omega), up_i _ he, up_f _ (by omega), ps_g (by omega) (by omega) (by omega) (by omega)]
  have ela : al (rqP σ b d g) = al σ := by
    show rqP σ b d g 1 1 = σ 1 1
    unfold rqP lgS pdS
    rw [up_i _ (by omega), up_f _ (by omega), up_f _ (by omega), up_f _ (by omega), up_f _ (by omega), up_f _ (by omega), ps_g (by omega) (by omega) (by omega) (by omega)]
  have hx : ∀ e, e < nd σ → e ≠ d → lock σ e ≠ 0 → lock σ e = lock σ d → ¬ 0 < lft σ e := fun e he hed h0 hl q => by
    have : excl σ d = true := (exF_iff _ _).mpr ⟨e, he, by simp [hed, h0, hl, q]; rw [← hl]; exact h0⟩
    rw [p2] at this; cases this
  refine ⟨ela.trans h.1, fun z h0 hz => ?_, fun d1 e1 hd1 he1 hde h0 hl2 q => ?_⟩
  · rw [s1] at hz
    rw [s4]
    unfold insB at p1 ⊢
    rw [popc_cnt] at p1 ⊢
    rw [s3]
    have h1 := h.2.1 z h0 hz
    unfold insB at h1
    rw [popc_cnt] at h1
    by_cases c : z = g
    · subst c
      have h2 := cntT_one (b := b) (n := 10) (p := fun i => decide (i < nb σ) && decide (plc (rqP σ b d z) i = z)) (q := fun i => decide (i < nb σ) && decide (plc σ i = z)) (fun i _ hi hp => by rw [ep' i hi] at hp; exact hp)
      omega
    · refine Nat.le_trans (cntT_mono (fun i _ hp => ?_)) h1
      by_cases ci : i = b
      · subst ci
        rw [ep, decide_eq_false (fun (q : g = z) => c q.symm), Bool.and_false] at hp
        cases hp
      · rw [ep' i ci] at hp; exact hp
  · rw [s2] at hd1 he1
    rw [s5] at h0 hl2
    unfold lft at q
    rw [emi] at q
    by_cases cd : d1 = d
    · subst cd
      have ce : e1 ≠ d1 := fun q => hde q.symm
      rw [ese e1 ce] at q
      exact hx e1 he1 ce (by rw [← hl2]; exact h0) hl2.symm q.2
    · by_cases ce : e1 = d
      · subst ce
        rw [ese d1 cd] at q
        exact hx d1 hd1 cd h0 hl2 q.1
      · rw [ese d1 cd, ese e1 ce] at q
        exact h.2.2 d1 e1 hd1 he1 hde h0 hl2 q
theorem P28.rqS {σ : Sg} {n b d : Nat} (h : P28 σ) (hJ : Inv σ n) (hb : b < nb σ) (hd : d < nd σ) : P28 (rqS σ b d) := by
  rw [rqS_eq]
  split
  · exact h.rq hJ hb hd ‹_›
  · split
    · exact h
    · exact h.rf
theorem Inv.rqS {σ : Sg} {n b d : Nat} (hJ : Inv σ n) (hb : b < nb σ) (hd : d < nd σ) : Inv (rqS σ b d) (n + 1) := by
  rw [rqS_eq]
  split
  · rename_i c
    exact hJ.rq hb hd (oth_ne hJ hd (ans_0 c)).1
  · split
    · exact hJ.le (Nat.le_succ n)
    · rename_i c1 c2
      have h1 := ans_8 c2
      have h2 := (hJ.1.vb hb).2.2.2.2.1
      exact (hJ.rf hb (by omega)).le (Nat.le_succ n)
theorem rqS_mi {σ : Sg} {b d : Nat} : mi (rqS σ b d) = mi σ := by
  unfold rqS
  split
  · exact rq_mi
  · split
    · rfl
    · exact congrFun (rfS_g (g := 1) (by omega) (by omega)) 0
