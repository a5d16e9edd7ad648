/-! THE REFERENCE'S OBJECT for a house σ: its rows M by their slots; t what was thrown last. -/
def mAs : List Nat := [4, 5, 6, 8, 9, 10, 11, 13, 14, 15, 16, 17, 19]
def mK (j : Nat) : Nat := if j = 16 then 8 else 7
def mNn (j : Nat) : Nat := if j < 8 then 8 else if j = 8 then 24 else if j < 12 then 12 else 10
def cM9 (σ : Sg) (t s : Nat) : Nat := match s with
  | 0 => t
  | 1 => mi σ
  | 2 => al σ
  | 3 => nz σ
  | 7 => nd σ
  | 12 => nb σ
  | _ => mv σ
def hI (k : Nat) : Int32 := if k = 0 then -1 else nI (k - 1)
def rD (σ : Sg) (j i : Nat) : Bool := if j < 8 then decide (1 ≤ i ∧ i < nz σ) else if j = 8 then decide (i < 2 * nd σ) else if j < 12 then decide (i < nd σ) else if j < 18 then decide (i < nb σ) else decide (i < 3 * mv σ)
def rv (σ : Sg) (j i : Nat) : Int32 := match j with
  | 4 => nI (cap σ i)
  | 5 => nI (beg σ i)
  | 6 => nI (fin σ i)
  | 8 => nI (if i % 2 = 0 then sda σ (i / 2) else sdb σ (i / 2))
  | 9 => nI (hold σ i)
  | 10 => nI (lock σ i)
  | 11 => nI (shut σ i)
  | 13 => nI (plc σ i)
  | 14 => nI (rgt σ i)
  | 15 => hI (hst σ i)
  | 16 => nI (blk σ i)
  | 17 => nI (rfs σ i)
  | _ => nI (if i % 3 = 0 then lgb σ (i / 3) else if i % 3 = 1 then lgm σ (i / 3) else lgz σ (i / 3))
/-- the object with scalars c and rows R as far as they are told (D) -/
def RM0 (S : Ps) (M : Nat → Nat) (m : Nat) (c : Nat → Nat) (D : Nat → Nat → Bool) (R : Nat → Nat → Int32) : Prop :=
  isK S 6 m ∧ (∀ s, s ∈ [0, 1, 2, 3, 7, 12, 18] → pF S s m = .int (nI (c s))) ∧ (∀ j, j ∈ mAs → pF S j m = .ref (M j) ∧ isK S (mK j) (M j) ∧ pN S (M j) < 100000) ∧ (∀ i, i ∈ mAs → ∀ j, j ∈ mAs → M i = M j → i = j) ∧ (∀ j, j ∈ mAs → j ≠ 19 → pN S (M j) = mNn j) ∧ (∀ j, j ∈ mAs → ∀ i, D j i = true → i < pN S (M j) ∧ pI S (M j) i = R j i)
def RM (S : Ps) (M : Nat → Nat) (σ : Sg) (m t : Nat) : Prop := RM0 S M m (cM9 σ t) (rD σ) (rv σ) ∧ (pN S (M 19) % 3 = 0 ∧ 48 ≤ pN S (M 19) ∧ pN S (M 19) ≤ 48 + 6 * mv σ ∧ 3 * mv σ ≤ pN S (M 19))
def upD (D : Nat → Nat → Bool) (j i : Nat) : Nat → Nat → Bool := fun j' i' => decide (j' = j ∧ i' = i) || D j' i'
def upR (R : Nat → Nat → Int32) (j i : Nat) (v : Int32) : Nat → Nat → Int32 := fun j' i' => if j' = j ∧ i' = i then v else R j' i'
section RM0S
variable {S : Ps} {M : Nat → Nat} {m : Nat} {c : Nat → Nat} {D : Nat → Nat → Bool} {R : Nat → Nat → Int32}
theorem RM0.sI {j i : Nat} {v : Int32} (h : RM0 S M m c D R) (hj : j ∈ mAs) (hi : i < pN S (M j)) : RM0 (sI S (M j) i v) M m c (upD D j i) (upR R j i v) := by
  obtain ⟨h1, h2, h3, h4, h5, h6⟩ := h
  refine ⟨h1, h2, h3, h4, h5, fun j' hj' i' hd => ?_⟩
  unfold upD at hd
  unfold upR
  show i' < pN S (M j') ∧ (if M j' = M j ∧ i' = i then v else pI S (M j') i') = _
  by_cases e : j' = j ∧ i' = i
  · rw [if_pos e, if_pos ⟨by rw [e.1], e.2⟩, e.1, e.2]; exact ⟨hi, rfl⟩
  · have hd2 : D j' i' = true := by
      rcases (Bool.or_eq_true _ _).mp hd with q | q
      · exact absurd (of_decide_eq_true q) e
      · exact q
    rw [if_neg e, if_neg (fun q => e ⟨h4 _ hj' _ hj q.1, q.2⟩)]
    exact h6 j' hj' i' hd2
theorem RM0.sF {s v : Nat} (h : RM0 S M m c D R) (hs : s ∉ mAs) : RM0 (sF S s m (.int (nI v))) M m (fun s' => if s' = s then v else c s') D R := by
  obtain ⟨h1, h2, h3, h4, h5, h6⟩ := h
  refine ⟨isK_sF.mpr h1, fun s' hs' => ?_, fun j hj => ⟨?_, isK_sF.mpr (h3 j hj).2.1, (h3 j hj).2.2⟩, h4, h5, h6⟩
  · show _ = Value.int (nI (if s' = s then v else c s'))
    by_cases e : s' = s
    · rw [if_pos e, e, pF_sF_eq]
    · rw [if_neg e, pF_sF_j _ _ _ _ e]; exact h2 s' hs'
  · have e9 : j ≠ s := fun e => hs (by rw [← e]; exact hj)
    rw [pF_sF_j _ _ _ _ e9]; exact (h3 j hj).1
theorem RM0.mono {c' : Nat → Nat} {D' : Nat → Nat → Bool} {R' : Nat → Nat → Int32} (h : RM0 S M m c D R) (hc : ∀ s, s ∈ [0, 1, 2, 3, 7, 12, 18] → c' s = c s) (hR : ∀ j, j ∈ mAs → ∀ i, D' j i = true → D j i = true ∧ R' j i = R j i) : RM0 S M m c' D' R' := by
  obtain ⟨h1, h2, h3, h4, h5, h6⟩ := h
  refine ⟨h1, fun s hs => by rw [hc s hs]; exact h2 s hs, h3, h4, h5, fun j hj i hd => ?_⟩
  obtain ⟨e1, e2⟩ := hR j hj i hd
  rw [e2]; exact h6 j hj i e1
end RM0S
section RMS
variable {S : Ps} {M : Nat → Nat} {σ σ' : Sg} {m t z d b : Nat}
theorem RM.k6 (h : RM S M σ m t) : isK S 6 m := h.1.1
theorem RM.s0 (h : RM S M σ m t) : pF S 0 m = .int (nI t) := h.1.2.1 0 (by decide)
theorem RM.s1 (h : RM S M σ m t) : pF S 1 m = .int (nI (mi σ)) := h.1.2.1 1 (by decide)
theorem RM.s2 (h : RM S M σ m t) : pF S 2 m = .int (nI (al σ)) := h.1.2.1 2 (by decide)
theorem RM.s3 (h : RM S M σ m t) : pF S 3 m = .int (nI (nz σ)) := h.1.2.1 3 (by decide)
theorem RM.s7 (h : RM S M σ m t) : pF S 7 m = .int (nI (nd σ)) := h.1.2.1 7 (by decide)
theorem RM.s12 (h : RM S M σ m t) : pF S 12 m = .int (nI (nb σ)) := h.1.2.1 12 (by decide)
theorem RM.s18 (h : RM S M σ m t) : pF S 18 m = .int (nI (mv σ)) := h.1.2.1 18 (by decide)
theorem RM.a {j : Nat} (h : RM S M σ m t) (hj : j ∈ mAs) : pF S j m = .ref (M j) := (h.1.2.2.1 j hj).1
theorem RM.kd {j : Nat} (h : RM S M σ m t) (hj : j ∈ mAs) : isK S (mK j) (M j) := (h.1.2.2.1 j hj).2.1
theorem RM.l {j : Nat} (h : RM S M σ m t) (hj : j ∈ mAs) : pN S (M j) < 2 ^ 31 := by have := (h.1.2.2.1 j hj).2.2; omega
theorem RM.n {j : Nat} (h : RM S M σ m t) (hj : j ∈ mAs) (h9 : j ≠ 19) : pN S (M j) = mNn j := h.1.2.2.2.2.1 j hj h9
theorem RM.r {j i : Nat} (h : RM S M σ m t) (hj : j ∈ mAs) (hd : rD σ j i = true) : i < pN S (M j) ∧ pN S (M j) < 2 ^ 31 ∧ pI S (M j) i = rv σ j i := ⟨(h.1.2.2.2.2.2 j hj i hd).1, h.l hj, (h.1.2.2.2.2.2 j hj i hd).2⟩
theorem RM.r4 (h : RM S M σ m t) (h1 : 1 ≤ z) (hz : z < nz σ) : z < pN S (M 4) ∧ pN S (M 4) < 2 ^ 31 ∧ pI S (M 4) z = nI (cap σ z) := h.r (by decide) (decide_eq_true ⟨h1, hz⟩)
theorem RM.r5 (h : RM S M σ m t) (h1 : 1 ≤ z) (hz : z < nz σ) : z < pN S (M 5) ∧ pN S (M 5) < 2 ^ 31 ∧ pI S (M 5) z = nI (beg σ z) := h.r (by decide) (decide_eq_true ⟨h1, hz⟩)
theorem RM.r6 (h : RM S M σ m t) (h1 : 1 ≤ z) (hz : z < nz σ) : z < pN S (M 6) ∧ pN S (M 6) < 2 ^ 31 ∧ pI S (M 6) z = nI (fin σ z) := h.r (by decide) (decide_eq_true ⟨h1, hz⟩)
theorem RM.r8a (h : RM S M σ m t) (hd : d < nd σ) : 2 * d < pN S (M 8) ∧ pN S (M 8) < 2 ^ 31 ∧ pI S (M 8) (2 * d) = nI (sda σ d) := by
  have h1 := h.r (j := 8) (i := 2 * d) (by decide) (decide_eq_true (by omega))
  refine ⟨h1.1, h1.2.1, h1.2.2.trans ?_⟩
  show nI (if (2 * d) % 2 = 0 then sda σ (2 * d / 2) else sdb σ (2 * d / 2)) = _
  rw [if_pos (by omega), show 2 * d / 2 = d by omega]
theorem RM.r8b (h : RM S M σ m t) (hd : d < nd σ) : 2 * d + 1 < pN S (M 8) ∧ pN S (M 8) < 2 ^ 31 ∧ pI S (M 8) (2 * d + 1) = nI (sdb σ d) := by
  have h1 := h.r (j := 8) (i := 2 * d + 1) (by decide) (decide_eq_true (by omega))
  refine ⟨h1.1, h1.2.1, h1.2.2.trans ?_⟩
  show nI (if (2 * d + 1) % 2 = 0 then sda σ ((2 * d + 1) / 2) else sdb σ ((2 * d + 1) / 2)) = _
  rw [if_neg (by omega), show (2 * d + 1) / 2 = d by omega]
theorem RM.r9 (h : RM S M σ m t) (hd : d < nd σ) : d < pN S (M 9) ∧ pN S (M 9) < 2 ^ 31 ∧ pI S (M 9) d = nI (hold σ d) := h.r (by decide) (decide_eq_true hd)
theorem RM.r10 (h : RM S M σ m t) (hd : d < nd σ) : d < pN S (M 10) ∧ pN S (M 10) < 2 ^ 31 ∧ pI S (M 10) d = nI (lock σ d) := h.r (by decide) (decide_eq_true hd)
theorem RM.r11 (h : RM S M σ m t) (hd : d < nd σ) : d < pN S (M 11) ∧ pN S (M 11) < 2 ^ 31 ∧ pI S (M 11) d = nI (shut σ d) := h.r (by decide) (decide_eq_true hd)
theorem RM.r13 (h : RM S M σ m t) (hb : b < nb σ) : b < pN S (M 13) ∧ pN S (M 13) < 2 ^ 31 ∧ pI S (M 13) b = nI (plc σ b) := h.r (by decide) (decide_eq_true hb)
theorem RM.r14 (h : RM S M σ m t) (hb : b < nb σ) : b < pN S (M 14) ∧ pN S (M 14) < 2 ^ 31 ∧ pI S (M 14) b = nI (rgt σ b) := h.r (by decide) (decide_eq_true hb)
theorem RM.r15 (h : RM S M σ m t) (hb : b < nb σ) : b < pN S (M 15) ∧ pN S (M 15) < 2 ^ 31 ∧ pI S (M 15) b = hI (hst σ b) := h.r (by decide) (decide_eq_true hb)
theorem RM.r15n (h : RM S M σ m t) (hb : b < nb σ) (hh : hst σ b = 0) : b < pN S (M 15) ∧ pN S (M 15) < 2 ^ 31 ∧ pI S (M 15) b = -1 := by
  have h1 := h.r15 hb
  rw [hh] at h1; exact h1
theorem RM.r15s (h : RM S M σ m t) (hb : b < nb σ) (hh : ¬ hst σ b = 0) : b < pN S (M 15) ∧ pN S (M 15) < 2 ^ 31 ∧ pI S (M 15) b = nI (hst σ b - 1) := by
  have h1 := h.r15 hb
  unfold hI at h1
  rw [if_neg hh] at h1; exact h1
theorem RM.r16 (h : RM S M σ m t) (hb : b < nb σ) : b < pN S (M 16) ∧ pN S (M 16) < 2 ^ 31 ∧ pI S (M 16) b = nI (blk σ b) := h.r (by decide) (decide_eq_true hb)
theorem RM.r17 (h : RM S M σ m t) (hb : b < nb σ) : b < pN S (M 17) ∧ pN S (M 17) < 2 ^ 31 ∧ pI S (M 17) b = nI (rfs σ b) := h.r (by decide) (decide_eq_true hb)
theorem RM.r19a {k : Nat} (h : RM S M σ m t) (hk : k < mv σ) : 3 * k < pN S (M 19) ∧ pN S (M 19) < 2 ^ 31 ∧ pI S (M 19) (3 * k) = nI (lgb σ k) := by
  have h1 := h.r (j := 19) (i := 3 * k) (by decide) (decide_eq_true (by omega))
  refine ⟨h1.1, h1.2.1, h1.2.2.trans ?_⟩
  show nI (if (3 * k) % 3 = 0 then lgb σ (3 * k / 3) else if (3 * k) % 3 = 1 then lgm σ (3 * k / 3) else lgz σ (3 * k / 3)) = _
  rw [if_pos (by omega), show 3 * k / 3 = k by omega]
theorem RM.r19b {k : Nat} (h : RM S M σ m t) (hk : k < mv σ) : 3 * k + 1 < pN S (M 19) ∧ pN S (M 19) < 2 ^ 31 ∧ pI S (M 19) (3 * k + 1) = nI (lgm σ k) := by
  have h1 := h.r (j := 19) (i := 3 * k + 1) (by decide) (decide_eq_true (by omega))
  refine ⟨h1.1, h1.2.1, h1.2.2.trans ?_⟩
  show nI (if (3 * k + 1) % 3 = 0 then lgb σ ((3 * k + 1) / 3) else if (3 * k + 1) % 3 = 1 then lgm σ ((3 * k + 1) / 3) else lgz σ ((3 * k + 1) / 3)) = _
  rw [if_neg (by omega), if_pos (by omega), show (3 * k + 1) / 3 = k by omega]
theorem RM.r19c {k : Nat} (h : RM S M σ m t) (hk : k < mv σ) : 3 * k + 2 < pN S (M 19) ∧ pN S (M 19) < 2 ^ 31 ∧ pI S (M 19) (3 * k + 2) = nI (lgz σ k) := by
  have h1 := h.r (j := 19) (i := 3 * k + 2) (by decide) (decide_eq_true (by omega))
  refine ⟨h1.1, h1.2.1, h1.2.2.trans ?_⟩
  show nI (if (3 * k + 2) % 3 = 0 then lgb σ ((3 * k + 2) / 3) else if (3 * k + 2) % 3 = 1 then lgm σ ((3 * k + 2) / 3) else lgz σ ((3 * k + 2) / 3)) = _
  rw [if_neg (by omega), if_neg (by omega), show (3 * k + 2) / 3 = k by omega]
/-- only pointwise -/
theorem RM.cg (h : RM S M σ m t) (e0 : nz σ' = nz σ) (e1 : nd σ' = nd σ) (e2 : nb σ' = nb σ) (e3 : mi σ' = mi σ) (e4 : al σ' = al σ) (e5 : mv σ' = mv σ) (e : ∀ g, 2 ≤ g → g ≤ 17 → σ' g = σ g) : RM S M σ' m t := by
  refine ⟨h.1.mono (fun s _ => ?_) (fun j _ i hd => ?_), by rw [e5]; exact h.2⟩
  · unfold cM9
    rw [e0, e1, e2, e3, e4, e5]
  · have ed : rD σ' j i = rD σ j i := by unfold rD; rw [e0, e1, e2, e5]
    rw [ed] at hd
    refine ⟨hd, ?_⟩
    unfold rv
    rw [show cap σ' = cap σ from e 2 (by omega) (by omega), show beg σ' = beg σ from e 3 (by omega) (by omega), show fin σ' = fin σ from e 4 (by omega) (by omega), show sda σ' = sda σ from e 5 (by omega) (by omega), show sdb σ' = sdb σ from e 6 (by omega) (by omega), show hold σ' = hold σ from e 7 (by omega) (by omega), show lock σ' = lock σ from e 8 (by omega) (by omega), show shut σ' = shut σ from e 9 (by omega) (by omega), show plc σ' = plc σ from e 10 (by omega) (by omega), show rgt σ' = rgt σ from e 11 (by omega) (by omega), show hst σ' = hst σ from e 12 (by omega) (by omega), show blk σ' = blk σ from e 13 (by omega) (by omega), show rfs σ' = rfs σ from e 14 (by omega) (by omega), show lgb σ' = lgb σ from e 15 (by omega) (by omega), show lgm σ' = lgm σ from e 16 (by omega) (by omega), show lgz σ' = lgz σ from e 17 (by omega) (by omega)]
/-- one entry changed -/
theorem RM.u {f jf i w : Nat} (h : RM S M σ m t) (hf : (f = 2 ∧ jf = 4) ∨ (f = 3 ∧ jf = 5) ∨ (f = 4 ∧ jf = 6) ∨ (f = 9 ∧ jf = 11) ∨ (f = 10 ∧ jf = 13) ∨ (f = 11 ∧ jf = 14) ∨ (f = 13 ∧ jf = 16) ∨ (f = 14 ∧ jf = 17)) (hi : i < pN S (M jf)) : RM (sI S (M jf) i (nI w)) M (up σ f i w) m t := by
  have hj : jf ∈ mAs := by rcases hf with q | q | q | q | q | q | q | q <;> rw [q.2] <;> decide
  have ec : cM9 (up σ f i w) t = cM9 σ t := by
    funext s
    rcases hf with q | q | q | q | q | q | q | q <;> rw [q.1] <;> rfl
  have ed : rD (up σ f i w) = rD σ := by
    funext j k
    rcases hf with q | q | q | q | q | q | q | q <;> rw [q.1] <;> rfl
  have em : mv (up σ f i w) = mv σ := by rcases hf with q | q | q | q | q | q | q | q <;> rw [q.1] <;> rfl
  refine ⟨?_, by rw [em]; exact h.2⟩
  rw [ec, ed]
  refine (h.1.sI (v := nI w) hj hi).mono (fun _ _ => rfl) (fun j hj' k hd => ⟨by unfold upD; rw [hd, Bool.or_true], ?_⟩)
  unfold upR
  by_cases e : j = jf ∧ k = i
  · rw [if_pos e, e.1, e.2]
    rcases hf with q | q | q | q | q | q | q | q <;> rw [q.1, q.2] <;> show nI (up σ _ i w _ i) = nI w <;> rw [up_eq]
  · rw [if_neg e]
    by_cases ej : j = jf
    · have ek : k ≠ i := fun q => e ⟨ej, q⟩
      rw [ej]
      rcases hf with q | q | q | q | q | q | q | q <;> rw [q.1, q.2] <;> show nI (up σ _ i w _ k) = nI (σ _ k) <;> rw [up_i σ ek]
    · simp only [mAs, List.mem_cons, List.not_mem_nil, or_false] at hj'
      rcases hf with q | q | q | q | q | q | q | q <;> rw [q.1] <;> rw [q.2] at ej <;> rcases hj' with q2 | q2 | q2 | q2 | q2 | q2 | q2 | q2 | q2 | q2 | q2 | q2 | q2 <;> rw [q2] at ej ⊢ <;> first | rfl | exact absurd rfl ej
/-- what was thrown -/
theorem RM.th {v : Nat} (h : RM S M σ m t) : RM (sF S 0 m (.int (nI v))) M σ m v := by
  refine ⟨(h.1.sF (s := 0) (v := v) (by decide)).mono (fun s hs => ?_) (fun _ _ _ q => ⟨q, rfl⟩), h.2⟩
  simp only [List.mem_cons, List.not_mem_nil, or_false] at hs
  rcases hs with q | q | q | q | q | q | q <;> rw [q] <;> rfl
theorem RM.mi' {v : Nat} (h : RM S M σ m t) : RM (sF S 1 m (.int (nI v))) M (up σ 1 0 v) m t := by
  refine ⟨(h.1.sF (s := 1) (v := v) (by decide)).mono (fun s hs => ?_) (fun j hj i q => ⟨q, ?_⟩), h.2⟩
  · simp only [List.mem_cons, List.not_mem_nil, or_false] at hs
    rcases hs with q | q | q | q | q | q | q <;> rw [q] <;> rfl
  · unfold rv; split <;> rfl
theorem RM.al' {v : Nat} (h : RM S M σ m t) : RM (sF S 2 m (.int (nI v))) M (up σ 1 1 v) m t := by
  refine ⟨(h.1.sF (s := 2) (v := v) (by decide)).mono (fun s hs => ?_) (fun j hj i q => ⟨q, ?_⟩), h.2⟩
  · simp only [List.mem_cons, List.not_mem_nil, or_false] at hs
    rcases hs with q | q | q | q | q | q | q <;> rw [q] <;> rfl
  · unfold rv; split <;> rfl
end RMS
/-- the reference after a call -/
def MO (S S9 : Ps) (σ' : Sg) (m t : Nat) : Prop := Fr (mP S) S S9 ∧ ∃ M, RM S9 M σ' m t
theorem mP6 {S : Ps} {a : Nat} (h : isK S 6 a) : mP S a := Or.inl h.2
theorem mPa {S : Ps} {M : Nat → Nat} {σ : Sg} {m t j : Nat} (h : RM S M σ m t) (hj : j ∈ mAs) : mP S (M j) := by
  have hk := (h.kd hj).2
  unfold mK at hk
  unfold mP
  split at hk <;> omega
/-- only the class's kinds or the row of answers changed -/
theorem RM.fr {S S' : Ps} {M : Nat → Nat} {σ : Sg} {m t : Nat} {P : Nat → Prop} (h : RM S M σ m t) (F : Fr P S S') (hP : ∀ q, q ∈ pL S → P q → ¬ mP S q) : RM S' M σ m t := by
  obtain ⟨⟨h1, h2, h3, h4, h5, h6⟩, h7⟩ := h
  have n6 : ¬ P m := fun q => hP m h1.1 q (Or.inl h1.2)
  have na : ∀ j, j ∈ mAs → ¬ P (M j) := fun j hj q => hP _ (h3 j hj).2.1.1 q (by
    have hk := (h3 j hj).2.1.2
    unfold mK at hk
    unfold mP
    split at hk <;> omega)
  have en : ∀ j, j ∈ mAs → pN S' (M j) = pN S (M j) := fun j hj => F.N (h3 j hj).2.1 (na j hj)
  refine ⟨⟨F.K h1, fun s hs => (F.F h1 n6 s).trans (h2 s hs), fun j hj => ⟨(F.F h1 n6 j).trans (h3 j hj).1, F.K (h3 j hj).2.1, by rw [en j hj]; exact (h3 j hj).2.2⟩, h4, fun j hj h9 => (en j hj).trans (h5 j hj h9), fun j hj i hd => ?_⟩, by rw [en 19 (by decide)]; exact h7⟩
  rw [en j hj, F.I (h3 j hj).2.1 (na j hj)]; exact h6 j hj i hd
-- rows for -1
section M1
variable {Γ : Cx} {G : Ids} {V : Vx} {cc : ByteArray} {own : String} {rm : Room} {nL k n : Nat} {S : Ps} {lv : List (Nat × Value)} {pc : Nat} {rest : List Value} {off : Int} {tgt a : Nat}
theorem nI_m1 {a : Nat} (ha : a < 2 ^ 31) : ¬ nI a = -1 := fun q => by
  rw [i_eq, nI_toInt ha, show (-1 : Int32).toInt = -1 from rfl] at q; omega
theorem r_m1_eqN (hC : Ctx Γ G V cc own rm nL) (d : decode cc pc = .ok (.if_icmp .eq off, 3)) (ht : (pc : Int) + off = (tgt : Int)) (kk : At Γ G V k n S lv tgt rest) : At Γ G V k n S lv pc (.int (-1) :: .int (-1) :: rest) := r_icmp_eq hC d ht (fun _ => kk) (fun q => absurd rfl q)
theorem r_m1_eqS (hC : Ctx Γ G V cc own rm nL) (d : decode cc pc = .ok (.if_icmp .eq off, 3)) (ht : (pc : Int) + off = (tgt : Int)) (ha : a < 2 ^ 31) (kk : At Γ G V k n S lv (pc + 3) rest) : At Γ G V k n S lv pc (.int (-1) :: .int (nI a) :: rest) := r_icmp_eq hC d ht (fun q => absurd q (nI_m1 ha)) (fun _ => kk)
theorem r_m1_neN (hC : Ctx Γ G V cc own rm nL) (d : decode cc pc = .ok (.if_icmp .ne off, 3)) (ht : (pc : Int) + off = (tgt : Int)) (kk : At Γ G V k n S lv (pc + 3) rest) : At Γ G V k n S lv pc (.int (-1) :: .int (-1) :: rest) := r_icmp_ne hC d ht (fun q => absurd rfl q) (fun _ => kk)
theorem r_m1_neS (hC : Ctx Γ G V cc own rm nL) (d : decode cc pc = .ok (.if_icmp .ne off, 3)) (ht : (pc : Int) + off = (tgt : Int)) (ha : a < 2 ^ 31) (kk : At Γ G V k n S lv tgt rest) : At Γ G V k n S lv pc (.int (-1) :: .int (nI a) :: rest) := r_icmp_ne hC d ht (fun _ => kk) (fun q => absurd q (nI_m1 ha))
end M1
