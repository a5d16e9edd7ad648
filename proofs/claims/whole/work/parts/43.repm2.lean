section RMA
variable {S : Ps} {M : Nat → Nat} {σ : Sg} {m t : Nat}
theorem upD_r {D : Nat → Nat → Bool} {j i j' i' : Nat} (h : D j' i' = true) : upD D j i j' i' = true := by unfold upD; rw [h, Bool.or_true]
theorem upD_e {D : Nat → Nat → Bool} {j i : Nat} : upD D j i j i = true := by unfold upD; simp
theorem upR_e {R : Nat → Nat → Int32} {j i : Nat} {v : Int32} : upR R j i v j i = v := if_pos ⟨rfl, rfl⟩
theorem upR_n {R : Nat → Nat → Int32} {j i j' i' : Nat} {v : Int32} (h : j' ≠ j ∨ i' ≠ i) : upR R j i v j' i' = R j' i' := if_neg (fun q => h.elim (fun z => z q.1) (fun z => z q.2))
theorem RM.iadZ {c b e : Nat} (h : RM S M σ m t) (h8 : nz σ < 8) : RM (sF (sI (sI (sI S (M 4) (nz σ) (nI c)) (M 5) (nz σ) (nI b)) (M 6) (nz σ) (nI e)) 3 m (.int (nI (nz σ + 1)))) M (adZ σ c b e) m t := by
  have l : ∀ j, j ∈ [4, 5, 6] → nz σ < pN S (M j) := fun j hj => by
    simp only [List.mem_cons, List.not_mem_nil, or_false] at hj
    rcases hj with rfl | rfl | rfl <;> rw [h.n (by decide) (by decide)] <;> exact h8
  refine ⟨((((h.1.sI (j := 4) (v := nI c) (by decide) (l 4 (by decide))).sI (j := 5) (v := nI b) (by decide) (l 5 (by decide))).sI (j := 6) (v := nI e) (by decide) (l 6 (by decide))).sF (s := 3) (v := nz σ + 1) (by decide)).mono (fun s hs => ?_) (fun j hj i hd => ?_), h.2⟩
  · simp only [List.mem_cons, List.not_mem_nil, or_false] at hs
    rcases hs with q | q | q | q | q | q | q <;> rw [q] <;> rfl
  · have hz : ∀ j, j < 8 → rD (adZ σ c b e) j i = true → i = nz σ ∨ rD σ j i = true := fun j h8 hd => by
      unfold rD at hd ⊢
      rw [if_pos h8] at hd ⊢
      have h9 : 1 ≤ i ∧ i < nz σ + 1 := of_decide_eq_true hd
      by_cases c9 : i = nz σ
      · exact Or.inl c9
      · exact Or.inr (decide_eq_true (by omega))
    have ee : ∀ f, f ≠ 0 → i ≠ nz σ → adZ σ c b e f i = σ f i := fun f f0 hi => by unfold adZ; rw [up_i _ hi, up_i _ hi, up_i _ hi, up_f _ f0]
    simp only [mAs, List.mem_cons, List.not_mem_nil, or_false] at hj
    rcases hj with rfl | rfl | rfl | rfl | rfl | rfl | rfl | rfl | rfl | rfl | rfl | rfl | rfl
    · by_cases c9 : i = nz σ
      · subst c9
        refine ⟨upD_r (upD_r upD_e), ?_⟩
        rw [upR_n (Or.inl (by decide)), upR_n (Or.inl (by decide)), upR_e]
        show nI (adZ σ c b e 2 (nz σ)) = nI c
        unfold adZ; rw [up_f _ (by decide), up_f _ (by decide), up_eq]
      · refine ⟨upD_r (upD_r (upD_r ((hz 4 (by decide) hd).resolve_left c9))), ?_⟩
        rw [upR_n (Or.inr c9), upR_n (Or.inr c9), upR_n (Or.inr c9)]
        show nI (adZ σ c b e 2 i) = nI (σ 2 i)
        rw [ee 2 (by decide) c9]
    · by_cases c9 : i = nz σ
      · subst c9
        refine ⟨upD_r upD_e, ?_⟩
        rw [upR_n (Or.inl (by decide)), upR_e]
        show nI (adZ σ c b e 3 (nz σ)) = nI b
        unfold adZ; rw [up_f _ (by decide), up_eq]
      · refine ⟨upD_r (upD_r (upD_r ((hz 5 (by decide) hd).resolve_left c9))), ?_⟩
        rw [upR_n (Or.inr c9), upR_n (Or.inr c9), upR_n (Or.inr c9)]
        show nI (adZ σ c b e 3 i) = nI (σ 3 i)
        rw [ee 3 (by decide) c9]
    · by_cases c9 : i = nz σ
      · subst c9
        refine ⟨upD_e, ?_⟩
        rw [upR_e]
        show nI (adZ σ c b e 4 (nz σ)) = nI e
        unfold adZ; rw [up_eq]
      · refine ⟨upD_r (upD_r (upD_r ((hz 6 (by decide) hd).resolve_left c9))), ?_⟩
        rw [upR_n (Or.inr c9), upR_n (Or.inr c9), upR_n (Or.inr c9)]
        show nI (adZ σ c b e 4 i) = nI (σ 4 i)
        rw [ee 4 (by decide) c9]
    all_goals exact ⟨upD_r (upD_r (upD_r hd)), by rw [upR_n (Or.inl (by decide)), upR_n (Or.inl (by decide)), upR_n (Or.inl (by decide))]; rfl⟩
theorem RM.iadD {p q hh kk : Nat} (h : RM S M σ m t) (h12 : nd σ < 12) : RM (sF (sI (sI (sI (sI (sI S (M 8) (2 * nd σ) (nI p)) (M 8) (2 * nd σ + 1) (nI q)) (M 9) (nd σ) (nI hh)) (M 10) (nd σ) (nI kk)) (M 11) (nd σ) (nI 0)) 7 m (.int (nI (nd σ + 1)))) M (adD σ p q hh kk) m t := by
  have l8 : 2 * nd σ + 1 < pN S (M 8) := by rw [h.n (by decide) (by decide)]; show _ < 24; omega
  have l : ∀ j, j ∈ [9, 10, 11] → nd σ < pN S (M j) := fun j hj => by
    simp only [List.mem_cons, List.not_mem_nil, or_false] at hj
    rcases hj with rfl | rfl | rfl <;> rw [h.n (by decide) (by decide)] <;> exact h12
  refine ⟨((((((h.1.sI (j := 8) (v := nI p) (by decide) (Nat.lt_of_succ_lt l8)).sI (j := 8) (v := nI q) (by decide) l8).sI (j := 9) (v := nI hh) (by decide) (l 9 (by decide))).sI (j := 10) (v := nI kk) (by decide) (l 10 (by decide))).sI (j := 11) (v := nI 0) (by decide) (l 11 (by decide))).sF (s := 7) (v := nd σ + 1) (by decide)).mono (fun s hs => ?_) (fun j hj i hd => ?_), h.2⟩
  · simp only [List.mem_cons, List.not_mem_nil, or_false] at hs
    rcases hs with q | q | q | q | q | q | q <;> rw [q] <;> rfl
  · have e : ∀ f, f ≠ 0 → ∀ i, i ≠ nd σ → adD σ p q hh kk f i = σ f i := fun f f0 i hi => by unfold adD; rw [up_i _ hi, up_i _ hi, up_i _ hi, up_i _ hi, up_i _ hi, up_f _ f0]
    have s5 : adD σ p q hh kk 5 (nd σ) = p := by unfold adD; rw [up_f _ (by decide), up_f _ (by decide), up_f _ (by decide), up_f _ (by decide), up_eq]
    have s6 : adD σ p q hh kk 6 (nd σ) = q := by unfold adD; rw [up_f _ (by decide), up_f _ (by decide), up_f _ (by decide), up_eq]
    have s7 : adD σ p q hh kk 7 (nd σ) = hh := by unfold adD; rw [up_f _ (by decide), up_f _ (by decide), up_eq]
    have s8 : adD σ p q hh kk 8 (nd σ) = kk := by unfold adD; rw [up_f _ (by decide), up_eq]
    have s9 : adD σ p q hh kk 9 (nd σ) = 0 := by unfold adD; rw [up_eq]
    have dn9 : ∀ j, 8 < j → j < 12 → rD (adD σ p q hh kk) j i = true → i = nd σ ∨ rD σ j i = true := fun j h8 h9 hd => by
      unfold rD at hd ⊢
      rw [if_neg (by omega), if_neg (by omega), if_pos h9] at hd ⊢
      have h9 : i < nd σ + 1 := of_decide_eq_true hd
      by_cases c9 : i = nd σ
      · exact Or.inl c9
      · exact Or.inr (decide_eq_true (by omega))
    simp only [mAs, List.mem_cons, List.not_mem_nil, or_false] at hj
    rcases hj with rfl | rfl | rfl | rfl | rfl | rfl | rfl | rfl | rfl | rfl | rfl | rfl | rfl
    case inr.inr.inr.inl =>
      have h9 : i < 2 * (nd σ + 1) := of_decide_eq_true hd
      show _ ∧ nI (if i % 2 = 0 then adD σ p q hh kk 5 (i / 2) else adD σ p q hh kk 6 (i / 2)) = _
      rw [upR_n (Or.inl (by decide)), upR_n (Or.inl (by decide)), upR_n (Or.inl (by decide))]
      by_cases c1 : i = 2 * nd σ
      · refine ⟨upD_r (upD_r (upD_r (upD_r (by rw [c1]; exact upD_e)))), ?_⟩
        rw [upR_n (Or.inr (by omega)), c1, upR_e, if_pos (by omega), show 2 * nd σ / 2 = nd σ by omega, s5]
      · by_cases c2 : i = 2 * nd σ + 1
        · refine ⟨upD_r (upD_r (upD_r (by rw [c2]; exact upD_e))), ?_⟩
          rw [c2, upR_e, if_neg (by omega), show (2 * nd σ + 1) / 2 = nd σ by omega, s6]
        · refine ⟨upD_r (upD_r (upD_r (upD_r (upD_r (decide_eq_true (by omega)))))), ?_⟩
          rw [upR_n (Or.inr c2), upR_n (Or.inr c1), e 5 (by decide) _ (by omega), e 6 (by decide) _ (by omega)]
          rfl
    case inr.inr.inr.inr.inl =>
      by_cases c9 : i = nd σ
      · subst c9
        refine ⟨upD_r (upD_r upD_e), ?_⟩
        rw [upR_n (Or.inl (by decide)), upR_n (Or.inl (by decide)), upR_e]
        exact congrArg nI s7
      · refine ⟨upD_r (upD_r (upD_r (upD_r (upD_r ((dn9 9 (by decide) (by decide) hd).resolve_left c9))))), ?_⟩
        rw [upR_n (Or.inr c9), upR_n (Or.inr c9), upR_n (Or.inr c9), upR_n (Or.inl (by decide)), upR_n (Or.inl (by decide))]
        exact congrArg nI (e 7 (by decide) i c9)
    case inr.inr.inr.inr.inr.inl =>
      by_cases c9 : i = nd σ
      · subst c9
        refine ⟨upD_r upD_e, ?_⟩
        rw [upR_n (Or.inl (by decide)), upR_e]
        exact congrArg nI s8
      · refine ⟨upD_r (upD_r (upD_r (upD_r (upD_r ((dn9 10 (by decide) (by decide) hd).resolve_left c9))))), ?_⟩
        rw [upR_n (Or.inr c9), upR_n (Or.inr c9), upR_n (Or.inr c9), upR_n (Or.inl (by decide)), upR_n (Or.inl (by decide))]
        exact congrArg nI (e 8 (by decide) i c9)
    case inr.inr.inr.inr.inr.inr.inl =>
      by_cases c9 : i = nd σ
      · subst c9
        refine ⟨upD_e, ?_⟩
        rw [upR_e]
        exact congrArg nI s9
      · refine ⟨upD_r (upD_r (upD_r (upD_r (upD_r ((dn9 11 (by decide) (by decide) hd).resolve_left c9))))), ?_⟩
        rw [upR_n (Or.inr c9), upR_n (Or.inr c9), upR_n (Or.inr c9), upR_n (Or.inl (by decide)), upR_n (Or.inl (by decide))]
        exact congrArg nI (e 9 (by decide) i c9)
    all_goals exact ⟨upD_r (upD_r (upD_r (upD_r (upD_r hd)))), by rw [upR_n (Or.inl (by decide)), upR_n (Or.inl (by decide)), upR_n (Or.inl (by decide)), upR_n (Or.inl (by decide)), upR_n (Or.inl (by decide))]; rfl⟩
theorem RM.iadB {hh rr : Nat} (h : RM S M σ m t) (hnb : nb σ < 10) : RM (sF (sI (sI (sI (sI (sI S (M 13) (nb σ) (nI 0)) (M 14) (nb σ) (nI rr)) (M 15) (nb σ) (hI hh)) (M 16) (nb σ) (nI 0)) (M 17) (nb σ) (nI 0)) 12 m (.int (nI (nb σ + 1)))) M (adB σ hh rr) m t := by
  have l : ∀ j, j ∈ [13, 14, 15, 16, 17] → nb σ < pN S (M j) := fun j hj => by
    simp only [List.mem_cons, List.not_mem_nil, or_false] at hj
    rcases hj with rfl | rfl | rfl | rfl | rfl <;> rw [h.n (by decide) (by decide)] <;> exact hnb
  obtain ⟨e1, e2, e3, e4, e5, e6, e7, e8, e9, e10, -, -⟩ := adB_f (σ := σ) (hh := hh) (rr := rr) hnb
  obtain ⟨σ', hσ⟩ : ∃ σ', σ' = adB σ hh rr := ⟨_, rfl⟩
  rw [← hσ] at e1 e2 e3 e4 e5 e6 e7 e8 e9 e10 ⊢
  have g1 : σ' 1 = σ 1 := e4 1 (by omega) (by omega) (by omega) (by omega)
  have gz : nz σ' = nz σ := e2 0 (by omega) (by omega)
  have gd : nd σ' = nd σ := e2 1 (by omega) (by omega)
  have gm : mv σ' = mv σ := congrFun g1 2
  refine ⟨((((((h.1.sI (j := 13) (v := nI 0) (by decide) (l 13 (by decide))).sI (j := 14) (v := nI rr) (by decide) (l 14 (by decide))).sI (j := 15) (v := hI hh) (by decide) (l 15 (by decide))).sI (j := 16) (v := nI 0) (by decide) (l 16 (by decide))).sI (j := 17) (v := nI 0) (by decide) (l 17 (by decide))).sF (s := 12) (v := nb σ + 1) (by decide)).mono (fun s hs => ?_) (fun j hj i hd => ?_), by rw [gm]; exact h.2⟩
  · simp only [List.mem_cons, List.not_mem_nil, or_false] at hs
    rcases hs with q | q | q | q | q | q | q <;> rw [q]
    · rfl
    · exact congrFun g1 0
    · exact congrFun g1 1
    · exact gz
    · exact gd
    · exact e1
    · exact gm
  · have e : ∀ f, 1 ≤ f → f < 10 → σ' f = σ f := fun f h1 h2 => e4 f (by omega) (by omega) (by omega) (by omega)
    have bn9 : ∀ j, 12 ≤ j → j < 18 → rD σ' j i = true → i = nb σ ∨ rD σ j i = true := fun j h8 h9 hd => by
      unfold rD at hd ⊢
      rw [if_neg (by omega), if_neg (by omega), if_neg (by omega), if_pos h9] at hd ⊢
      rw [e1] at hd
      have h9 : i < nb σ + 1 := of_decide_eq_true hd
      by_cases c9 : i = nb σ
      · exact Or.inl c9
      · exact Or.inr (decide_eq_true (by omega))
    have rd : ∀ j, (j < 12 ∨ 18 ≤ j) → rD σ' j i = rD σ j i := fun j hj => by
      unfold rD
      rw [gz, gd, gm]
      by_cases c1 : j < 8
      · rw [if_pos c1, if_pos c1]
      · rw [if_neg c1, if_neg c1]
        by_cases c2 : j = 8
        · rw [if_pos c2, if_pos c2]
        · rw [if_neg c2, if_neg c2]
          by_cases c3 : j < 12
          · rw [if_pos c3, if_pos c3]
          · rw [if_neg c3, if_neg c3, if_neg (by omega), if_neg (by omega)]
    have old : ∀ j, rD σ j i = true → rv σ' j i = rv σ j i → (j < 13 ∨ 17 < j ∨ i ≠ nb σ) → upD (upD (upD (upD (upD (rD σ) 13 (nb σ)) 14 (nb σ)) 15 (nb σ)) 16 (nb σ)) 17 (nb σ) j i = true ∧ rv σ' j i = upR (upR (upR (upR (upR (rv σ) 13 (nb σ) (nI 0)) 14 (nb σ) (nI rr)) 15 (nb σ) (hI hh)) 16 (nb σ) (nI 0)) 17 (nb σ) (nI 0) j i := fun j h1 h2 h3 => by
      refine ⟨upD_r (upD_r (upD_r (upD_r (upD_r h1)))), ?_⟩
      rw [upR_n (by omega), upR_n (by omega), upR_n (by omega), upR_n (by omega), upR_n (by omega)]; exact h2
    simp only [mAs, List.mem_cons, List.not_mem_nil, or_false] at hj
    rcases hj with rfl | rfl | rfl | rfl | rfl | rfl | rfl | rfl | rfl | rfl | rfl | rfl | rfl
    · exact old 4 (by rw [← rd 4 (by omega)]; exact hd) (by show nI (σ' 2 i) = nI (σ 2 i); rw [e 2 (by omega) (by omega)]) (by omega)
    · exact old 5 (by rw [← rd 5 (by omega)]; exact hd) (by show nI (σ' 3 i) = nI (σ 3 i); rw [e 3 (by omega) (by omega)]) (by omega)
    · exact old 6 (by rw [← rd 6 (by omega)]; exact hd) (by show nI (σ' 4 i) = nI (σ 4 i); rw [e 4 (by omega) (by omega)]) (by omega)
    · exact old 8 (by rw [← rd 8 (by omega)]; exact hd) (by show nI (if i % 2 = 0 then σ' 5 (i / 2) else σ' 6 (i / 2)) = nI (if i % 2 = 0 then σ 5 (i / 2) else σ 6 (i / 2)); rw [e 5 (by omega) (by omega), e 6 (by omega) (by omega)]) (by omega)
    · exact old 9 (by rw [← rd 9 (by omega)]; exact hd) (by show nI (σ' 7 i) = nI (σ 7 i); rw [e 7 (by omega) (by omega)]) (by omega)
    · exact old 10 (by rw [← rd 10 (by omega)]; exact hd) (by show nI (σ' 8 i) = nI (σ 8 i); rw [e 8 (by omega) (by omega)]) (by omega)
    · exact old 11 (by rw [← rd 11 (by omega)]; exact hd) (by show nI (σ' 9 i) = nI (σ 9 i); rw [e 9 (by omega) (by omega)]) (by omega)
    · by_cases c9 : i = nb σ
      · subst c9
        refine ⟨upD_r (upD_r (upD_r (upD_r upD_e))), ?_⟩
        rw [upR_n (Or.inl (by decide)), upR_n (Or.inl (by decide)), upR_n (Or.inl (by decide)), upR_n (Or.inl (by decide)), upR_e]
        exact congrArg nI e6
      · exact old 13 ((bn9 13 (by omega) (by omega) hd).resolve_left c9) (congrArg nI (e5 10 (by omega) (by omega) i c9)) (by omega)
    · by_cases c9 : i = nb σ
      · subst c9
        refine ⟨upD_r (upD_r (upD_r upD_e)), ?_⟩
        rw [upR_n (Or.inl (by decide)), upR_n (Or.inl (by decide)), upR_n (Or.inl (by decide)), upR_e]
        exact congrArg nI e7
      · exact old 14 ((bn9 14 (by omega) (by omega) hd).resolve_left c9) (congrArg nI (e5 11 (by omega) (by omega) i c9)) (by omega)
    · by_cases c9 : i = nb σ
      · subst c9
        refine ⟨upD_r (upD_r upD_e), ?_⟩
        rw [upR_n (Or.inl (by decide)), upR_n (Or.inl (by decide)), upR_e]
        exact congrArg hI e8
      · exact old 15 ((bn9 15 (by omega) (by omega) hd).resolve_left c9) (congrArg hI (e5 12 (by omega) (by omega) i c9)) (by omega)
    · by_cases c9 : i = nb σ
      · subst c9
        refine ⟨upD_r upD_e, ?_⟩
        rw [upR_n (Or.inl (by decide)), upR_e]
        exact congrArg nI e9
      · exact old 16 ((bn9 16 (by omega) (by omega) hd).resolve_left c9) (congrArg nI (e5 13 (by omega) (by omega) i c9)) (by omega)
    · by_cases c9 : i = nb σ
      · subst c9
        refine ⟨upD_e, ?_⟩
        rw [upR_e]
        exact congrArg nI e10
      · exact old 17 ((bn9 17 (by omega) (by omega) hd).resolve_left c9) (congrArg nI (e5 14 (by omega) (by omega) i c9)) (by omega)
    · have e15 : ∀ f, 15 ≤ f → f < 18 → σ' f = σ f := fun f h1 h2 => e4 f (by omega) (by omega) (by omega) (by omega)
      refine old 19 (by rw [← rd 19 (by omega)]; exact hd) ?_ (by omega)
      show nI (if i % 3 = 0 then σ' 15 (i / 3) else if i % 3 = 1 then σ' 16 (i / 3) else σ' 17 (i / 3)) = nI (if i % 3 = 0 then σ 15 (i / 3) else if i % 3 = 1 then σ 16 (i / 3) else σ 17 (i / 3))
      rw [e15 15 (by omega) (by omega), e15 16 (by omega) (by omega), e15 17 (by omega) (by omega)]
/-- one move more in the log -/
theorem RM.ilg {b mm z : Nat} (h : RM S M σ m t) (hl : 3 * mv σ + 2 < pN S (M 19)) : RM (sF (sI (sI (sI S (M 19) (3 * mv σ) (nI b)) (M 19) (3 * mv σ + 1) (nI mm)) (M 19) (3 * mv σ + 2) (nI z)) 18 m (.int (nI (mv σ + 1)))) M (lgS σ b mm z) m t := by
  have emv : mv (lgS σ b mm z) = mv σ + 1 := up_eq _ _ _ _
  refine ⟨((((h.1.sI (j := 19) (v := nI b) (by decide) (by omega)).sI (j := 19) (v := nI mm) (by decide) (by exact (show 3 * mv σ + 1 < pN S (M 19) by omega))).sI (j := 19) (v := nI z) (by decide) hl).sF (s := 18) (v := mv σ + 1) (by decide)).mono (fun s hs => ?_) (fun j hj i hd => ?_), ?_⟩
  · simp only [List.mem_cons, List.not_mem_nil, or_false] at hs
    rcases hs with q | q | q | q | q | q | q <;> rw [q]
    all_goals first | rfl | exact emv
  · simp only [mAs, List.mem_cons, List.not_mem_nil, or_false] at hj
    rcases hj with rfl | rfl | rfl | rfl | rfl | rfl | rfl | rfl | rfl | rfl | rfl | rfl | rfl
    case inr.inr.inr.inr.inr.inr.inr.inr.inr.inr.inr.inr =>
      have h9 : i < 3 * (mv σ + 1) := by have := of_decide_eq_true hd; rw [emv] at this; exact this
      have s15 : ∀ k, lgS σ b mm z 15 k = if k = mv σ then b else σ 15 k := fun k => by
        unfold lgS; rw [up_f _ (by decide), up_f _ (by decide), up_f _ (by decide)]
        by_cases c : k = mv σ
        · rw [if_pos c, c, up_eq]
        · rw [if_neg c, up_i _ c]
      have s16 : ∀ k, lgS σ b mm z 16 k = if k = mv σ then mm else σ 16 k := fun k => by
        unfold lgS; rw [up_f _ (by decide), up_f _ (by decide)]
        by_cases c : k = mv σ
        · rw [if_pos c, c, up_eq]
        · rw [if_neg c, up_i _ c, up_f _ (by decide)]
      have s17 : ∀ k, lgS σ b mm z 17 k = if k = mv σ then z else σ 17 k := fun k => by
        unfold lgS; rw [up_f _ (by decide)]
        by_cases c : k = mv σ
        · rw [if_pos c, c, up_eq]
        · rw [if_neg c, up_i _ c, up_f _ (by decide), up_f _ (by decide)]
      show _ ∧ nI (if i % 3 = 0 then lgS σ b mm z 15 (i / 3) else if i % 3 = 1 then lgS σ b mm z 16 (i / 3) else lgS σ b mm z 17 (i / 3)) = _
      rw [s15, s16, s17]
      by_cases c1 : i = 3 * mv σ
      · refine ⟨upD_r (upD_r (by rw [c1]; exact upD_e)), ?_⟩
        rw [upR_n (Or.inr (by omega)), upR_n (Or.inr (by omega)), c1, upR_e, if_pos (by omega), if_pos (by omega)]
      · by_cases c2 : i = 3 * mv σ + 1
        · refine ⟨upD_r (by rw [c2]; exact upD_e), ?_⟩
          rw [upR_n (Or.inr (by omega)), c2, upR_e, if_neg (by omega), if_pos (by omega), if_pos (by omega)]
        · by_cases c3 : i = 3 * mv σ + 2
          · refine ⟨by rw [c3]; exact upD_e, ?_⟩
            rw [c3, upR_e, if_neg (by omega), if_neg (by omega), if_pos (by omega)]
          · refine ⟨upD_r (upD_r (upD_r (decide_eq_true (by omega)))), ?_⟩
            rw [upR_n (Or.inr c3), upR_n (Or.inr c2), upR_n (Or.inr c1), if_neg (show ¬ i / 3 = mv σ by omega), if_neg (show ¬ i / 3 = mv σ by omega), if_neg (show ¬ i / 3 = mv σ by omega)]
            rfl
    all_goals exact ⟨upD_r (upD_r (upD_r hd)), by rw [upR_n (Or.inl (by decide)), upR_n (Or.inl (by decide)), upR_n (Or.inl (by decide))]; rfl⟩
  · have h9 := h.2
    rw [emv]
    exact ⟨h9.1, h9.2.1, by show pN S (M 19) ≤ _; omega, by show _ ≤ pN S (M 19); omega⟩
def gM (M : Nat → Nat) (a : Nat) : Nat → Nat := fun j => if j = 19 then a else M j
/-- the log in another row, twice as long -/
theorem RM.grow {a L : Nat} (h : RM S M σ m t) (hL : pN S (M 19) = L) (hf : 3 * mv σ = L) (hL2 : L ≤ 6000) (ha : a ∉ pL S) : RM (sF (sIs (nwA S a 7 (2 * L)) a (va_cpy (pI (nwA S a 7 (2 * L)) (M 19)) (pI (nwA S a 7 (2 * L)) a) 0 0 L)) 19 m (.ref a)) (gM M a) σ m t := by
  obtain ⟨⟨h1, h2, h3, h4, h5, h6⟩, h7⟩ := h
  have na : ∀ k q, isK S k q → q ≠ a := fun k q hq => isK_fr hq ha
  have fF : ∀ s, s ≠ 19 → pF (sF (sIs (nwA S a 7 (2 * L)) a (va_cpy (pI (nwA S a 7 (2 * L)) (M 19)) (pI (nwA S a 7 (2 * L)) a) 0 0 L)) 19 m (.ref a)) s m = pF S s m := fun s hs => pF_sF_j _ _ _ _ hs
  have g19 : gM M a 19 = a := if_pos rfl
  have gn : ∀ j, j ≠ 19 → gM M a j = M j := fun j hj => if_neg hj
  have mne : ∀ j, j ∈ mAs → M j ≠ a := fun j hj => na _ _ (h3 j hj).2.1
  refine ⟨⟨isK_sF.mpr (isK_sIs.mpr (isK_nwA h1 ha)), fun s hs => ?_, fun j hj => ?_, fun i hi j hj e => ?_, fun j hj h9 => ?_, fun j hj i hd => ?_⟩, ?_⟩
  · rw [fF s (fun q => by rw [q] at hs; exact absurd hs (by decide))]; exact h2 s hs
  · by_cases c : j = 19
    · subst c
      rw [g19]
      refine ⟨pF_sF_eq _ _ _ _, isK_sF.mpr (isK_sIs.mpr isK_nwA'), ?_⟩
      show (if a = a then 2 * L else _) < _
      rw [if_pos rfl]; omega
    · rw [gn j c, fF j c]
      refine ⟨(h3 j hj).1, isK_sF.mpr (isK_sIs.mpr (isK_nwA (h3 j hj).2.1 ha)), ?_⟩
      show (if M j = a then 2 * L else pN S (M j)) < _
      rw [if_neg (mne j hj)]; exact (h3 j hj).2.2
  · by_cases c : i = 19
    · by_cases c2 : j = 19
      · rw [c, c2]
      · rw [c, g19, gn j c2] at e; exact absurd e.symm (mne j hj)
    · by_cases c2 : j = 19
      · rw [c2, g19, gn i c] at e; exact absurd e (mne i hi)
      · rw [gn i c, gn j c2] at e; exact h4 i hi j hj e
  · rw [gn j h9]
    show (if M j = a then 2 * L else pN S (M j)) = _
    rw [if_neg (mne j hj)]; exact h5 j hj h9
  · by_cases c : j = 19
    · subst c
      rw [g19]
      have h8 := h6 19 hj i hd
      rw [hL] at h8
      refine ⟨?_, ?_⟩
      · show i < (if a = a then 2 * L else _); rw [if_pos rfl]; omega
      · show (if a = a then va_cpy (pI (nwA S a 7 (2 * L)) (M 19)) (pI (nwA S a 7 (2 * L)) a) 0 0 L else _) i = _
        rw [if_pos rfl]
        show (if 0 ≤ i ∧ i < 0 + L then pI (nwA S a 7 (2 * L)) (M 19) (0 + (i - 0)) else _) = _
        rw [if_pos ⟨Nat.zero_le _, by omega⟩, show 0 + (i - 0) = i by omega, pI_nwA, if_neg (mne 19 (by decide))]
        exact h8.2
    · rw [gn j c]
      have h8 := h6 j hj i hd
      refine ⟨?_, ?_⟩
      · show i < (if M j = a then 2 * L else pN S (M j)); rw [if_neg (mne j hj)]; exact h8.1
      · show (if M j = a then _ else pI (nwA S a 7 (2 * L)) (M j)) i = _
        rw [if_neg (mne j hj), pI_nwA, if_neg (mne j hj)]; exact h8.2
  · rw [g19]
    show (if a = a then 2 * L else _) % 3 = 0 ∧ 48 ≤ (if a = a then 2 * L else _) ∧ (if a = a then 2 * L else _) ≤ _ ∧ _ ≤ (if a = a then 2 * L else _)
    rw [if_pos rfl]
    rw [hL] at h7
    omega
end RMA
