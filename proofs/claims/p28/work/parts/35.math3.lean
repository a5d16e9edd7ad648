section KEEP2
variable {σ : Sg} {b d z n : Nat}
theorem rq_g {g : Nat} (h0 : g ≠ 0) (h1 : g ≠ 1) (h9 : g ≠ 9) (h10 : g ≠ 10) (h14 : g ≠ 14) (h15 : g ≠ 15) (h16 : g ≠ 16) (h17 : g ≠ 17) (h2 : g ≠ 20 + b) (h4 : g ≠ 40 + b) : rqP σ b d z g = σ g := by
  unfold rqP lgS pdS
  rw [up_ff _ h1, up_ff _ h17, up_ff _ h16, up_ff _ h15, up_ff _ h9, up_ff _ h14, ps_g h0 h10 h2 h4]
theorem rq_0 : rqP σ b d z 0 = psS σ b z 0 := by
  unfold rqP lgS pdS
  rw [up_ff _ (by omega), up_ff _ (by omega), up_ff _ (by omega), up_ff _ (by omega), up_ff _ (by omega), up_ff _ (by omega)]
theorem rq_10 : rqP σ b d z 10 = psS σ b z 10 := by
  unfold rqP lgS pdS
  rw [up_ff _ (by omega), up_ff _ (by omega), up_ff _ (by omega), up_ff _ (by omega), up_ff _ (by omega), up_ff _ (by omega)]
theorem rq_20 {g : Nat} (h : 20 ≤ g) : rqP σ b d z g = psS σ b z g := by
  unfold rqP lgS pdS
  rw [up_ff _ (by omega), up_ff _ (by omega), up_ff _ (by omega), up_ff _ (by omega), up_ff _ (by omega), up_ff _ (by omega)]
theorem pd_mv : mv (pdS σ b d z) = mv σ := by
  show psS σ b z 1 2 = σ 1 2
  rw [ps_g (by omega) (by omega) (by omega) (by omega)]
theorem rq_mi : mi (rqP σ b d z) = mi σ := by
  show psS σ b z 1 0 = σ 1 0
  rw [ps_g (by omega) (by omega) (by omega) (by omega)]
theorem rq_mv : mv (rqP σ b d z) = mv σ + 1 := by
  show mv (pdS σ b d z) + 1 = _
  rw [pd_mv]
theorem rq_l {k : Nat} (hk : k ≠ mv σ) : lgb (rqP σ b d z) k = lgb σ k ∧ lgm (rqP σ b d z) k = lgm σ k ∧ lgz (rqP σ b d z) k = lgz σ k := by
  have e := pd_mv (σ := σ) (b := b) (d := d) (z := z)
  have p : ∀ g, g ≠ 0 → g ≠ 9 → g ≠ 10 → g ≠ 14 → g < 20 → pdS σ b d z g = σ g := fun g g0 g9 g10 g14 g20 => by
    unfold pdS; rw [up_ff _ g9, up_ff _ g14, ps_g g0 g10 (by omega) (by omega)]
  refine ⟨?_, ?_, ?_⟩
  · show up (pdS σ b d z) 15 (mv (pdS σ b d z)) b 15 k = _
    rw [e, up_i _ hk, p 15 (by omega) (by omega) (by omega) (by omega) (by omega)]
  · show up (pdS σ b d z) 16 (mv (pdS σ b d z)) (mi σ) 16 k = _
    rw [e, up_i _ hk, p 16 (by omega) (by omega) (by omega) (by omega) (by omega)]
  · show up (pdS σ b d z) 17 (mv (pdS σ b d z)) z 17 k = _
    rw [e, up_i _ hk, p 17 (by omega) (by omega) (by omega) (by omega) (by omega)]
theorem rq_l' : lgb (rqP σ b d z) (mv σ) = b ∧ lgm (rqP σ b d z) (mv σ) = mi σ ∧ lgz (rqP σ b d z) (mv σ) = z := by
  have e := pd_mv (σ := σ) (b := b) (d := d) (z := z)
  refine ⟨?_, ?_, ?_⟩
  · show up (pdS σ b d z) 15 (mv (pdS σ b d z)) b 15 (mv σ) = _
    rw [e, up_eq]
  · show up (pdS σ b d z) 16 (mv (pdS σ b d z)) (mi σ) 16 (mv σ) = _
    rw [e, up_eq]
  · show up (pdS σ b d z) 17 (mv (pdS σ b d z)) z 17 (mv σ) = _
    rw [e, up_eq]
/-- the stays of the badge that passes -/
theorem ps_own (hb : b < 10) : (sys σ b (ns σ b - 1) = mi σ ∧ ns (psS σ b z) b = ns σ b ∧ sys (psS σ b z) b = sys σ b ∧ syz (psS σ b z) b (ns σ b - 1) = z ∧ ∀ i, i ≠ ns σ b - 1 → syz (psS σ b z) b i = syz σ b i) ∨ (sys σ b (ns σ b - 1) ≠ mi σ ∧ ns (psS σ b z) b = ns σ b + 1 ∧ sys (psS σ b z) b (ns σ b) = mi σ ∧ syz (psS σ b z) b (ns σ b) = z ∧ ∀ i, i ≠ ns σ b → syz (psS σ b z) b i = syz σ b i ∧ sys (psS σ b z) b i = sys σ b i) := by
  unfold psS
  by_cases c : sys σ b (ns σ b - 1) = mi σ
  · rw [if_pos c]
    refine Or.inl ⟨c, ?_, ?_, ?_, fun i hi => ?_⟩
    · show stR σ b z 0 (3 + b) = σ 0 (3 + b); unfold stR; rw [up_f _ (by omega), up_f _ (by omega)]
    · show stR σ b z (40 + b) = σ (40 + b); unfold stR; rw [up_ff _ (by omega), up_ff _ (by omega)]
    · show stR σ b z (20 + b) _ = z; unfold stR; rw [up_f _ (by omega), up_eq]
    · show stR σ b z (20 + b) i = σ (20 + b) i; unfold stR; rw [up_f _ (by omega), up_i _ hi]
  · rw [if_neg c]
    refine Or.inr ⟨c, ?_, ?_, ?_, fun i hi => ⟨?_, ?_⟩⟩
    · show adS σ b z 0 (3 + b) = _; unfold adS; rw [up_f _ (by omega), up_f _ (by omega), up_f _ (by omega), up_eq]
    · show adS σ b z (40 + b) _ = _; unfold adS; rw [up_f _ (by omega), up_eq]
    · show adS σ b z (20 + b) _ = _; unfold adS; rw [up_f _ (by omega), up_f _ (by omega), up_eq]
    · show adS σ b z (20 + b) i = σ (20 + b) i; unfold adS; rw [up_f _ (by omega), up_f _ (by omega), up_i _ hi, up_f _ (by omega)]
    · show adS σ b z (40 + b) i = σ (40 + b) i; unfold adS; rw [up_f _ (by omega), up_i _ hi, up_f _ (by omega), up_f _ (by omega)]
theorem Inv.rq (h : Inv σ n) (hb : b < nb σ) (hd : d < nd σ) (hz : z < nz σ) : Inv (rqP σ b d z) (n + 1) := by
  have hn := h.1.n
  have enz : nz (rqP σ b d z) = nz σ := (congrFun rq_0 0).trans (ps_0 (by omega))
  have enb : nb (rqP σ b d z) = nb σ := (congrFun rq_0 2).trans (ps_0 (by omega))
  have ens : ∀ b', b' ≠ b → ns (rqP σ b d z) b' = ns σ b' := fun b' hb' => (congrFun rq_0 (3 + b')).trans (ps_0 (by omega))
  have ensb : ns (rqP σ b d z) b = ns (psS σ b z) b := congrFun rq_0 (3 + b)
  have e20 : syz (rqP σ b d z) b = syz (psS σ b z) b := rq_20 (by omega)
  have e40 : sys (rqP σ b d z) b = sys (psS σ b z) b := rq_20 (by omega)
  have hSb := h.2.1 b hb
  refine ⟨h.1.rq hz hd, fun b' hb' => ?_, ⟨?_, fun k hk => ?_, fun k hk => ?_⟩, fun b' hb' t => ?_⟩
  · rw [enb] at hb'
    by_cases c : b' = b
    · subst c
      rw [ensb, e20, e40, enz, rq_mi, show plc (rqP σ b' d z) b' = z from (congrFun rq_10 b').trans ps_p]
      obtain ⟨a1, a2, a3, a4, a5, a6, a7⟩ := hSb
      rcases ps_own (σ := σ) (b := b') (z := z) (by omega) with ⟨c1, c2, c3, c4, c5⟩ | ⟨c1, c2, c3, c4, c5⟩
      · rw [c2, c3]
        refine ⟨a1, by omega, a3, a4, a5, fun i hi => ?_, c4⟩
        by_cases ci : i = ns σ b' - 1
        · rw [ci, c4]; exact hz
        · rw [c5 i ci]; exact a6 i hi
      · rw [c2]
        refine ⟨by omega, by omega, ?_, fun i hi => ?_, ?_, fun i hi => ?_, c4⟩
        · rw [(c5 0 (by omega)).2]; exact a3
        · rw [(c5 i (by omega)).2]
          by_cases ci : i + 1 = ns σ b'
          · rw [ci, c3]
            have : i = ns σ b' - 1 := by omega
            rw [this]; omega
          · rw [(c5 (i + 1) ci).2]; exact a4 i (by omega)
        · rw [show ns σ b' + 1 - 1 = ns σ b' by omega, c3]; omega
        · by_cases ci : i = ns σ b'
          · rw [ci, c4]; exact hz
          · rw [(c5 i ci).1]; exact a6 i (by omega)
    · rw [ens b' c, enz, rq_mi, show plc (rqP σ b d z) b' = plc σ b' from (congrFun rq_10 b').trans (ps_p' c), show syz (rqP σ b d z) b' = syz σ b' from rq_g (by omega) (by omega) (by omega) (by omega) (by omega) (by omega) (by omega) (by omega) (by omega) (by omega), show sys (rqP σ b d z) b' = sys σ b' from rq_g (by omega) (by omega) (by omega) (by omega) (by omega) (by omega) (by omega) (by omega) (by omega) (by omega)]
      obtain ⟨a1, a2, a3⟩ := h.2.1 b' hb'
      exact ⟨a1, by omega, a3⟩
  · rw [rq_mv]; have := h.2.2.1.1; omega
  · rw [rq_mv] at hk
    rw [enb, enz, rq_mi]
    by_cases c : k = mv σ
    · subst c
      rw [rq_l'.1, rq_l'.2.1, rq_l'.2.2]; exact ⟨hb, Nat.le_refl _, hz⟩
    · rw [(rq_l c).1, (rq_l c).2.1, (rq_l c).2.2]; exact h.2.2.1.2.1 k (by omega)
  · rw [rq_mv] at hk
    rw [(rq_l (k := k) (by omega)).2.1]
    by_cases c : k + 1 = mv σ
    · rw [c, rq_l'.2.1]; exact (h.2.2.1.2.1 k (by omega)).2.1
    · rw [(rq_l (k := k + 1) c).2.1]; exact h.2.2.1.2.2 k (by omega)
  · rw [enb] at hb'
    rw [rq_mv]
    have eL : lkL (rqP σ b d z) b' t (mv σ + 1) = if b = b' ∧ mi σ ≤ t then z else lkL σ b' t (mv σ) := by
      conv => lhs; unfold lkL
      rw [rq_l'.1, rq_l'.2.1, rq_l'.2.2, lkL_cg (σ := σ) (fun i hi => rq_l (by omega))]
    rw [eL]
    by_cases c : b' = b
    · subst c
      rw [ensb]
      have hP := h.2.2.2 b' hb' t
      rcases ps_own (σ := σ) (b := b') (z := z) (by omega) with ⟨c1, c2, c3, c4, c5⟩ | ⟨c1, c2, c3, c4, c5⟩
      · rw [c2]
        obtain ⟨k, hk⟩ : ∃ k, ns σ b' = k + 1 := ⟨ns σ b' - 1, by have := hSb.1; omega⟩
        rw [hk] at c1 c4 c5 hP ⊢
        simp only [Nat.add_sub_cancel] at c1 c4 c5
        unfold lkS at hP ⊢
        rw [e20, e40, c3, c4, c1]
        rw [c1] at hP
        by_cases ct : mi σ ≤ t
        · rw [if_pos ct, if_pos ⟨rfl, ct⟩]
        · rw [if_neg ct, if_neg (fun q => ct q.2)]
          rw [if_neg ct] at hP
          rw [← hP, lkS_cg (σ := σ) (fun i hi => ⟨by rw [e20]; exact c5 i (by omega), by rw [e40, c3]⟩)]
      · rw [c2]
        unfold lkS
        rw [e20, e40, c3, c4]
        by_cases ct : mi σ ≤ t
        · rw [if_pos ct, if_pos ⟨rfl, ct⟩]
        · rw [if_neg ct, if_neg (fun q => ct q.2), ← hP, lkS_cg (σ := σ) (fun i hi => by rw [e20, e40]; exact c5 i (by omega))]
    · rw [ens b' c, if_neg (fun q => c q.1.symm), lkS_cg (σ := σ) (fun i _ => ⟨congrFun (rq_g (by omega) (by omega) (by omega) (by omega) (by omega) (by omega) (by omega) (by omega) (by omega) (by omega)) i, congrFun (rq_g (by omega) (by omega) (by omega) (by omega) (by omega) (by omega) (by omega) (by omega) (by omega) (by omega)) i⟩)]
      exact h.2.2.2 b' hb' t
-- minutes
theorem cntT_cg {p q : Nat → Bool} : ∀ {n : Nat}, (∀ i, i < n → p i = q i) → cntT p n = cntT q n
  | 0, _ => rfl
  | n + 1, h => by unfold cntT; rw [cntT_cg (fun i hi => h i (by omega)), h n (by omega)]
/-- from s on all alike -/
theorem cntT_sp {p : Nat → Bool} {r : Bool} {s : Nat} : ∀ m, (∀ i, s ≤ i → i < s + m → p i = r) → cntT p (s + m) = cntT p s + (if r = true then m else 0)
  | 0, _ => by cases r <;> rfl
  | m + 1, h => by
    rw [show s + (m + 1) = (s + m) + 1 by omega]
    show cntT p (s + m) + (if p (s + m) = true then 1 else 0) = _
    rw [cntT_sp m (fun i h1 h2 => h i h1 (by omega)), h (s + m) (by omega) (by omega)]
    cases r <;> simp <;> omega
theorem ms_cnt (hS : InvS σ n) (hb : b < nb σ) : ∀ c u, 1 ≤ c → c ≤ ns σ b → sys σ b (c - 1) ≤ u → cntT (fun t => decide (lkS σ b t c = z)) u = msS σ b z c u := by
  intro c
  induction c with
  | zero => intro u h; omega
  | succ c ih =>
    intro u _ h2 h3
    rw [Nat.add_sub_cancel] at h3
    show _ = (if syz σ b c = z then u - sys σ b c else 0) + msS σ b z c (sys σ b c)
    obtain ⟨m, hm⟩ : ∃ m, u = sys σ b c + m := ⟨u - sys σ b c, by omega⟩
    rw [hm, cntT_sp (r := decide (syz σ b c = z)) m (fun i h4 _ => by show decide ((if sys σ b c ≤ i then syz σ b c else lkS σ b i c) = z) = _; rw [if_pos h4])]
    have e1 : cntT (fun t => decide (lkS σ b t (c + 1) = z)) (sys σ b c) = msS σ b z c (sys σ b c) := by
      by_cases c0 : c = 0
      · subst c0
        rw [(hS b hb).2.2.1]; rfl
      · rw [← ih (sys σ b c) (by omega) (by omega) (hS.mono hb (c - 1) c (by omega) (by omega))]
        refine cntT_cg (fun i hi => ?_)
        show decide ((if sys σ b c ≤ i then syz σ b c else lkS σ b i c) = z) = _
        rw [if_neg (by omega)]
    rw [e1]
    by_cases cz : syz σ b c = z
    · rw [if_pos cz, if_pos (decide_eq_true cz)]; omega
    · rw [if_neg cz, if_neg (by simpa using cz)]; omega
theorem ms_min (h : Inv σ n) (hb : b < nb σ) : msS σ b z (ns σ b) (mi σ) = minZ σ b z := by
  have hS := h.2.1 b hb
  rw [← ms_cnt h.2.1 hb (ns σ b) (mi σ) hS.1 (Nat.le_refl _) hS.2.2.2.2.1]
  exact cntT_cg (fun t _ => by rw [h.2.2.2 b hb t])
/-- .. and by the log, entry by entry: since and at, as the reference keeps them -/
def lgA (σ : Sg) (b : Nat) : Nat → Nat × Nat
  | 0 => (0, 0)
  | k + 1 => if lgb σ k = b then (lgm σ k, lgz σ k) else lgA σ b k
def lgM (σ : Sg) (b z : Nat) : Nat → Nat
  | 0 => 0
  | k + 1 => if lgb σ k = b then lgM σ b z k + (if (lgA σ b k).2 = z then lgm σ k - (lgA σ b k).1 else 0) else lgM σ b z k
theorem lgA_le (hL : InvL σ n) : ∀ k, k ≤ mv σ → (lgA σ b k).1 ≤ mi σ ∧ ∀ j, k ≤ j → j < mv σ → (lgA σ b k).1 ≤ lgm σ j := by
  intro k
  induction k with
  | zero => intro _; exact ⟨Nat.zero_le _, fun j _ _ => Nat.zero_le _⟩
  | succ k ih =>
    intro hk
    have h1 := ih (by omega)
    unfold lgA
    split
    · refine ⟨(hL.2.1 k (by omega)).2.1, fun j h2 h3 => ?_⟩
      have : ∀ i, k + i < mv σ → lgm σ k ≤ lgm σ (k + i) := by
        intro i
        induction i with
        | zero => intro _; exact Nat.le_refl _
        | succ i ihi =>
          intro q
          have h4 := hL.2.2 (k + i) (by omega)
          have h5 := ihi (by omega)
          rw [show k + (i + 1) = k + i + 1 by omega]; omega
      have h6 := this (j - k) (by omega)
      rw [show k + (j - k) = j by omega] at h6
      exact h6
    · exact ⟨h1.1, fun j h2 h3 => h1.2 j (by omega) h3⟩
theorem lgA_lk (hL : InvL σ n) : ∀ k, k ≤ mv σ → ∀ t, (lgA σ b k).1 ≤ t → lkL σ b t k = (lgA σ b k).2 := by
  intro k
  induction k with
  | zero => intro _ t _; rfl
  | succ k ih =>
    intro hk t ht
    unfold lgA at ht ⊢
    unfold lkL
    by_cases c : lgb σ k = b
    · rw [if_pos c] at ht ⊢
      rw [if_pos ⟨c, ht⟩]
    · rw [if_neg c] at ht ⊢
      rw [if_neg (fun q => c q.1)]
      exact ih (by omega) t ht
theorem lgM_cnt (hL : InvL σ n) : ∀ k, k ≤ mv σ → lgM σ b z k = cntT (fun t => decide (lkL σ b t k = z)) (lgA σ b k).1 := by
  intro k
  induction k with
  | zero => intro _; rfl
  | succ k ih =>
    intro hk
    have h1 := ih (by omega)
    have h2 := (lgA_le (b := b) hL k (by omega)).2 k (Nat.le_refl _) (by omega)
    have h3 := lgA_lk (b := b) hL k (by omega)
    show (if lgb σ k = b then _ else _) = cntT _ (if lgb σ k = b then (lgm σ k, lgz σ k) else lgA σ b k).1
    by_cases c : lgb σ k = b
    · rw [if_pos c, if_pos c, h1]
      show _ = cntT _ (lgm σ k)
      obtain ⟨m, hm⟩ : ∃ m, lgm σ k = (lgA σ b k).1 + m := ⟨lgm σ k - (lgA σ b k).1, by omega⟩
      have e : cntT (fun t => decide (lkL σ b t (k + 1) = z)) (lgm σ k) = cntT (fun t => decide (lkL σ b t k = z)) (lgm σ k) := cntT_cg (fun t ht => by
        show decide ((if lgb σ k = b ∧ lgm σ k ≤ t then lgz σ k else lkL σ b t k) = z) = _
        rw [if_neg (fun q => by omega)])
      rw [e, hm, cntT_sp (r := decide ((lgA σ b k).2 = z)) m (fun i h4 _ => by rw [h3 i h4]), Nat.add_sub_cancel_left]
      by_cases cz : (lgA σ b k).2 = z
      · rw [if_pos cz, if_pos (decide_eq_true cz)]
      · rw [if_neg cz, if_neg (by simpa using cz)]
    · rw [if_neg c, if_neg c, h1]
      refine cntT_cg (fun t _ => ?_)
      show _ = decide ((if lgb σ k = b ∧ lgm σ k ≤ t then lgz σ k else lkL σ b t k) = z)
      rw [if_neg (fun q => c q.1)]
theorem lgM_min (h : Inv σ n) : lgM σ b z (mv σ) + (if (lgA σ b (mv σ)).2 = z then mi σ - (lgA σ b (mv σ)).1 else 0) = minZ σ b z := by
  have hL := h.2.2.1
  have h1 := lgM_cnt (b := b) (z := z) hL (mv σ) (Nat.le_refl _)
  have h2 := (lgA_le (b := b) hL (mv σ) (Nat.le_refl _)).1
  have h3 := lgA_lk (b := b) hL (mv σ) (Nat.le_refl _)
  rw [h1]
  unfold minZ
  obtain ⟨m, hm⟩ : ∃ m, mi σ = (lgA σ b (mv σ)).1 + m := ⟨mi σ - (lgA σ b (mv σ)).1, by omega⟩
  rw [hm, cntT_sp (r := decide ((lgA σ b (mv σ)).2 = z)) m (fun i h4 _ => by rw [h3 i h4]), Nat.add_sub_cancel_left]
  by_cases cz : (lgA σ b (mv σ)).2 = z
  · rw [if_pos cz, if_pos (decide_eq_true cz)]
  · rw [if_neg cz, if_neg (by simpa using cz)]
theorem cntT_le {p : Nat → Bool} : ∀ n, cntT p n ≤ n
  | 0 => Nat.le_refl _
  | n + 1 => by
    have := cntT_le (p := p) n
    show cntT p n + (if p n then 1 else 0) ≤ n + 1
    split <;> omega
theorem minZ_le : minZ σ b z ≤ mi σ := cntT_le _
end KEEP2
