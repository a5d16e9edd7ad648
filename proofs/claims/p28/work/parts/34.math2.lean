/-! WHAT EVERY HOUSE KEEPS, kept by every change. -/
def stZ (σ : Sg) (z c b e : Nat) : Sg := up (up (up σ 2 z c) 3 z b) 4 z e
def blS (σ : Sg) (b v : Nat) : Sg := up (up σ 13 b v) 14 b 0
def lgS (σ : Sg) (b m z : Nat) : Sg := up (up (up (up σ 15 (mv σ) b) 16 (mv σ) m) 17 (mv σ) z) 1 2 (mv σ + 1)
def pdS (σ : Sg) (b d z : Nat) : Sg := up (up (psS σ b z) 14 b 0) 9 d (mi σ + hold σ d)
def rqP (σ : Sg) (b d z : Nat) : Sg := lgS (pdS σ b d z) b (mi σ) z
theorem ps_g {σ : Sg} {b z g : Nat} (h0 : g ≠ 0) (h1 : g ≠ 10) (h2 : g ≠ 20 + b) (h3 : g ≠ 40 + b) : psS σ b z g = σ g := by
  unfold psS
  split
  · unfold stR; rw [up_ff _ h1, up_ff _ h2]
  · unfold adS; rw [up_ff _ h1, up_ff _ h3, up_ff _ h2, up_ff _ h0]
theorem ps_0 {σ : Sg} {b z j : Nat} (h : j ≠ 3 + b) : psS σ b z 0 j = σ 0 j := by
  unfold psS
  split
  · unfold stR; rw [up_f _ (by omega), up_f _ (by omega)]
  · unfold adS; rw [up_f _ (by omega), up_f _ (by omega), up_f _ (by omega), up_i _ h]
theorem ps_p {σ : Sg} {b z : Nat} : plc (psS σ b z) b = z := by
  unfold psS
  split
  · exact up_eq _ _ _ _
  · exact up_eq _ _ _ _
theorem ps_p' {σ : Sg} {b z b' : Nat} (h : b' ≠ b) : plc (psS σ b z) b' = plc σ b' := by
  show psS σ b z 10 b' = σ 10 b'
  unfold psS
  split
  · unfold stR; rw [up_i _ h, up_f _ (by omega)]
  · unfold adS; rw [up_i _ h, up_f _ (by omega), up_f _ (by omega), up_f _ (by omega)]
section KEEP
variable {σ : Sg} {b d z : Nat}
theorem InvC.u9 {v : Nat} (h : InvC σ) (hv : v ≤ 200000) : InvC (up σ 9 d v) := by
  refine ⟨h.1, h.2.1, h.2.2.1, fun d' hd => ?_, h.2.2.2.2⟩
  obtain ⟨a1, a2, a3, a4, a5, a6⟩ := h.2.2.2.1 d' hd
  refine ⟨a1, a2, a3, a4, a5, ?_⟩
  show up σ 9 d v 9 d' ≤ 200000
  by_cases c : d' = d
  · rw [c, up_eq]; exact hv
  · rw [up_i _ c]; exact a6
theorem InvC.u11 {v : Nat} (h : InvC σ) (hv : v ≤ 255) : InvC (up σ 11 b v) := by
  refine ⟨h.1, h.2.1, h.2.2.1, h.2.2.2.1, fun b' hb => ?_⟩
  obtain ⟨a1, a2, a3⟩ := h.2.2.2.2 b' hb
  refine ⟨a1, ?_, a3⟩
  show up σ 11 b v 11 b' ≤ 255
  by_cases c : b' = b
  · rw [c, up_eq]; exact hv
  · rw [up_i _ c]; exact a2
theorem InvC.u14 (h : InvC σ) : InvC (up σ 14 b 0) := by
  refine ⟨h.1, h.2.1, h.2.2.1, h.2.2.2.1, fun b' hb => ?_⟩
  obtain ⟨a1, a2, a3, a4, a5, a6, a7⟩ := h.2.2.2.2 b' hb
  refine ⟨a1, a2, a3, a4, a5, ?_, fun q => ?_⟩
  · show up σ 14 b 0 14 b' ≤ 3
    by_cases c : b' = b
    · rw [c, up_eq]; omega
    · rw [up_i _ c]; exact a6
  · show up σ 14 b 0 14 b' ≤ 2
    by_cases c : b' = b
    · rw [c, up_eq]; omega
    · rw [up_i _ c]; exact a7 q
theorem InvC.bl {v : Nat} (h : InvC σ) (hv : v ≤ 1) : InvC (blS σ b v) := by
  refine ⟨h.1, h.2.1, h.2.2.1, h.2.2.2.1, fun b' hb => ?_⟩
  obtain ⟨a1, a2, a3, a4, a5, a6, a7⟩ := h.2.2.2.2 b' hb
  refine ⟨a1, a2, a3, a4, ?_, ?_, fun q => ?_⟩
  · show up σ 13 b v 13 b' ≤ 1
    by_cases c : b' = b
    · rw [c, up_eq]; exact hv
    · rw [up_i _ c]; exact a5
  · show up (up σ 13 b v) 14 b 0 14 b' ≤ 3
    by_cases c : b' = b
    · rw [c, up_eq]; omega
    · rw [up_i _ c]; exact a6
  · show up (up σ 13 b v) 14 b 0 14 b' ≤ 2
    by_cases c : b' = b
    · rw [c, up_eq]; omega
    · rw [up_i _ c]
      refine a7 ?_
      have q2 : up σ 13 b v 13 b' = 0 := q
      rw [up_i _ c] at q2
      exact q2
theorem InvC.rf (h : InvC σ) (hb : b < nb σ) (h0 : blk σ b = 0) : InvC (rfS σ b) := by
  have hbv := (h.vb hb).2.2.2.2.2.2 h0
  unfold rfS
  split
  · rename_i c3
    refine ⟨h.1, h.2.1, h.2.2.1, h.2.2.2.1, fun b' hb' => ?_⟩
    obtain ⟨a1, a2, a3, a4, a5, a6, a7⟩ := h.2.2.2.2 b' hb'
    refine ⟨a1, a2, a3, a4, a5, ?_, fun q => ?_⟩
    · show up σ 14 b (rfs σ b + 1) 14 b' ≤ 3
      by_cases c : b' = b
      · rw [c, up_eq]; omega
      · rw [up_i _ c]; exact a6
    · show up σ 14 b (rfs σ b + 1) 14 b' ≤ 2
      by_cases c : b' = b
      · rw [c, up_eq]; omega
      · rw [up_i _ c]; exact a7 q
  · rename_i c3
    refine ⟨h.1, h.2.1, h.2.2.1, h.2.2.2.1, fun b' hb' => ?_⟩
    obtain ⟨a1, a2, a3, a4, a5, a6, a7⟩ := h.2.2.2.2 b' hb'
    refine ⟨a1, a2, a3, a4, ?_, ?_, fun q => ?_⟩
    · show up (up σ 14 b (rfs σ b + 1)) 13 b 1 13 b' ≤ 1
      by_cases c : b' = b
      · rw [c, up_eq]; omega
      · rw [up_i _ c]; exact a5
    · show up σ 14 b (rfs σ b + 1) 14 b' ≤ 3
      by_cases c : b' = b
      · rw [c, up_eq]; omega
      · rw [up_i _ c]; exact a6
    · show up σ 14 b (rfs σ b + 1) 14 b' ≤ 2
      have q2 : up (up σ 14 b (rfs σ b + 1)) 13 b 1 13 b' = 0 := q
      by_cases c : b' = b
      · rw [c, up_eq] at q2; omega
      · rw [up_i _ c]
        rw [up_i _ c] at q2
        exact a7 q2
theorem InvC.lg {m : Nat} (h : InvC σ) : InvC (lgS σ b m z) := h
theorem InvC.mi' {v : Nat} (h : InvC σ) (hv : v ≤ 99999) : InvC (up σ 1 0 v) := ⟨⟨h.1.1, h.1.2.1, h.1.2.2.1, h.1.2.2.2.1, hv, h.1.2.2.2.2.2⟩, h.2⟩
theorem InvC.al' {v : Nat} (h : InvC σ) (hv : v ≤ 1) : InvC (up σ 1 1 v) := ⟨⟨h.1.1, h.1.2.1, h.1.2.2.1, h.1.2.2.2.1, h.1.2.2.2.2.1, hv⟩, h.2⟩
theorem InvC.ps (h : InvC σ) (hz : z < nz σ) : InvC (psS σ b z) := by
  have enz : nz (psS σ b z) = nz σ := ps_0 (by omega)
  have end_ : nd (psS σ b z) = nd σ := ps_0 (by omega)
  have enb : nb (psS σ b z) = nb σ := ps_0 (by omega)
  have e : ∀ g, g ≠ 0 → g ≠ 10 → g < 20 → psS σ b z g = σ g := fun g g0 g1 g2 => ps_g g0 g1 (by omega) (by omega)
  unfold InvC
  rw [enz, end_, enb, show mi (psS σ b z) = mi σ from congrFun (e 1 (by omega) (by omega) (by omega)) 0, show al (psS σ b z) = al σ from congrFun (e 1 (by omega) (by omega) (by omega)) 1, show cap (psS σ b z) = cap σ from e 2 (by omega) (by omega) (by omega), show beg (psS σ b z) = beg σ from e 3 (by omega) (by omega) (by omega), show fin (psS σ b z) = fin σ from e 4 (by omega) (by omega) (by omega), show sda (psS σ b z) = sda σ from e 5 (by omega) (by omega) (by omega), show sdb (psS σ b z) = sdb σ from e 6 (by omega) (by omega) (by omega), show hold (psS σ b z) = hold σ from e 7 (by omega) (by omega) (by omega), show lock (psS σ b z) = lock σ from e 8 (by omega) (by omega) (by omega), show shut (psS σ b z) = shut σ from e 9 (by omega) (by omega) (by omega), show rgt (psS σ b z) = rgt σ from e 11 (by omega) (by omega) (by omega), show hst (psS σ b z) = hst σ from e 12 (by omega) (by omega) (by omega), show blk (psS σ b z) = blk σ from e 13 (by omega) (by omega) (by omega), show rfs (psS σ b z) = rfs σ from e 14 (by omega) (by omega) (by omega)]
  refine ⟨h.1, h.2.1, h.2.2.1, h.2.2.2.1, fun b' hb' => ?_⟩
  refine ⟨?_, (h.2.2.2.2 b' hb').2⟩
  by_cases c : b' = b
  · rw [c, ps_p]; exact hz
  · rw [ps_p' c]; exact (h.2.2.2.2 b' hb').1
theorem InvC.rq (h : InvC σ) (hz : z < nz σ) (hd : d < nd σ) : InvC (rqP σ b d z) := ((h.ps hz).u14.u9 (by have := h.n; have := h.vd hd; omega)).lg
theorem InvC.istZ {c b e : Nat} (h : InvC σ) (h0 : z ≠ 0) (hc : 1 ≤ c ∧ c ≤ 20) (hb : b ≤ 1439) (he : e ≤ 1440) (hbe : b ≠ e) : InvC (stZ σ z c b e) := by
  refine ⟨h.1, fun z' hz' => ?_, ⟨?_, ?_, ?_⟩, h.2.2.2.1, h.2.2.2.2⟩
  · obtain ⟨a1, a2, a3, a4, a5⟩ := h.2.1 z' hz'
    show 1 ≤ up σ 2 z c 2 z' ∧ up σ 2 z c 2 z' ≤ 20 ∧ up σ 3 z b 3 z' ≤ 1439 ∧ up σ 4 z e 4 z' ≤ 1440 ∧ up σ 3 z b 3 z' ≠ up σ 4 z e 4 z'
    by_cases q : z' = z
    · rw [q, up_eq, up_eq, up_eq]; exact ⟨hc.1, hc.2, hb, he, hbe⟩
    · rw [up_i _ q, up_i _ q, up_i _ q]; exact ⟨a1, a2, a3, a4, a5⟩
  · show up σ 2 z c 2 0 = 11
    rw [up_i _ (Ne.symm h0)]; exact h.2.2.1.1
  · show up σ 3 z b 3 0 = 0
    rw [up_i _ (Ne.symm h0)]; exact h.2.2.1.2.1
  · show up σ 4 z e 4 0 = 1440
    rw [up_i _ (Ne.symm h0)]; exact h.2.2.1.2.2
theorem InvC.iadZ {c b e : Nat} (h : InvC σ) (h8 : nz σ < 8) (hc : 1 ≤ c ∧ c ≤ 20) (hb : b ≤ 1439) (he : e ≤ 1440) (hbe : b ≠ e) : InvC (adZ σ c b e) := by
  have hn := h.n
  have s : ∀ z, (cap (adZ σ c b e) z = up σ 2 (nz σ) c 2 z ∧ beg (adZ σ c b e) z = up σ 3 (nz σ) b 3 z ∧ fin (adZ σ c b e) z = up σ 4 (nz σ) e 4 z) := fun z => ⟨rfl, rfl, rfl⟩
  refine ⟨⟨?_, ?_, hn.2.2.1, hn.2.2.2.1, hn.2.2.2.2.1, hn.2.2.2.2.2⟩, fun z' hz' => ?_, ⟨?_, ?_, ?_⟩, fun d hd => ?_, fun b' hb' => ?_⟩
  · show 1 ≤ nz σ + 1; omega
  · show nz σ + 1 ≤ 8; omega
  · have hz9 : z' < nz σ + 1 := hz'
    rw [(s z').1, (s z').2.1, (s z').2.2]
    by_cases q : z' = nz σ
    · rw [q, up_eq, up_eq, up_eq]; exact ⟨hc.1, hc.2, hb, he, hbe⟩
    · rw [up_i _ q, up_i _ q, up_i _ q]; exact h.2.1 z' (by omega)
  · rw [(s 0).1, up_i _ (by omega)]; exact h.2.2.1.1
  · rw [(s 0).2.1, up_i _ (by omega)]; exact h.2.2.1.2.1
  · rw [(s 0).2.2, up_i _ (by omega)]; exact h.2.2.1.2.2
  · obtain ⟨a1, a2, a3⟩ := h.2.2.2.1 d hd
    exact ⟨Nat.lt_succ_of_lt a1, Nat.lt_succ_of_lt a2, a3⟩
  · obtain ⟨a1, a2⟩ := h.2.2.2.2 b' hb'
    exact ⟨Nat.lt_succ_of_lt a1, a2⟩
theorem InvC.iadD {p q hh kk : Nat} (h : InvC σ) (h12 : nd σ < 12) (hp : p < nz σ) (hq : q < nz σ) (hpq : p ≠ q) (h9 : hh ≤ 9) (h3 : kk ≤ 3) : InvC (adD σ p q hh kk) := by
  have hn := h.n
  have s : ∀ d, (sda (adD σ p q hh kk) d = up σ 5 (nd σ) p 5 d ∧ sdb (adD σ p q hh kk) d = up σ 6 (nd σ) q 6 d ∧ hold (adD σ p q hh kk) d = up σ 7 (nd σ) hh 7 d ∧ lock (adD σ p q hh kk) d = up σ 8 (nd σ) kk 8 d ∧ shut (adD σ p q hh kk) d = up σ 9 (nd σ) 0 9 d) := fun z => ⟨rfl, rfl, rfl, rfl, rfl⟩
  refine ⟨⟨hn.1, hn.2.1, ?_, hn.2.2.2.1, hn.2.2.2.2.1, hn.2.2.2.2.2⟩, h.2.1, h.2.2.1, fun d hd => ?_, h.2.2.2.2⟩
  · show nd σ + 1 ≤ 12; omega
  · have hz9 : d < nd σ + 1 := hd
    obtain ⟨s1, s2, s3, s4, s5⟩ := s d
    rw [s1, s2, s3, s4, s5]
    by_cases c : d = nd σ
    · rw [c, up_eq, up_eq, up_eq, up_eq, up_eq]; exact ⟨hp, hq, hpq, h9, h3, by omega⟩
    · rw [up_i _ c, up_i _ c, up_i _ c, up_i _ c, up_i _ c]; exact h.2.2.2.1 d (by omega)
/-- what adB changes -/
theorem adB_f {hh rr : Nat} (hnb : nb σ < 10) : nb (adB σ hh rr) = nb σ + 1 ∧ (∀ j, j ≠ 2 → j ≠ 3 + nb σ → adB σ hh rr 0 j = σ 0 j) ∧ ns (adB σ hh rr) (nb σ) = 1 ∧ (∀ g, g ≠ 0 → (g < 10 ∨ 14 < g) → g ≠ 20 + nb σ → g ≠ 40 + nb σ → adB σ hh rr g = σ g) ∧ (∀ g, 10 ≤ g → g ≤ 14 → ∀ i, i ≠ nb σ → adB σ hh rr g i = σ g i) ∧ (plc (adB σ hh rr) (nb σ) = 0 ∧ rgt (adB σ hh rr) (nb σ) = rr ∧ hst (adB σ hh rr) (nb σ) = hh ∧ blk (adB σ hh rr) (nb σ) = 0 ∧ rfs (adB σ hh rr) (nb σ) = 0 ∧ syz (adB σ hh rr) (nb σ) 0 = 0 ∧ sys (adB σ hh rr) (nb σ) 0 = 0) := by
  obtain ⟨n, hn⟩ : ∃ n, nb σ = n := ⟨_, rfl⟩
  unfold adB
  rw [hn] at hnb ⊢
  refine ⟨?_, fun j h2 h3 => ?_, ?_, fun g g0 g1 g2 g4 => ?_, fun g g1 g2 i hi => ?_, ?_, ?_, ?_, ?_, ?_, ?_, ?_⟩
  · show up _ _ _ _ 0 2 = _
    rw [up_f _ (by omega), up_f _ (by omega), up_f _ (by omega), up_f _ (by omega), up_f _ (by omega), up_f _ (by omega), up_f _ (by omega), up_i _ (by omega), up_eq]
  · rw [up_f _ (by omega), up_f _ (by omega), up_f _ (by omega), up_f _ (by omega), up_f _ (by omega), up_f _ (by omega), up_f _ (by omega), up_i _ h3, up_i _ h2]
  · show up _ _ _ _ 0 (3 + n) = _
    rw [up_f _ (by omega), up_f _ (by omega), up_f _ (by omega), up_f _ (by omega), up_f _ (by omega), up_f _ (by omega), up_f _ (by omega), up_eq]
  · rw [up_ff _ g4, up_ff _ g2, up_ff _ (by omega), up_ff _ (by omega), up_ff _ (by omega), up_ff _ (by omega), up_ff _ (by omega), up_ff _ g0, up_ff _ g0]
  · rw [up_f _ (by omega), up_f _ (by omega), up_i _ hi, up_i _ hi, up_i _ hi, up_i _ hi, up_i _ hi, up_f _ (by omega), up_f _ (by omega)]
  · show up _ _ _ _ 10 n = _
    rw [up_f _ (by omega), up_f _ (by omega), up_f _ (by omega), up_f _ (by omega), up_f _ (by omega), up_f _ (by omega), up_eq]
  · show up _ _ _ _ 11 n = _
    rw [up_f _ (by omega), up_f _ (by omega), up_f _ (by omega), up_f _ (by omega), up_f _ (by omega), up_eq]
  · show up _ _ _ _ 12 n = _
    rw [up_f _ (by omega), up_f _ (by omega), up_f _ (by omega), up_f _ (by omega), up_eq]
  · show up _ _ _ _ 13 n = _
    rw [up_f _ (by omega), up_f _ (by omega), up_f _ (by omega), up_eq]
  · show up _ _ _ _ 14 n = _
    rw [up_f _ (by omega), up_f _ (by omega), up_eq]
  · show up _ _ _ _ (20 + n) 0 = _
    rw [up_f _ (by omega), up_eq]
  · show up _ _ _ _ (40 + n) 0 = _
    rw [up_eq]
theorem InvC.iadB {hh rr : Nat} (h : InvC σ) (hnb : nb σ < 10) (hh9 : hh ≤ nb σ) (h0 : hh ≠ 0 → hst σ (hh - 1) = 0) (hr : rr ≤ 255) : InvC (adB σ hh rr) := by
  have hn := h.n
  obtain ⟨e1, e2, e3, e4, e5, e6, e7, e8, e9, e10, -, -⟩ := adB_f (σ := σ) (hh := hh) (rr := rr) hnb
  generalize adB σ hh rr = σ' at *
  have e : ∀ g, g ≠ 0 → g < 10 → σ' g = σ g := fun g g0 g1 => e4 g g0 (Or.inl g1) (by omega) (by omega)
  unfold InvC
  rw [show nz σ' = nz σ from e2 0 (by omega) (by omega), show nd σ' = nd σ from e2 1 (by omega) (by omega), e1, show mi σ' = mi σ from congrFun (e 1 (by omega) (by omega)) 0, show al σ' = al σ from congrFun (e 1 (by omega) (by omega)) 1, show cap σ' = cap σ from e 2 (by omega) (by omega), show beg σ' = beg σ from e 3 (by omega) (by omega), show fin σ' = fin σ from e 4 (by omega) (by omega), show sda σ' = sda σ from e 5 (by omega) (by omega), show sdb σ' = sdb σ from e 6 (by omega) (by omega), show hold σ' = hold σ from e 7 (by omega) (by omega), show lock σ' = lock σ from e 8 (by omega) (by omega), show shut σ' = shut σ from e 9 (by omega) (by omega)]
  refine ⟨⟨hn.1, hn.2.1, hn.2.2.1, by omega, hn.2.2.2.2.1, hn.2.2.2.2.2⟩, h.2.1, h.2.2.1, h.2.2.2.1, fun b' hb' => ?_⟩
  by_cases c : b' = nb σ
  · subst c
    rw [e6, e7, e8, e9, e10]
    refine ⟨by omega, hr, hh9, fun q => ?_, by omega, by omega, fun _ => by omega⟩
    rw [show hst σ' (hh - 1) = hst σ (hh - 1) from e5 12 (by omega) (by omega) _ (by omega)]; exact h0 q
  · have hv := h.vb (b := b') (by omega)
    rw [show plc σ' b' = plc σ b' from e5 10 (by omega) (by omega) _ c, show rgt σ' b' = rgt σ b' from e5 11 (by omega) (by omega) _ c, show hst σ' b' = hst σ b' from e5 12 (by omega) (by omega) _ c, show blk σ' b' = blk σ b' from e5 13 (by omega) (by omega) _ c, show rfs σ' b' = rfs σ b' from e5 14 (by omega) (by omega) _ c]
    refine ⟨hv.1, hv.2.1, hv.2.2.1, fun q => ?_, hv.2.2.2.2⟩
    rw [show hst σ' (hst σ b' - 1) = hst σ (hst σ b' - 1) from e5 12 (by omega) (by omega) _ (by omega)]
    exact hv.2.2.2.1 q
theorem InvC.st : InvC sg0 := by
  refine ⟨by decide, fun z hz => ?_, by decide, fun d hd => absurd (show d < 0 from hd) (Nat.not_lt_zero _), fun b hb => absurd (show b < 0 from hb) (Nat.not_lt_zero _)⟩
  have hz1 : z < 1 := hz
  rw [show z = 0 by omega]
  decide
-- stays, log, past
variable {σ' : Sg} {n n' : Nat}
theorem InvS.cg (h : InvS σ n) (hn : n ≤ n') (enz : nz σ ≤ nz σ') (enb : nb σ' = nb σ) (ens : ∀ b, b < nb σ → ns σ' b = ns σ b) (emi : mi σ ≤ mi σ') (e10 : ∀ b, b < nb σ → plc σ' b = plc σ b) (e20 : ∀ g, 20 ≤ g → σ' g = σ g) : InvS σ' n' := fun b hb => by
  rw [enb] at hb
  obtain ⟨a1, a2, a3, a4, a5, a6, a7⟩ := h b hb
  rw [ens b hb, e10 b hb, show sys σ' b = sys σ b from e20 _ (by omega), show syz σ' b = syz σ b from e20 _ (by omega)]
  exact ⟨a1, by omega, a3, a4, by omega, fun i hi => Nat.lt_of_lt_of_le (a6 i hi) enz, a7⟩
theorem InvL.cg (h : InvL σ n) (hn : n ≤ n') (emv : mv σ' = mv σ) (enb : nb σ ≤ nb σ') (enz : nz σ ≤ nz σ') (emi : mi σ ≤ mi σ') (e15 : lgb σ' = lgb σ) (e16 : lgm σ' = lgm σ) (e17 : lgz σ' = lgz σ) : InvL σ' n' := by
  obtain ⟨a1, a2, a3⟩ := h
  unfold InvL
  rw [emv, e15, e16, e17]
  exact ⟨by omega, fun k hk => by have := a2 k hk; omega, a3⟩
theorem lkS_cg {b t : Nat} : ∀ {n : Nat}, (∀ i, i < n → syz σ' b i = syz σ b i ∧ sys σ' b i = sys σ b i) → lkS σ' b t n = lkS σ b t n
  | 0, _ => rfl
  | n + 1, h => by
    unfold lkS
    rw [(h n (by omega)).1, (h n (by omega)).2, lkS_cg (fun i hi => h i (by omega))]
theorem lkL_cg {b t : Nat} : ∀ {n : Nat}, (∀ i, i < n → lgb σ' i = lgb σ i ∧ lgm σ' i = lgm σ i ∧ lgz σ' i = lgz σ i) → lkL σ' b t n = lkL σ b t n
  | 0, _ => rfl
  | n + 1, h => by
    unfold lkL
    obtain ⟨h1, h2, h3⟩ := h n (by omega)
    rw [h1, h2, h3, lkL_cg (fun i hi => h i (by omega))]
theorem lkL_no {b t : Nat} : ∀ {n : Nat}, (∀ i, i < n → lgb σ i ≠ b) → lkL σ b t n = 0
  | 0, _ => rfl
  | n + 1, h => by
    unfold lkL
    rw [if_neg (fun q => h n (by omega) q.1)]
    exact lkL_no (fun i hi => h i (by omega))
theorem InvP.cg (h : InvP σ) (enb : nb σ' = nb σ) (ens : ∀ b, b < nb σ → ns σ' b = ns σ b) (e20 : ∀ g, 20 ≤ g → σ' g = σ g) (emv : mv σ' = mv σ) (e15 : lgb σ' = lgb σ) (e16 : lgm σ' = lgm σ) (e17 : lgz σ' = lgz σ) : InvP σ' := fun b hb t => by
  rw [enb] at hb
  rw [ens b hb, emv, lkS_cg (σ := σ) (fun i _ => ⟨congrFun (e20 (20 + b) (by omega)) i, congrFun (e20 (40 + b) (by omega)) i⟩), lkL_cg (σ := σ) (fun i _ => ⟨congrFun e15 i, congrFun e16 i, congrFun e17 i⟩)]
  exact h b hb t
/-- all that a house keeps after at most n calls -/
def Inv (σ : Sg) (n : Nat) : Prop := InvC σ ∧ InvS σ n ∧ InvL σ n ∧ InvP σ
theorem Inv.cg (h : Inv σ n) (hC : InvC σ') (hn : n ≤ n') (enz : nz σ ≤ nz σ') (enb : nb σ' = nb σ) (ens : ∀ b, b < nb σ → ns σ' b = ns σ b) (emi : mi σ ≤ mi σ') (e10 : ∀ b, b < nb σ → plc σ' b = plc σ b) (emv : mv σ' = mv σ) (e : ∀ g, 15 ≤ g → σ' g = σ g) : Inv σ' n' :=
  ⟨hC, h.2.1.cg hn enz enb ens emi e10 (fun g hg => e g (by omega)), h.2.2.1.cg hn emv (by omega) enz emi (e 15 (by omega)) (e 16 (by omega)) (e 17 (by omega)), h.2.2.2.cg enb ens (fun g hg => e g (by omega)) emv (e 15 (by omega)) (e 16 (by omega)) (e 17 (by omega))⟩
theorem Inv.le (h : Inv σ n) (hn : n ≤ n') : Inv σ n' := h.cg h.1 hn (Nat.le_refl _) rfl (fun _ _ => rfl) (Nat.le_refl _) (fun _ _ => rfl) rfl (fun _ _ => rfl)
theorem Inv.st : Inv sg0 0 := ⟨InvC.st, fun b hb => absurd (show b < 0 from hb) (Nat.not_lt_zero _), ⟨Nat.le_refl 0, fun k hk => absurd (show k < 0 from hk) (Nat.not_lt_zero _), fun k hk => absurd (show k + 1 < 0 from hk) (Nat.not_lt_zero _)⟩, fun b hb => absurd (show b < 0 from hb) (Nat.not_lt_zero _)⟩
theorem Inv.u11 {v : Nat} (h : Inv σ n) (hv : v ≤ 255) : Inv (up σ 11 b v) n := h.cg (h.1.u11 hv) (Nat.le_refl _) (Nat.le_refl _) rfl (fun _ _ => rfl) (Nat.le_refl _) (fun _ _ => rfl) rfl (fun g hg => up_ff _ (by omega))
theorem Inv.bl {v : Nat} (h : Inv σ n) (hv : v ≤ 1) : Inv (blS σ b v) n := h.cg (h.1.bl hv) (Nat.le_refl _) (Nat.le_refl _) rfl (fun _ _ => rfl) (Nat.le_refl _) (fun _ _ => rfl) rfl (fun g hg => by unfold blS; rw [up_ff _ (by omega), up_ff _ (by omega)])
theorem rfS_g {g : Nat} (h1 : g ≠ 13) (h2 : g ≠ 14) : rfS σ b g = σ g := by
  unfold rfS
  split
  · rw [up_ff _ h2]
  · rw [up_ff _ h1, up_ff _ h2]
theorem Inv.rf (h : Inv σ n) (hb : b < nb σ) (h0 : blk σ b = 0) : Inv (rfS σ b) n := by
  have e := fun g h1 h2 => rfS_g (σ := σ) (b := b) (g := g) h1 h2
  exact h.cg (h.1.rf hb h0) (Nat.le_refl _) (Nat.le_of_eq (congrFun (e 0 (by omega) (by omega)) 0).symm) (congrFun (e 0 (by omega) (by omega)) 2) (fun b' _ => congrFun (e 0 (by omega) (by omega)) (3 + b')) (Nat.le_of_eq (congrFun (e 1 (by omega) (by omega)) 0).symm) (fun b' _ => congrFun (e 10 (by omega) (by omega)) b') (congrFun (e 1 (by omega) (by omega)) 2) (fun g hg => e g (by omega) (by omega))
theorem Inv.mi' {v : Nat} (h : Inv σ n) (hv : v ≤ 99999) (hm : mi σ ≤ v) : Inv (up σ 1 0 v) n := h.cg (h.1.mi' hv) (Nat.le_refl _) (Nat.le_refl _) rfl (fun _ _ => rfl) hm (fun _ _ => rfl) rfl (fun g hg => up_ff _ (by omega))
theorem Inv.al' {v : Nat} (h : Inv σ n) (hv : v ≤ 1) : Inv (up σ 1 1 v) n := h.cg (h.1.al' hv) (Nat.le_refl _) (Nat.le_refl _) rfl (fun _ _ => rfl) (Nat.le_refl _) (fun _ _ => rfl) rfl (fun g hg => up_ff _ (by omega))
theorem Inv.istZ {c b e : Nat} (h : Inv σ n) (h0 : z ≠ 0) (hc : 1 ≤ c ∧ c ≤ 20) (hb : b ≤ 1439) (he : e ≤ 1440) (hbe : b ≠ e) : Inv (stZ σ z c b e) n := h.cg (h.1.istZ h0 hc hb he hbe) (Nat.le_refl _) (Nat.le_refl _) rfl (fun _ _ => rfl) (Nat.le_refl _) (fun _ _ => rfl) rfl (fun g hg => by unfold stZ; rw [up_ff _ (by omega), up_ff _ (by omega), up_ff _ (by omega)])
theorem Inv.iadZ {c b e : Nat} (h : Inv σ n) (h8 : nz σ < 8) (hc : 1 ≤ c ∧ c ≤ 20) (hb : b ≤ 1439) (he : e ≤ 1440) (hbe : b ≠ e) : Inv (adZ σ c b e) n := h.cg (h.1.iadZ h8 hc hb he hbe) (Nat.le_refl _) (Nat.le_succ _) rfl (fun b' _ => by show adZ σ c b e 0 (3 + b') = σ 0 (3 + b'); unfold adZ; rw [up_f _ (by omega), up_f _ (by omega), up_f _ (by omega), up_i _ (by omega)]) (Nat.le_refl _) (fun _ _ => rfl) rfl (fun g hg => by unfold adZ; rw [up_ff _ (by omega), up_ff _ (by omega), up_ff _ (by omega), up_ff _ (by omega)])
theorem Inv.iadD {p q hh kk : Nat} (h : Inv σ n) (h12 : nd σ < 12) (hp : p < nz σ) (hq : q < nz σ) (hpq : p ≠ q) (h9 : hh ≤ 9) (h3 : kk ≤ 3) : Inv (adD σ p q hh kk) n := h.cg (h.1.iadD h12 hp hq hpq h9 h3) (Nat.le_refl _) (Nat.le_refl _) rfl (fun b' _ => by show adD σ p q hh kk 0 (3 + b') = σ 0 (3 + b'); unfold adD; rw [up_f _ (by omega), up_f _ (by omega), up_f _ (by omega), up_f _ (by omega), up_f _ (by omega), up_i _ (by omega)]) (Nat.le_refl _) (fun _ _ => rfl) rfl (fun g hg => by unfold adD; rw [up_ff _ (by omega), up_ff _ (by omega), up_ff _ (by omega), up_ff _ (by omega), up_ff _ (by omega), up_ff _ (by omega)])
theorem Inv.iadB {hh rr : Nat} (h : Inv σ n) (hnb : nb σ < 10) (hh9 : hh ≤ nb σ) (h0 : hh ≠ 0 → hst σ (hh - 1) = 0) (hr : rr ≤ 255) : Inv (adB σ hh rr) n := by
  have hC := h.1.iadB hnb hh9 h0 hr
  have hn := h.1.n
  obtain ⟨e1, e2, e3, e4, e5, e6, e7, e8, e9, e10, e11, e12⟩ := adB_f (σ := σ) (hh := hh) (rr := rr) hnb
  generalize adB σ hh rr = σ' at *
  have em : mi σ' = mi σ := congrFun (e4 1 (by omega) (by omega) (by omega) (by omega)) 0
  have emv : mv σ' = mv σ := congrFun (e4 1 (by omega) (by omega) (by omega) (by omega)) 2
  have enz : nz σ' = nz σ := e2 0 (by omega) (by omega)
  have e15 : ∀ g, 15 ≤ g → g < 20 → σ' g = σ g := fun g g1 g2 => e4 g (by omega) (by omega) (by omega) (by omega)
  have ens : ∀ b, b < nb σ → ns σ' b = ns σ b := fun b hb => e2 _ (by omega) (by omega)
  refine ⟨hC, fun b hb => ?_, h.2.2.1.cg (Nat.le_refl _) emv (by omega) (by omega) (by omega) (e15 15 (by omega) (by omega)) (e15 16 (by omega) (by omega)) (e15 17 (by omega) (by omega)), fun b hb t => ?_⟩
  · by_cases c : b = nb σ
    · subst c
      rw [e3, e6]
      refine ⟨by omega, by omega, e12, fun i hi => by omega, ?_, fun i hi => ?_, e11⟩
      · show sys σ' (nb σ) 0 ≤ _; rw [e12]; omega
      · rw [show i = 0 by omega, e11]; omega
    · have hb1 : b < nb σ := by omega
      rw [ens b hb1, enz, em, show plc σ' b = plc σ b from e5 10 (by omega) (by omega) b c, show syz σ' b = syz σ b from e4 _ (by omega) (by omega) (by omega) (by omega), show sys σ' b = sys σ b from e4 _ (by omega) (by omega) (by omega) (by omega)]
      exact h.2.1 b hb1
  · rw [emv, lkL_cg (σ := σ) (fun i _ => ⟨congrFun (e15 15 (by omega) (by omega)) i, congrFun (e15 16 (by omega) (by omega)) i, congrFun (e15 17 (by omega) (by omega)) i⟩)]
    by_cases c : b = nb σ
    · subst c
      rw [e3, lkL_no (fun i hi => by have := h.2.2.1.2.1 i hi; omega)]
      show (if sys σ' (nb σ) 0 ≤ t then syz σ' (nb σ) 0 else 0) = 0
      rw [e11]; split <;> rfl
    · have hb1 : b < nb σ := by omega
      rw [ens b hb1, lkS_cg (σ := σ) (fun i _ => ⟨congrFun (e4 (20 + b) (by omega) (by omega) (by omega) (by omega)) i, congrFun (e4 (40 + b) (by omega) (by omega) (by omega) (by omega)) i⟩)]
      exact h.2.2.2 b hb1 t
end KEEP
