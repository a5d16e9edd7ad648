/-! HOW THE LAW BUILDS ITS HOUSE: what holds between two calls of it. -/
theorem pI_eq {S : Ps} {a i : Nat} {x : Int32} : pI (sI S a i x) a i = x := if_pos ⟨rfl, rfl⟩
theorem pI_ne {S : Ps} {a i b k : Nat} {x : Int32} (h : b ≠ a ∨ k ≠ i) : pI (sI S a i x) b k = pI S b k := if_neg (fun q => h.elim (fun f => f q.1) (fun f => f q.2))
theorem nI_dec (j : Nat) : nI (j + 1) + Int32.ofInt (-1) = nI j := by
  rw [← nI_add, Int32.add_assoc, show nI 1 + Int32.ofInt (-1) = 0 from by decide, Int32.add_zero]
theorem mod_ne {p r N : Nat} (hp : p < N) (hr : r < N - 1) : (p + 1 + r) % N < N ∧ p ≠ (p + 1 + r) % N := by
  refine ⟨Nat.mod_lt _ (by omega), ?_⟩
  by_cases c : p + 1 + r < N
  · rw [Nat.mod_eq_of_lt c]; omega
  · rw [Nat.mod_eq_sub_mod (by omega), Nat.mod_eq_of_lt (by omega)]; omega
def KB (S : Ps) (c z d g : Nat) : Prop := (isK S 7 c ∧ pN S c = 3) ∧ (isK S 7 z ∧ pN S z = 24) ∧ (isK S 7 d ∧ pN S d = 48) ∧ (isK S 7 g ∧ pN S g = 20)
def DF (c z d g : Nat) : Prop := c ≠ z ∧ c ≠ d ∧ c ≠ g ∧ z ≠ d ∧ z ≠ g ∧ d ≠ g
def BB (G : Ids) (S : Ps) (x c z d g : Nat) (C0 C1 C2 : Int32) (σ : Sg) : Prop :=
  (∃ Y, RC G S Y σ x) ∧ KB S c z d g ∧ Inv σ 0 ∧ (mi σ = 0 ∧ al σ = 0) ∧ (pI S c 0 = C0 ∧ pI S c 1 = C1 ∧ pI S c 2 = C2) ∧ (∀ q, 0 < q → q < nz σ → pI S z (3 * q) = nI (cap σ q)) ∧ (∀ q, q < nd σ → pI S d (4 * q + 3) = nI (lock σ q) ∧ shut σ q = 0) ∧ (∀ q, q < nb σ → plc σ q = 0 ∧ (0 ≤ (pI S g (2 * q)).toInt → hst σ q = 0))
theorem KB.st {S : Ps} {c z d g a i : Nat} {v : Int32} (h : KB S c z d g) : KB (sI S a i v) c z d g := h
theorem RC.st {G : Ids} {S : Ps} {Y : Lay} {σ : Sg} {x a i : Nat} {v : Int32} (h : RC G S Y σ x) (ha : isK S 7 a) : RC G (sI S a i v) Y σ x := h.frM (P := fun q => q = a) (Fr.sI (fun _ => rfl)) (fun q _ e => by rw [e]; exact ncP7 ha)
section BBP
variable {G : Ids} {S : Ps} {x c z d g i : Nat} {C0 C1 C2 v : Int32} {σ : Sg}
theorem BB.kc (h : BB G S x c z d g C0 C1 C2 σ) : isK S 7 c := h.2.1.1.1
theorem BB.mc (h : BB G S x c z d g C0 C1 C2 σ) : pN S c = 3 := h.2.1.1.2
theorem BB.kz (h : BB G S x c z d g C0 C1 C2 σ) : isK S 7 z := h.2.1.2.1.1
theorem BB.mz (h : BB G S x c z d g C0 C1 C2 σ) : pN S z = 24 := h.2.1.2.1.2
theorem BB.kd (h : BB G S x c z d g C0 C1 C2 σ) : isK S 7 d := h.2.1.2.2.1.1
theorem BB.md (h : BB G S x c z d g C0 C1 C2 σ) : pN S d = 48 := h.2.1.2.2.1.2
theorem BB.kg (h : BB G S x c z d g C0 C1 C2 σ) : isK S 7 g := h.2.1.2.2.2.1
theorem BB.mg (h : BB G S x c z d g C0 C1 C2 σ) : pN S g = 20 := h.2.1.2.2.2.2
theorem BB.J (h : BB G S x c z d g C0 C1 C2 σ) : Inv σ 0 := h.2.2.1
theorem BB.c0 (h : BB G S x c z d g C0 C1 C2 σ) : pI S c 0 = C0 := h.2.2.2.2.1.1
theorem BB.c1 (h : BB G S x c z d g C0 C1 C2 σ) : pI S c 1 = C1 := h.2.2.2.2.1.2.1
theorem BB.c2 (h : BB G S x c z d g C0 C1 C2 σ) : pI S c 2 = C2 := h.2.2.2.2.1.2.2
theorem BB.sc0 (hD : DF c z d g) (h : BB G S x c z d g C0 C1 C2 σ) : BB G (sI S c 0 v) x c z d g v C1 C2 σ := by
  obtain ⟨d1, d2, d3, d4, d5, d6⟩ := hD
  obtain ⟨⟨Y, h1⟩, h2, h3, h4, ⟨h5, h6, h7⟩, h8, h9, h10⟩ := h
  refine ⟨⟨Y, h1.st h2.1.1⟩, h2.st, h3, h4, ⟨pI_eq, (pI_ne (Or.inr (by omega))).trans h6, (pI_ne (Or.inr (by omega))).trans h7⟩, fun q a b => (pI_ne (Or.inl (Ne.symm d1))).trans (h8 q a b), fun q a => ⟨(pI_ne (Or.inl (Ne.symm d2))).trans (h9 q a).1, (h9 q a).2⟩, fun q a => ⟨(h10 q a).1, ?_⟩⟩
  rw [pI_ne (Or.inl (Ne.symm d3))]; exact (h10 q a).2
theorem BB.sc1 (hD : DF c z d g) (h : BB G S x c z d g C0 C1 C2 σ) : BB G (sI S c 1 v) x c z d g C0 v C2 σ := by
  obtain ⟨d1, d2, d3, d4, d5, d6⟩ := hD
  obtain ⟨⟨Y, h1⟩, h2, h3, h4, ⟨h5, h6, h7⟩, h8, h9, h10⟩ := h
  refine ⟨⟨Y, h1.st h2.1.1⟩, h2.st, h3, h4, ⟨(pI_ne (Or.inr (by omega))).trans h5, pI_eq, (pI_ne (Or.inr (by omega))).trans h7⟩, fun q a b => (pI_ne (Or.inl (Ne.symm d1))).trans (h8 q a b), fun q a => ⟨(pI_ne (Or.inl (Ne.symm d2))).trans (h9 q a).1, (h9 q a).2⟩, fun q a => ⟨(h10 q a).1, ?_⟩⟩
  rw [pI_ne (Or.inl (Ne.symm d3))]; exact (h10 q a).2
theorem BB.sc2 (hD : DF c z d g) (h : BB G S x c z d g C0 C1 C2 σ) : BB G (sI S c 2 v) x c z d g C0 C1 v σ := by
  obtain ⟨d1, d2, d3, d4, d5, d6⟩ := hD
  obtain ⟨⟨Y, h1⟩, h2, h3, h4, ⟨h5, h6, h7⟩, h8, h9, h10⟩ := h
  refine ⟨⟨Y, h1.st h2.1.1⟩, h2.st, h3, h4, ⟨(pI_ne (Or.inr (by omega))).trans h5, (pI_ne (Or.inr (by omega))).trans h6, pI_eq⟩, fun q a b => (pI_ne (Or.inl (Ne.symm d1))).trans (h8 q a b), fun q a => ⟨(pI_ne (Or.inl (Ne.symm d2))).trans (h9 q a).1, (h9 q a).2⟩, fun q a => ⟨(h10 q a).1, ?_⟩⟩
  rw [pI_ne (Or.inl (Ne.symm d3))]; exact (h10 q a).2
theorem BB.sz (hD : DF c z d g) (h : BB G S x c z d g C0 C1 C2 σ) (hi : 3 * σ 0 0 ≤ i) : BB G (sI S z i v) x c z d g C0 C1 C2 σ := by
  obtain ⟨d1, d2, d3, d4, d5, d6⟩ := hD
  obtain ⟨⟨Y, h1⟩, h2, h3, h4, ⟨h5, h6, h7⟩, h8, h9, h10⟩ := h
  refine ⟨⟨Y, h1.st h2.2.1.1⟩, h2.st, h3, h4, ⟨(pI_ne (Or.inl d1)).trans h5, (pI_ne (Or.inl d1)).trans h6, (pI_ne (Or.inl d1)).trans h7⟩, fun q a b => (pI_ne (Or.inr (by have b9 : q < σ 0 0 := b; omega))).trans (h8 q a b), fun q a => ⟨(pI_ne (Or.inl (Ne.symm d4))).trans (h9 q a).1, (h9 q a).2⟩, fun q a => ⟨(h10 q a).1, ?_⟩⟩
  rw [pI_ne (Or.inl (Ne.symm d5))]; exact (h10 q a).2
theorem BB.sd (hD : DF c z d g) (h : BB G S x c z d g C0 C1 C2 σ) (hi : 4 * σ 0 1 ≤ i) : BB G (sI S d i v) x c z d g C0 C1 C2 σ := by
  obtain ⟨d1, d2, d3, d4, d5, d6⟩ := hD
  obtain ⟨⟨Y, h1⟩, h2, h3, h4, ⟨h5, h6, h7⟩, h8, h9, h10⟩ := h
  refine ⟨⟨Y, h1.st h2.2.2.1.1⟩, h2.st, h3, h4, ⟨(pI_ne (Or.inl d2)).trans h5, (pI_ne (Or.inl d2)).trans h6, (pI_ne (Or.inl d2)).trans h7⟩, fun q a b => (pI_ne (Or.inl d4)).trans (h8 q a b), fun q a => ⟨(pI_ne (Or.inr (by have b9 : q < σ 0 1 := a; omega))).trans (h9 q a).1, (h9 q a).2⟩, fun q a => ⟨(h10 q a).1, ?_⟩⟩
  rw [pI_ne (Or.inl (Ne.symm d6))]; exact (h10 q a).2
theorem BB.sg (hD : DF c z d g) (h : BB G S x c z d g C0 C1 C2 σ) (hi : 2 * σ 0 2 ≤ i) : BB G (sI S g i v) x c z d g C0 C1 C2 σ := by
  obtain ⟨d1, d2, d3, d4, d5, d6⟩ := hD
  obtain ⟨⟨Y, h1⟩, h2, h3, h4, ⟨h5, h6, h7⟩, h8, h9, h10⟩ := h
  refine ⟨⟨Y, h1.st h2.2.2.2.1⟩, h2.st, h3, h4, ⟨(pI_ne (Or.inl d3)).trans h5, (pI_ne (Or.inl d3)).trans h6, (pI_ne (Or.inl d3)).trans h7⟩, fun q a b => (pI_ne (Or.inl d5)).trans (h8 q a b), fun q a => ⟨(pI_ne (Or.inl d6)).trans (h9 q a).1, (h9 q a).2⟩, fun q a => ⟨(h10 q a).1, ?_⟩⟩
  rw [pI_ne (Or.inr (by have b9 : q < σ 0 2 := a; omega))]; exact (h10 q a).2
theorem KB.fr {S9 : Ps} (h : KB S c z d g) (hF : Fr (cP S) S S9) : KB S9 c z d g := by
  obtain ⟨⟨a1, a2⟩, ⟨b1, b2⟩, ⟨e1, e2⟩, ⟨g1, g2⟩⟩ := h
  exact ⟨⟨hF.K a1, (hF.N a1 (ncP7 a1)).trans a2⟩, ⟨hF.K b1, (hF.N b1 (ncP7 b1)).trans b2⟩, ⟨hF.K e1, (hF.N e1 (ncP7 e1)).trans e2⟩, ⟨hF.K g1, (hF.N g1 (ncP7 g1)).trans g2⟩⟩
theorem adZ_f {σ : Sg} {p q r : Nat} : nz (adZ σ p q r) = nz σ + 1 ∧ nd (adZ σ p q r) = nd σ ∧ nb (adZ σ p q r) = nb σ ∧ (mi (adZ σ p q r) = mi σ ∧ al (adZ σ p q r) = al σ) ∧ cap (adZ σ p q r) (nz σ) = p ∧ (∀ j, j ≠ nz σ → cap (adZ σ p q r) j = cap σ j) ∧ lock (adZ σ p q r) = lock σ ∧ shut (adZ σ p q r) = shut σ ∧ plc (adZ σ p q r) = plc σ ∧ hst (adZ σ p q r) = hst σ := by
  have e : ∀ g, g ≠ 0 → g ≠ 2 → g ≠ 3 → g ≠ 4 → adZ σ p q r g = σ g := fun g g0 g2 g3 g4 => by unfold adZ; rw [up_ff _ g4, up_ff _ g3, up_ff _ g2, up_ff _ g0]
  have e0 : ∀ j, j ≠ 0 → adZ σ p q r 0 j = σ 0 j := fun j hj => by unfold adZ; rw [up_f _ (by omega), up_f _ (by omega), up_f _ (by omega), up_i _ hj]
  refine ⟨rfl, e0 1 (by omega), e0 2 (by omega), ⟨congrFun (e 1 (by omega) (by omega) (by omega) (by omega)) 0, congrFun (e 1 (by omega) (by omega) (by omega) (by omega)) 1⟩, ?_, fun j hj => ?_, e 8 (by omega) (by omega) (by omega) (by omega), e 9 (by omega) (by omega) (by omega) (by omega), e 10 (by omega) (by omega) (by omega) (by omega), e 12 (by omega) (by omega) (by omega) (by omega)⟩
  · show adZ σ p q r 2 (nz σ) = p
    unfold adZ; rw [up_f _ (by omega), up_f _ (by omega), up_eq]
  · show adZ σ p q r 2 j = σ 2 j
    unfold adZ; rw [up_f _ (by omega), up_f _ (by omega), up_i _ hj, up_f _ (by omega)]
theorem adD_f {σ : Sg} {p q r t : Nat} : nz (adD σ p q r t) = nz σ ∧ nd (adD σ p q r t) = nd σ + 1 ∧ nb (adD σ p q r t) = nb σ ∧ (mi (adD σ p q r t) = mi σ ∧ al (adD σ p q r t) = al σ) ∧ (lock (adD σ p q r t) (nd σ) = t ∧ shut (adD σ p q r t) (nd σ) = 0) ∧ (∀ j, j ≠ nd σ → lock (adD σ p q r t) j = lock σ j ∧ shut (adD σ p q r t) j = shut σ j) ∧ cap (adD σ p q r t) = cap σ ∧ plc (adD σ p q r t) = plc σ ∧ hst (adD σ p q r t) = hst σ := by
  have e : ∀ g, g ≠ 0 → g ≠ 5 → g ≠ 6 → g ≠ 7 → g ≠ 8 → g ≠ 9 → adD σ p q r t g = σ g := fun g g0 g2 g3 g4 g5 g6 => by unfold adD; rw [up_ff _ g6, up_ff _ g5, up_ff _ g4, up_ff _ g3, up_ff _ g2, up_ff _ g0]
  have e0 : ∀ j, j ≠ 1 → adD σ p q r t 0 j = σ 0 j := fun j hj => by unfold adD; rw [up_f _ (by omega), up_f _ (by omega), up_f _ (by omega), up_f _ (by omega), up_f _ (by omega), up_i _ hj]
  refine ⟨e0 0 (by omega), rfl, e0 2 (by omega), ⟨congrFun (e 1 (by omega) (by omega) (by omega) (by omega) (by omega) (by omega)) 0, congrFun (e 1 (by omega) (by omega) (by omega) (by omega) (by omega) (by omega)) 1⟩, ⟨?_, ?_⟩, fun j hj => ⟨?_, ?_⟩, e 2 (by omega) (by omega) (by omega) (by omega) (by omega) (by omega), e 10 (by omega) (by omega) (by omega) (by omega) (by omega) (by omega), e 12 (by omega) (by omega) (by omega) (by omega) (by omega) (by omega)⟩
  · show adD σ p q r t 8 (nd σ) = t
    unfold adD; rw [up_f _ (by omega), up_eq]
  · show adD σ p q r t 9 (nd σ) = 0
    unfold adD; rw [up_eq]
  · show adD σ p q r t 8 j = σ 8 j
    unfold adD; rw [up_f _ (by omega), up_i _ hj, up_f _ (by omega), up_f _ (by omega), up_f _ (by omega), up_f _ (by omega)]
  · show adD σ p q r t 9 j = σ 9 j
    unfold adD; rw [up_i _ hj, up_f _ (by omega), up_f _ (by omega), up_f _ (by omega), up_f _ (by omega), up_f _ (by omega)]
theorem BB.oZ {S9 : Ps} {p q r : Nat} (h : BB G S x c z d g C0 C1 C2 σ) (hp : pI S z (3 * σ 0 0) = nI p) (hJ : Inv (adZ σ p q r) 0) (hCO : CO G S S9 (adZ σ p q r) x) : BB G S9 x c z d g C0 C1 C2 (adZ σ p q r) := by
  obtain ⟨-, h2, h3, h4, ⟨h5, h6, h7⟩, h8, h9, h10⟩ := h
  obtain ⟨hF, hR⟩ := hCO
  obtain ⟨f1, f2, f3, ⟨f4, f5⟩, f6, f7, f8, f9, f10, f11⟩ := adZ_f (σ := σ) (p := p) (q := q) (r := r)
  have ic := hF.I h2.1.1 (ncP7 h2.1.1)
  have iz := hF.I h2.2.1.1 (ncP7 h2.2.1.1)
  have id_ := hF.I h2.2.2.1.1 (ncP7 h2.2.2.1.1)
  have ig := hF.I h2.2.2.2.1 (ncP7 h2.2.2.2.1)
  unfold BB
  rw [ic, iz, id_, ig, f1, f2, f3, f4, f5, f8, f9, f10, f11]
  refine ⟨hR, h2.fr hF, hJ, h4, ⟨h5, h6, h7⟩, fun j j0 hj => ?_, h9, h10⟩
  by_cases e : j = nz σ
  · rw [e, f6]; exact hp
  · rw [f7 j e]; exact h8 j j0 (by omega)
theorem BB.oD {S9 : Ps} {p q r t : Nat} (h : BB G S x c z d g C0 C1 C2 σ) (hp : pI S d (4 * σ 0 1 + 3) = nI t) (hJ : Inv (adD σ p q r t) 0) (hCO : CO G S S9 (adD σ p q r t) x) : BB G S9 x c z d g C0 C1 C2 (adD σ p q r t) := by
  obtain ⟨-, h2, h3, h4, ⟨h5, h6, h7⟩, h8, h9, h10⟩ := h
  obtain ⟨hF, hR⟩ := hCO
  obtain ⟨f1, f2, f3, ⟨f4, f5⟩, f6, f7, f8, f9, f10⟩ := adD_f (σ := σ) (p := p) (q := q) (r := r) (t := t)
  have ic := hF.I h2.1.1 (ncP7 h2.1.1)
  have iz := hF.I h2.2.1.1 (ncP7 h2.2.1.1)
  have id_ := hF.I h2.2.2.1.1 (ncP7 h2.2.2.1.1)
  have ig := hF.I h2.2.2.2.1 (ncP7 h2.2.2.2.1)
  unfold BB
  rw [ic, iz, id_, ig, f1, f2, f3, f4, f5, f8, f9, f10]
  refine ⟨hR, h2.fr hF, hJ, h4, ⟨h5, h6, h7⟩, h8, fun j hj => ?_, h10⟩
  by_cases e : j = nd σ
  · rw [e, f6.1, f6.2]; exact ⟨hp, rfl⟩
  · rw [(f7 j e).1, (f7 j e).2]; exact h9 j (by omega)
theorem BB.oB {S9 : Ps} {hh rr : Nat} (h : BB G S x c z d g C0 C1 C2 σ) (hb : nb σ < 10) (hp : 0 ≤ (pI S g (2 * σ 0 2)).toInt → hh = 0) (hJ : Inv (adB σ hh rr) 0) (hCO : CO G S S9 (adB σ hh rr) x) : BB G S9 x c z d g C0 C1 C2 (adB σ hh rr) ∧ nz (adB σ hh rr) = nz σ ∧ nd (adB σ hh rr) = nd σ ∧ nb (adB σ hh rr) = nb σ + 1 := by
  obtain ⟨-, h2, h3, h4, ⟨h5, h6, h7⟩, h8, h9, h10⟩ := h
  obtain ⟨hF, hR⟩ := hCO
  obtain ⟨e1, e2, e3, e4, e5, e6, e7, e8, -, -, -, -⟩ := adB_f (σ := σ) (hh := hh) (rr := rr) hb
  generalize adB σ hh rr = σ' at *
  have f1 : nz σ' = nz σ := e2 0 (by omega) (by omega)
  have f2 : nd σ' = nd σ := e2 1 (by omega) (by omega)
  have e : ∀ g, g ≠ 0 → g < 10 → σ' g = σ g := fun g g0 g1 => e4 g g0 (Or.inl g1) (by omega) (by omega)
  have ic := hF.I h2.1.1 (ncP7 h2.1.1)
  have iz := hF.I h2.2.1.1 (ncP7 h2.2.1.1)
  have id_ := hF.I h2.2.2.1.1 (ncP7 h2.2.2.1.1)
  have ig := hF.I h2.2.2.2.1 (ncP7 h2.2.2.2.1)
  refine ⟨?_, f1, f2, e1⟩
  unfold BB
  rw [ic, iz, id_, ig, f1, f2, e1, show mi σ' = mi σ from congrFun (e 1 (by omega) (by omega)) 0, show al σ' = al σ from congrFun (e 1 (by omega) (by omega)) 1, show cap σ' = cap σ from e 2 (by omega) (by omega), show lock σ' = lock σ from e 8 (by omega) (by omega), show shut σ' = shut σ from e 9 (by omega) (by omega)]
  refine ⟨hR, h2.fr hF, hJ, h4, ⟨h5, h6, h7⟩, h8, h9, fun j hj => ?_⟩
  by_cases c9 : j = nb σ
  · rw [c9, e6, e8]; exact ⟨rfl, hp⟩
  · rw [show plc σ' j = plc σ j from e5 10 (by omega) (by omega) j c9, show hst σ' j = hst σ j from e5 12 (by omega) (by omega) j c9]
    exact h10 j (by omega)
/-- the house that was built -/
theorem BB.done {N0 N1 N2 : Nat} (h : BB G S x c z d g (nI N0) (nI N1) (nI N2) σ) (h0 : nz σ = N0) (h1 : nd σ = N1) (h2 : nb σ = N2) : ZW G S x c z d σ ∧ P28 σ ∧ mi σ = 0 := by
  obtain ⟨hR, k2, h3, h4, ⟨h5, h6, h7⟩, h8, h9, h10⟩ := h
  refine ⟨⟨hR, ⟨k2.1.1, k2.1.2, by rw [h5, h0], by rw [h6, h1], by rw [h7, h2]⟩, ⟨k2.2.1.1, k2.2.1.2, h8⟩, ⟨k2.2.2.1.1, k2.2.2.1.2, fun q hq => (h9 q hq).1⟩⟩, ⟨h4.2, fun j j0 hj => ?_, fun p q hp hq _ _ _ hh => ?_⟩, h4.1⟩
  · rw [show insB σ j = 0 from bset_no (fun i hi => decide_eq_false (by rw [(h10 i hi).1]; omega))]
    exact Nat.zero_le _
  · have := (h9 p hp).2
    unfold lft at hh
    omega
end BBP
