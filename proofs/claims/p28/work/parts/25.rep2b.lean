theorem LsOK.fr9 {P : Nat → Prop} {G : Ids} {S S' : Ps} {κ a r n : Nat} {f : Nat → Nat} (h : LsOK G S κ a r n f) (hF : Fr P S S') (ha : ¬ P a) (hr : isK S 9 r → ¬ P r) : LsOK G S' κ a r n f := by
  obtain ⟨h1, h2, h3, ⟨m, h4⟩, h5, h6⟩ := h
  refine ⟨hF.K h1, (hF.F h1 ha 2).trans h2, (hF.F h1 ha 1).trans h3, ⟨m, (hF.F h1 ha 0).trans h4⟩, h5, ?_⟩
  rcases h6 with h6 | ⟨k1, k2, k3, k4, k5, k6⟩
  · exact Or.inl h6
  · refine Or.inr ⟨hF.K k1, ?_, ?_, ?_, ?_, ?_⟩
    · rw [hF.N k1 (hr k1)]; exact k2
    · rw [hF.N k1 (hr k1)]; exact k3
    · rw [hF.N k1 (hr k1)]; exact k4
    · rw [hF.R k1 (hr k1)]; exact k5
    · rw [hF.R k1 (hr k1)]; exact fun i y hy => hF.K (k6 i y hy)
section FRM
variable {G : Ids} {S S' : Ps} {Y : Lay} {σ : Sg} {x j : Nat} {P : Nat → Prop}
theorem RC.kl (h : RC G S Y σ x) (hj : j < 3 + nb σ) : isK S 0 (Y 3 j) := (h.ls hj).1
theorem RC.k7 (h : RC G S Y σ x) (hj : j < 3 + nb σ) (hn : Y 7 j ≠ G.2.2.1) : isK S 9 (Y 7 j) := by
  rcases (h.ls hj).2.2.2.2.2 with q | q
  · exact absurd q.1 hn
  · exact q.1
theorem RC.t7 {j' : Nat} (h : RC G S Y σ x) (hj : j < 3 + nb σ) (hj' : j' < 3 + nb σ) (hn : Y 7 j ≠ G.2.2.1) (e : Y 7 j = Y 7 j') : j = j' := by
  obtain ⟨-, -, -, -, -, -, tg, -, -, -, -, t7, -⟩ := h
  have h1 := (t7 j hj hn).symm.trans ((congrArg tg e).trans (t7 j' hj' (e ▸ hn)))
  exact congrArg Prod.snd h1
theorem RC.t3 {j' : Nat} (h : RC G S Y σ x) (hj : j < 3 + nb σ) (hj' : j' < 3 + nb σ) (e : Y 3 j = Y 3 j') : j = j' := by
  obtain ⟨-, -, -, -, -, -, tg, -, -, -, t3, -, -⟩ := h
  have h1 := (t3 j hj).symm.trans ((congrArg tg e).trans (t3 j' hj'))
  exact congrArg Prod.snd h1
/-- RC without its lists and its tags -/
def RO (S : Ps) (Y : Lay) (σ : Sg) (x : Nat) : Prop :=
  (isK S 5 x ∧ pF S 0 x = .ref (Y 0 0) ∧ pF S 1 x = .ref (Y 3 0) ∧ pF S 2 x = .ref (Y 3 1) ∧ pF S 3 x = .ref (Y 3 2) ∧ pF S 4 x = .int (nI (mi σ)) ∧ pF S 5 x = .int (nI (al σ))) ∧
  (∀ z, z < nz σ → isK S 4 (Y 0 z) ∧ pF S 0 (Y 0 z) = .int (nI z) ∧ pF S 1 (Y 0 z) = .int (nI (cap σ z)) ∧ pF S 2 (Y 0 z) = .int (nI (beg σ z)) ∧ pF S 3 (Y 0 z) = .int (nI (fin σ z))) ∧
  (∀ d, d < nd σ → isK S 2 (Y 1 d) ∧ pF S 0 (Y 1 d) = .ref (Y 0 (sda σ d)) ∧ pF S 1 (Y 1 d) = .ref (Y 0 (sdb σ d)) ∧ pF S 2 (Y 1 d) = .int (nI (hold σ d)) ∧ pF S 3 (Y 1 d) = .int (nI (lock σ d)) ∧ pF S 4 (Y 1 d) = .int (nI (shut σ d))) ∧
  (∀ b, b < nb σ → ¬ P (Y 2 b) → isK S 1 (Y 2 b) ∧ pF S 0 (Y 2 b) = .int (nI b) ∧ pF S 1 (Y 2 b) = (if hst σ b = 0 then .null else .ref (Y 2 (hst σ b - 1))) ∧ pF S 2 (Y 2 b) = .ref (Y 3 (3 + b)) ∧ pF S 3 (Y 2 b) = .ref (Y (10 + b) (ns σ b - 1)) ∧ pF S 4 (Y 2 b) = .int (nI (rgt σ b)) ∧ pF S 5 (Y 2 b) = .int (nI (blk σ b)) ∧ pF S 6 (Y 2 b) = .int (nI (rfs σ b))) ∧
  (∀ b, b < nb σ → 1 ≤ ns σ b ∧ syz σ b (ns σ b - 1) = plc σ b ∧ ∀ i, i < ns σ b → isK S 3 (Y (10 + b) i) ∧ pF S 0 (Y (10 + b) i) = .ref (Y 0 (syz σ b i)) ∧ pF S 1 (Y (10 + b) i) = .int (nI (sys σ b i)))
theorem RC.frO (h : RC G S Y σ x) (F : Fr P S S') (hP : ∀ q, q ∈ pL S → P q → pK S q = 0 ∨ pK S q = 9 ∨ pK S q = 1) : RO (P := P) S' Y σ x := by
  obtain ⟨⟨a0, a1, a2, a3, a4, a5, a6⟩, hl, hz, hd, hb, hs, ht⟩ := h
  have np : ∀ k q, isK S k q → k ≠ 0 → k ≠ 9 → k ≠ 1 → ¬ P q := fun k q hk h0 h9 h1 hp => by
    rcases hP q hk.1 hp with e | e | e
    · exact h0 (hk.2.symm.trans e)
    · exact h9 (hk.2.symm.trans e)
    · exact h1 (hk.2.symm.trans e)
  have nx := np 5 x a0 (by decide) (by decide) (by decide)
  refine ⟨⟨F.K a0, (F.F a0 nx 0).trans a1, (F.F a0 nx 1).trans a2, (F.F a0 nx 2).trans a3, (F.F a0 nx 3).trans a4, (F.F a0 nx 4).trans a5, (F.F a0 nx 5).trans a6⟩, fun z h9 => ?_, fun d h9 => ?_, fun b h9 hnp => ?_, fun b h9 => ?_⟩
  · obtain ⟨b0, b1, b2, b3, b4⟩ := hz z h9
    have n := np 4 _ b0 (by decide) (by decide) (by decide)
    exact ⟨F.K b0, (F.F b0 n 0).trans b1, (F.F b0 n 1).trans b2, (F.F b0 n 2).trans b3, (F.F b0 n 3).trans b4⟩
  · obtain ⟨b0, b1, b2, b3, b4, b5⟩ := hd d h9
    have n := np 2 _ b0 (by decide) (by decide) (by decide)
    exact ⟨F.K b0, (F.F b0 n 0).trans b1, (F.F b0 n 1).trans b2, (F.F b0 n 2).trans b3, (F.F b0 n 3).trans b4, (F.F b0 n 4).trans b5⟩
  · obtain ⟨b0, b1, b2, b3, b4, b5, b6, b7⟩ := hb b h9
    exact ⟨F.K b0, (F.F b0 hnp 0).trans b1, (F.F b0 hnp 1).trans b2, (F.F b0 hnp 2).trans b3, (F.F b0 hnp 3).trans b4, (F.F b0 hnp 4).trans b5, (F.F b0 hnp 5).trans b6, (F.F b0 hnp 6).trans b7⟩
  · obtain ⟨c1, c2, c3⟩ := hs b h9
    refine ⟨c1, c2, fun i hi => ?_⟩
    obtain ⟨b0, b1, b2⟩ := c3 i hi
    have n := np 3 _ b0 (by decide) (by decide) (by decide)
    exact ⟨F.K b0, (F.F b0 n 0).trans b1, (F.F b0 n 1).trans b2⟩
theorem RC.frL (h : RC G S Y σ x) (he : G.2.2.1 ∉ pL S) (hj : j < 3 + nb σ) (F : Fr P S S') (hP : ∀ q, q ∈ pL S → P q → q = Y 3 j ∨ q = Y 7 j ∨ pK S q = 1) : ∀ j', j' < 3 + nb σ → j' ≠ j → LsOK G S' (lsK j') (Y 3 j') (Y 7 j') (σ 0 j') (lsY Y j') := fun j' hj' hn => by
  refine (h.ls hj').fr F (fun hp => ?_) (fun hr hp => ?_)
  · rcases hP _ (h.kl hj').1 hp with e | e | e
    · exact hn (h.t3 hj' hj e)
    · have h7 : Y 7 j ≠ G.2.2.1 := fun q => he (q ▸ e ▸ (h.kl hj').1)
      exact isK_ne (h.kl hj') (h.k7 hj h7) (by decide) e
    · exact absurd ((h.kl hj').2.symm.trans e) (by decide)
  · have h7 : Y 7 j' ≠ G.2.2.1 := fun q => he (q ▸ hr)
    rcases hP _ hr hp with e | e | e
    · exact isK_ne (h.k7 hj' h7) (h.kl hj) (by decide) e
    · exact hn (h.t7 hj' hj h7 e)
    · exact absurd ((h.k7 hj' h7).2.symm.trans e) (by decide)
theorem RC.lsP (h : RC G S Y σ x) (he : G.2.2.1 ∉ pL S) (hj : j < 3 + nb σ) : ∀ q, q ∈ pL S → (q = Y 3 j ∨ q = Y 7 j) → pK S q = 0 ∨ pK S q = 9 ∨ pK S q = 1 := fun q hq hp => by
  rcases hp with e | e
  · exact Or.inl (by rw [e]; exact (h.kl hj).2)
  · subst e
    exact Or.inr (Or.inl (h.k7 hj (fun z => he (z ▸ hq))).2)
theorem RC.lsP' (h : RC G S Y σ x) (he : G.2.2.1 ∉ pL S) (hj : j < 3 + nb σ) : ∀ q, q ∈ pL S → (q = Y 3 j ∨ q = Y 7 j) → cP S q := fun q hq hp => by
  rcases h.lsP he hj q hq hp with e | e | e
  · exact Or.inl (by rw [e]; decide)
  · exact Or.inr e
  · exact Or.inl (by rw [e]; decide)
theorem RC.fr0 (h : RC G S Y σ x) (F : Fr (fun _ => False) S S') : RC G S' Y σ x := by
  obtain ⟨a, z, d, b, s⟩ := h.frO F (fun _ _ q => q.elim)
  exact ⟨a, fun j hj => (h.ls hj).fr F (fun q => q) (fun _ q => q), z, d, fun b9 h9 => b b9 h9 (fun q => q), s, h.2.2.2.2.2.2⟩
/-- only the reference's kinds or the row of answers changed -/
theorem RC.frM (h : RC G S Y σ x) (F : Fr P S S') (hP : ∀ q, q ∈ pL S → P q → ¬ cP S q) : RC G S' Y σ x := by
  obtain ⟨⟨a0, a1, a2, a3, a4, a5, a6⟩, hl, hz, hd, hb, hs, ht⟩ := h
  have np : ∀ k q, isK S k q → k < 6 ∨ k = 9 → ¬ P q := fun k q hk hc hp => hP q hk.1 hp (by unfold cP; rw [hk.2]; exact hc)
  have nx := np 5 x a0 (by decide)
  refine ⟨⟨F.K a0, (F.F a0 nx 0).trans a1, (F.F a0 nx 1).trans a2, (F.F a0 nx 2).trans a3, (F.F a0 nx 3).trans a4, (F.F a0 nx 4).trans a5, (F.F a0 nx 5).trans a6⟩, fun j hj => ?_, fun z h9 => ?_, fun d h9 => ?_, fun b h9 => ?_, fun b h9 => ?_, ht⟩
  · have hL := hl j hj
    exact hL.fr9 F (np 0 _ hL.1 (by decide)) (fun hr => np 9 _ hr (by decide))
  · obtain ⟨b0, b1, b2, b3, b4⟩ := hz z h9
    have n := np 4 _ b0 (by decide)
    exact ⟨F.K b0, (F.F b0 n 0).trans b1, (F.F b0 n 1).trans b2, (F.F b0 n 2).trans b3, (F.F b0 n 3).trans b4⟩
  · obtain ⟨b0, b1, b2, b3, b4, b5⟩ := hd d h9
    have n := np 2 _ b0 (by decide)
    exact ⟨F.K b0, (F.F b0 n 0).trans b1, (F.F b0 n 1).trans b2, (F.F b0 n 2).trans b3, (F.F b0 n 3).trans b4, (F.F b0 n 4).trans b5⟩
  · obtain ⟨b0, b1, b2, b3, b4, b5, b6, b7⟩ := hb b h9
    have n := np 1 _ b0 (by decide)
    exact ⟨F.K b0, (F.F b0 n 0).trans b1, (F.F b0 n 1).trans b2, (F.F b0 n 2).trans b3, (F.F b0 n 3).trans b4, (F.F b0 n 4).trans b5, (F.F b0 n 5).trans b6, (F.F b0 n 6).trans b7⟩
  · obtain ⟨c1, c2, c3⟩ := hs b h9
    refine ⟨c1, c2, fun i hi => ?_⟩
    obtain ⟨b0, b1, b2⟩ := c3 i hi
    have n := np 3 _ b0 (by decide)
    exact ⟨F.K b0, (F.F b0 n 0).trans b1, (F.F b0 n 1).trans b2⟩
end FRM
