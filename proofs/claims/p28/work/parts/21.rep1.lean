/-! THE CLASS'S OBJECTS for a house σ: their addresses Y (0 zones, 1 doors, 2 badges, 3 lists: zones, doors, badges, then the stays of each badge; 7 the lists' rows; 10 + b the stays of badge b). -/
abbrev Lay : Type := Nat → Nat → Nat
def lsY (Y : Lay) (j : Nat) : Nat → Nat := Y (if j < 3 then j else 7 + j)
def lsK (j : Nat) : Nat := if j = 0 then 4 else if j = 1 then 2 else if j = 2 then 1 else 3
def RC (G : Ids) (S : Ps) (Y : Lay) (σ : Sg) (x : Nat) : Prop :=
  (isK S 5 x ∧ pF S 0 x = .ref (Y 0 0) ∧ pF S 1 x = .ref (Y 3 0) ∧ pF S 2 x = .ref (Y 3 1) ∧ pF S 3 x = .ref (Y 3 2) ∧ pF S 4 x = .int (nI (mi σ)) ∧ pF S 5 x = .int (nI (al σ))) ∧
  (∀ j, j < 3 + nb σ → LsOK G S (lsK j) (Y 3 j) (Y 7 j) (σ 0 j) (lsY Y j)) ∧
  (∀ z, z < nz σ → isK S 4 (Y 0 z) ∧ pF S 0 (Y 0 z) = .int (nI z) ∧ pF S 1 (Y 0 z) = .int (nI (cap σ z)) ∧ pF S 2 (Y 0 z) = .int (nI (beg σ z)) ∧ pF S 3 (Y 0 z) = .int (nI (fin σ z))) ∧
  (∀ d, d < nd σ → isK S 2 (Y 1 d) ∧ pF S 0 (Y 1 d) = .ref (Y 0 (sda σ d)) ∧ pF S 1 (Y 1 d) = .ref (Y 0 (sdb σ d)) ∧ pF S 2 (Y 1 d) = .int (nI (hold σ d)) ∧ pF S 3 (Y 1 d) = .int (nI (lock σ d)) ∧ pF S 4 (Y 1 d) = .int (nI (shut σ d))) ∧
  (∀ b, b < nb σ → isK S 1 (Y 2 b) ∧ pF S 0 (Y 2 b) = .int (nI b) ∧ pF S 1 (Y 2 b) = (if hst σ b = 0 then .null else .ref (Y 2 (hst σ b - 1))) ∧ pF S 2 (Y 2 b) = .ref (Y 3 (3 + b)) ∧ pF S 3 (Y 2 b) = .ref (Y (10 + b) (ns σ b - 1)) ∧ pF S 4 (Y 2 b) = .int (nI (rgt σ b)) ∧ pF S 5 (Y 2 b) = .int (nI (blk σ b)) ∧ pF S 6 (Y 2 b) = .int (nI (rfs σ b))) ∧
  (∀ b, b < nb σ → 1 ≤ ns σ b ∧ syz σ b (ns σ b - 1) = plc σ b ∧ ∀ i, i < ns σ b → isK S 3 (Y (10 + b) i) ∧ pF S 0 (Y (10 + b) i) = .ref (Y 0 (syz σ b i)) ∧ pF S 1 (Y (10 + b) i) = .int (nI (sys σ b i))) ∧
  ∃ tg : Nat → Nat × Nat, (∀ z, z < nz σ → tg (Y 0 z) = (0, z)) ∧ (∀ d, d < nd σ → tg (Y 1 d) = (1, d)) ∧ (∀ b, b < nb σ → tg (Y 2 b) = (2, b)) ∧ (∀ j, j < 3 + nb σ → tg (Y 3 j) = (3, j)) ∧ (∀ j, j < 3 + nb σ → Y 7 j ≠ G.2.2.1 → tg (Y 7 j) = (7, j)) ∧ (∀ b, b < nb σ → ∀ i, i < ns σ b → tg (Y (10 + b) i) = (10 + b, i))
section RCP
variable {G : Ids} {S : Ps} {Y : Lay} {σ : Sg} {x z d b i j : Nat}
theorem RC.kx (h : RC G S Y σ x) : isK S 5 x := h.1.1
theorem RC.x0 (h : RC G S Y σ x) : pF S 0 x = .ref (Y 0 0) := h.1.2.1
theorem RC.x1 (h : RC G S Y σ x) : pF S 1 x = .ref (Y 3 0) := h.1.2.2.1
theorem RC.x2 (h : RC G S Y σ x) : pF S 2 x = .ref (Y 3 1) := h.1.2.2.2.1
theorem RC.x3 (h : RC G S Y σ x) : pF S 3 x = .ref (Y 3 2) := h.1.2.2.2.2.1
theorem RC.x4 (h : RC G S Y σ x) : pF S 4 x = .int (nI (mi σ)) := h.1.2.2.2.2.2.1
theorem RC.x5 (h : RC G S Y σ x) : pF S 5 x = .int (nI (al σ)) := h.1.2.2.2.2.2.2
theorem RC.ls (h : RC G S Y σ x) (hj : j < 3 + nb σ) : LsOK G S (lsK j) (Y 3 j) (Y 7 j) (σ 0 j) (lsY Y j) := h.2.1 j hj
theorem RC.lz (h : RC G S Y σ x) : LsOK G S 4 (Y 3 0) (Y 7 0) (nz σ) (Y 0) := h.2.1 0 (by omega)
theorem RC.ld (h : RC G S Y σ x) : LsOK G S 2 (Y 3 1) (Y 7 1) (nd σ) (Y 1) := h.2.1 1 (by omega)
theorem RC.lb (h : RC G S Y σ x) : LsOK G S 1 (Y 3 2) (Y 7 2) (nb σ) (Y 2) := h.2.1 2 (by omega)
theorem lsY_s (Y : Lay) (b : Nat) : lsY Y (3 + b) = Y (10 + b) := by unfold lsY; rw [if_neg (by omega), show 7 + (3 + b) = 10 + b by omega]
theorem lsK_s (b : Nat) : lsK (3 + b) = 3 := by unfold lsK; rw [if_neg (by omega), if_neg (by omega), if_neg (by omega)]
theorem RC.lst (h : RC G S Y σ x) (hb : b < nb σ) : LsOK G S 3 (Y 3 (3 + b)) (Y 7 (3 + b)) (ns σ b) (Y (10 + b)) := by
  have h1 := h.2.1 (3 + b) (by omega)
  rw [lsY_s, lsK_s] at h1
  exact h1
theorem RC.kz (h : RC G S Y σ x) (hz : z < nz σ) : isK S 4 (Y 0 z) := (h.2.2.1 z hz).1
theorem RC.z0 (h : RC G S Y σ x) (hz : z < nz σ) : pF S 0 (Y 0 z) = .int (nI z) := (h.2.2.1 z hz).2.1
theorem RC.z1 (h : RC G S Y σ x) (hz : z < nz σ) : pF S 1 (Y 0 z) = .int (nI (cap σ z)) := (h.2.2.1 z hz).2.2.1
theorem RC.z2 (h : RC G S Y σ x) (hz : z < nz σ) : pF S 2 (Y 0 z) = .int (nI (beg σ z)) := (h.2.2.1 z hz).2.2.2.1
theorem RC.z3 (h : RC G S Y σ x) (hz : z < nz σ) : pF S 3 (Y 0 z) = .int (nI (fin σ z)) := (h.2.2.1 z hz).2.2.2.2
theorem RC.kd (h : RC G S Y σ x) (hd : d < nd σ) : isK S 2 (Y 1 d) := (h.2.2.2.1 d hd).1
theorem RC.d0 (h : RC G S Y σ x) (hd : d < nd σ) : pF S 0 (Y 1 d) = .ref (Y 0 (sda σ d)) := (h.2.2.2.1 d hd).2.1
theorem RC.d1 (h : RC G S Y σ x) (hd : d < nd σ) : pF S 1 (Y 1 d) = .ref (Y 0 (sdb σ d)) := (h.2.2.2.1 d hd).2.2.1
theorem RC.d2 (h : RC G S Y σ x) (hd : d < nd σ) : pF S 2 (Y 1 d) = .int (nI (hold σ d)) := (h.2.2.2.1 d hd).2.2.2.1
theorem RC.d3 (h : RC G S Y σ x) (hd : d < nd σ) : pF S 3 (Y 1 d) = .int (nI (lock σ d)) := (h.2.2.2.1 d hd).2.2.2.2.1
theorem RC.d4 (h : RC G S Y σ x) (hd : d < nd σ) : pF S 4 (Y 1 d) = .int (nI (shut σ d)) := (h.2.2.2.1 d hd).2.2.2.2.2
theorem RC.kb (h : RC G S Y σ x) (hb : b < nb σ) : isK S 1 (Y 2 b) := (h.2.2.2.2.1 b hb).1
theorem RC.b0 (h : RC G S Y σ x) (hb : b < nb σ) : pF S 0 (Y 2 b) = .int (nI b) := (h.2.2.2.2.1 b hb).2.1
theorem RC.b1 (h : RC G S Y σ x) (hb : b < nb σ) : pF S 1 (Y 2 b) = (if hst σ b = 0 then .null else .ref (Y 2 (hst σ b - 1))) := (h.2.2.2.2.1 b hb).2.2.1
theorem RC.b1n (h : RC G S Y σ x) (hb : b < nb σ) (e : hst σ b = 0) : pF S 1 (Y 2 b) = .null := by rw [h.b1 hb, if_pos e]
theorem RC.b1s (h : RC G S Y σ x) (hb : b < nb σ) (e : ¬ hst σ b = 0) : pF S 1 (Y 2 b) = .ref (Y 2 (hst σ b - 1)) := by rw [h.b1 hb, if_neg e]
theorem RC.b2 (h : RC G S Y σ x) (hb : b < nb σ) : pF S 2 (Y 2 b) = .ref (Y 3 (3 + b)) := (h.2.2.2.2.1 b hb).2.2.2.1
theorem RC.b3 (h : RC G S Y σ x) (hb : b < nb σ) : pF S 3 (Y 2 b) = .ref (Y (10 + b) (ns σ b - 1)) := (h.2.2.2.2.1 b hb).2.2.2.2.1
theorem RC.b4 (h : RC G S Y σ x) (hb : b < nb σ) : pF S 4 (Y 2 b) = .int (nI (rgt σ b)) := (h.2.2.2.2.1 b hb).2.2.2.2.2.1
theorem RC.b5 (h : RC G S Y σ x) (hb : b < nb σ) : pF S 5 (Y 2 b) = .int (nI (blk σ b)) := (h.2.2.2.2.1 b hb).2.2.2.2.2.2.1
theorem RC.b6 (h : RC G S Y σ x) (hb : b < nb σ) : pF S 6 (Y 2 b) = .int (nI (rfs σ b)) := (h.2.2.2.2.1 b hb).2.2.2.2.2.2.2
theorem RC.s (h : RC G S Y σ x) (hb : b < nb σ) (hi : i < ns σ b) : isK S 3 (Y (10 + b) i) := ((h.2.2.2.2.2.1 b hb).2.2 i hi).1
theorem RC.s0 (h : RC G S Y σ x) (hb : b < nb σ) (hi : i < ns σ b) : pF S 0 (Y (10 + b) i) = .ref (Y 0 (syz σ b i)) := ((h.2.2.2.2.2.1 b hb).2.2 i hi).2.1
theorem RC.s1 (h : RC G S Y σ x) (hb : b < nb σ) (hi : i < ns σ b) : pF S 1 (Y (10 + b) i) = .int (nI (sys σ b i)) := ((h.2.2.2.2.2.1 b hb).2.2 i hi).2.2
theorem RC.n1 (h : RC G S Y σ x) (hb : b < nb σ) : 1 ≤ ns σ b := (h.2.2.2.2.2.1 b hb).1
/-- the stay that goes on -/
theorem RC.c (h : RC G S Y σ x) (hb : b < nb σ) : isK S 3 (Y (10 + b) (ns σ b - 1)) := h.s hb (by have := h.n1 hb; omega)
theorem RC.c0 (h : RC G S Y σ x) (hb : b < nb σ) : pF S 0 (Y (10 + b) (ns σ b - 1)) = .ref (Y 0 (plc σ b)) := by
  rw [h.s0 hb (by have := h.n1 hb; omega), (h.2.2.2.2.2.1 b hb).2.1]
theorem RC.c1 (h : RC G S Y σ x) (hb : b < nb σ) : pF S 1 (Y (10 + b) (ns σ b - 1)) = .int (nI (sys σ b (ns σ b - 1))) := h.s1 hb (by have := h.n1 hb; omega)
theorem RC.zi {z' : Nat} (h : RC G S Y σ x) (hz : z < nz σ) (hz' : z' < nz σ) : Y 0 z = Y 0 z' ↔ z = z' := by
  obtain ⟨-, -, -, -, -, -, tg, t0, -⟩ := h
  refine ⟨fun e => ?_, fun e => e ▸ rfl⟩
  have h1 := (t0 z hz).symm.trans ((congrArg tg e).trans (t0 z' hz'))
  exact congrArg Prod.snd h1
theorem RC.di {d' : Nat} (h : RC G S Y σ x) (hd : d < nd σ) (hd' : d' < nd σ) : Y 1 d = Y 1 d' ↔ d = d' := by
  obtain ⟨-, -, -, -, -, -, tg, -, t1, -⟩ := h
  refine ⟨fun e => ?_, fun e => e ▸ rfl⟩
  have h1 := (t1 d hd).symm.trans ((congrArg tg e).trans (t1 d' hd'))
  exact congrArg Prod.snd h1
theorem RC.bi {b' : Nat} (h : RC G S Y σ x) (hb : b < nb σ) (hb' : b' < nb σ) : Y 2 b = Y 2 b' ↔ b = b' := by
  obtain ⟨-, -, -, -, -, -, tg, -, -, t2, -⟩ := h
  refine ⟨fun e => ?_, fun e => e ▸ rfl⟩
  have h1 := (t2 b hb).symm.trans ((congrArg tg e).trans (t2 b' hb'))
  exact congrArg Prod.snd h1
theorem RC.si {b' i' : Nat} (h : RC G S Y σ x) (hb : b < nb σ) (hb' : b' < nb σ) (hi : i < ns σ b) (hi' : i' < ns σ b') : Y (10 + b) i = Y (10 + b') i' ↔ b = b' ∧ i = i' := by
  obtain ⟨-, -, -, -, -, -, tg, -, -, -, -, -, t5⟩ := h
  refine ⟨fun e => ?_, fun e => by rw [e.1, e.2]⟩
  have h1 := (t5 b hb i hi).symm.trans ((congrArg tg e).trans (t5 b' hb' i' hi'))
  have h2 := congrArg Prod.fst h1
  have h3 := congrArg Prod.snd h1
  exact ⟨Nat.add_left_cancel h2, h3⟩
end RCP
section INV
variable {σ : Sg} {z d b : Nat}
theorem InvC.n (h : InvC σ) : 1 ≤ nz σ ∧ nz σ ≤ 8 ∧ nd σ ≤ 12 ∧ nb σ ≤ 10 ∧ mi σ ≤ 99999 ∧ al σ ≤ 1 := h.1
theorem InvC.vz (h : InvC σ) (hz : z < nz σ) : 1 ≤ cap σ z ∧ cap σ z ≤ 20 ∧ beg σ z ≤ 1439 ∧ fin σ z ≤ 1440 ∧ beg σ z ≠ fin σ z := h.2.1 z hz
theorem InvC.vd (h : InvC σ) (hd : d < nd σ) : sda σ d < nz σ ∧ sdb σ d < nz σ ∧ sda σ d ≠ sdb σ d ∧ hold σ d ≤ 9 ∧ lock σ d ≤ 3 ∧ shut σ d ≤ 200000 := h.2.2.2.1 d hd
theorem InvC.vb (h : InvC σ) (hb : b < nb σ) : plc σ b < nz σ ∧ rgt σ b ≤ 255 ∧ hst σ b ≤ b ∧ (hst σ b ≠ 0 → hst σ (hst σ b - 1) = 0) ∧ blk σ b ≤ 1 ∧ rfs σ b ≤ 3 ∧ (blk σ b = 0 → rfs σ b ≤ 2) := h.2.2.2.2 b hb
theorem InvC.h (h : InvC σ) (hb : b < nb σ) (e : ¬ hst σ b = 0) : hst σ b - 1 < nb σ := by have := (h.vb hb).2.2.1; omega
theorem InvC.r (h : InvC σ) (hb : b < nb σ) : rgs σ b ≤ 255 := by
  unfold rgs
  split
  · exact (h.vb hb).2.1
  · exact (h.vb (h.h hb ‹_›)).2.1
end INV
/-- what the class's methods may change: its own kinds -/
def cP (S : Ps) (a : Nat) : Prop := pK S a < 6 ∨ pK S a = 9
/-- .. the reference's -/
def mP (S : Ps) (a : Nat) : Prop := pK S a = 6 ∨ pK S a = 7 ∨ pK S a = 8
theorem FrC.trans {S S' S'' : Ps} (h : Fr (cP S) S S') (h' : Fr (cP S') S' S'') : Fr (cP S) S S'' := fun b hb => by
  obtain ⟨a1, a2, a3⟩ := h b hb
  obtain ⟨b1, b2, b3⟩ := h' b a1
  refine ⟨b1, b2.trans a2, fun hp => ?_⟩
  obtain ⟨c1, c2, c3, c4, c5⟩ := a3 hp
  obtain ⟨d1, d2, d3, d4, d5⟩ := b3 (by unfold cP at hp ⊢; rw [a2]; exact hp)
  exact ⟨fun j => (d1 j).trans (c1 j), d2.trans c2, d3.trans c3, d4.trans c4, d5.trans c5⟩
theorem FrM.trans {S S' S'' : Ps} (h : Fr (mP S) S S') (h' : Fr (mP S') S' S'') : Fr (mP S) S S'' := fun b hb => by
  obtain ⟨a1, a2, a3⟩ := h b hb
  obtain ⟨b1, b2, b3⟩ := h' b a1
  refine ⟨b1, b2.trans a2, fun hp => ?_⟩
  obtain ⟨c1, c2, c3, c4, c5⟩ := a3 hp
  obtain ⟨d1, d2, d3, d4, d5⟩ := b3 (by unfold mP at hp ⊢; rw [a2]; exact hp)
  exact ⟨fun j => (d1 j).trans (c1 j), d2.trans c2, d3.trans c3, d4.trans c4, d5.trans c5⟩
