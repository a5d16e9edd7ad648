/-! How the class's objects follow a change: of one field, of one more object. -/
theorem LsOK.sF {G : Ids} {S : Ps} {κ a r n k b j : Nat} {f : Nat → Nat} {v : Value} (h : LsOK G S κ a r n f) (hb : isK S k b) (hk : k ≠ 0) : LsOK G (sF S j b v) κ a r n f := by
  obtain ⟨h1, h2, h3, ⟨m, h4⟩, h5, h6⟩ := h
  have e : a ≠ b := isK_ne h1 hb (Ne.symm hk)
  exact ⟨isK_sF.mpr h1, (pF_sF_a _ _ _ _ e).trans h2, (pF_sF_a _ _ _ _ e).trans h3, ⟨m, (pF_sF_a _ _ _ _ e).trans h4⟩, h5, h6⟩
theorem RC.uX4 {G : Ids} {S : Ps} {Y : Lay} {σ : Sg} {x v : Nat} (h : RC G S Y σ x) : RC G (sF S 4 x (.int (nI v))) Y (up σ 1 0 v) x := by
  have hk := h.kx
  have H := h
  obtain ⟨⟨a0, a1, a2, a3, a4, a5, a6⟩, hl, hz, hd, hb, hs, ht⟩ := h
  refine ⟨⟨isK_sF.mpr a0, (pF_sF_j _ _ _ _ (by decide)).trans a1, (pF_sF_j _ _ _ _ (by decide)).trans a2, (pF_sF_j _ _ _ _ (by decide)).trans a3, (pF_sF_j _ _ _ _ (by decide)).trans a4, pF_sF_eq _ _ _ _, (pF_sF_j _ _ _ _ (by decide)).trans a6⟩, fun j9 hj9 => (hl j9 hj9).sF hk (by decide), fun z h9 => ?_, fun d h9 => ?_, fun b h9 => ?_, fun b h9 => ?_, ht⟩
  · obtain ⟨b0q, c0, c1, c2, c3⟩ := hz z h9
    exact ⟨isK_sF.mpr b0q, (pF_sF_a _ _ _ _ (isK_ne b0q hk (by decide))).trans c0, (pF_sF_a _ _ _ _ (isK_ne b0q hk (by decide))).trans c1, (pF_sF_a _ _ _ _ (isK_ne b0q hk (by decide))).trans c2, (pF_sF_a _ _ _ _ (isK_ne b0q hk (by decide))).trans c3⟩
  · obtain ⟨b0q, c0, c1, c2, c3, c4⟩ := hd d h9
    exact ⟨isK_sF.mpr b0q, (pF_sF_a _ _ _ _ (isK_ne b0q hk (by decide))).trans c0, (pF_sF_a _ _ _ _ (isK_ne b0q hk (by decide))).trans c1, (pF_sF_a _ _ _ _ (isK_ne b0q hk (by decide))).trans c2, (pF_sF_a _ _ _ _ (isK_ne b0q hk (by decide))).trans c3, (pF_sF_a _ _ _ _ (isK_ne b0q hk (by decide))).trans c4⟩
  · obtain ⟨b0q, c0, c1, c2, c3, c4, c5, c6⟩ := hb b h9
    exact ⟨isK_sF.mpr b0q, (pF_sF_a _ _ _ _ (isK_ne b0q hk (by decide))).trans c0, (pF_sF_a _ _ _ _ (isK_ne b0q hk (by decide))).trans c1, (pF_sF_a _ _ _ _ (isK_ne b0q hk (by decide))).trans c2, (pF_sF_a _ _ _ _ (isK_ne b0q hk (by decide))).trans c3, (pF_sF_a _ _ _ _ (isK_ne b0q hk (by decide))).trans c4, (pF_sF_a _ _ _ _ (isK_ne b0q hk (by decide))).trans c5, (pF_sF_a _ _ _ _ (isK_ne b0q hk (by decide))).trans c6⟩
  · obtain ⟨c1, c2, c3⟩ := hs b h9
    have e1 : up σ 1 0 v (20 + b) = σ (20 + b) := up_ff σ (by omega)
    have e2 : up σ 1 0 v (40 + b) = σ (40 + b) := up_ff σ (by omega)
    refine ⟨c1, ?_, fun i hi => ?_⟩
    · show up σ 1 0 v (20 + b) (ns σ b - 1) = plc σ b
      rw [e1]; exact c2
    · obtain ⟨b0q, c4, c5⟩ := c3 i hi
      refine ⟨isK_sF.mpr b0q, ?_, ?_⟩
      · show _ = Value.ref (Y 0 (up σ 1 0 v (20 + b) i))
        rw [e1]; exact (pF_sF_a _ _ _ _ (isK_ne b0q hk (by decide))).trans c4
      · show _ = Value.int (nI (up σ 1 0 v (40 + b) i))
        rw [e2]; exact (pF_sF_a _ _ _ _ (isK_ne b0q hk (by decide))).trans c5
theorem RC.uX5 {G : Ids} {S : Ps} {Y : Lay} {σ : Sg} {x v : Nat} (h : RC G S Y σ x) : RC G (sF S 5 x (.int (nI v))) Y (up σ 1 1 v) x := by
  have hk := h.kx
  have H := h
  obtain ⟨⟨a0, a1, a2, a3, a4, a5, a6⟩, hl, hz, hd, hb, hs, ht⟩ := h
  refine ⟨⟨isK_sF.mpr a0, (pF_sF_j _ _ _ _ (by decide)).trans a1, (pF_sF_j _ _ _ _ (by decide)).trans a2, (pF_sF_j _ _ _ _ (by decide)).trans a3, (pF_sF_j _ _ _ _ (by decide)).trans a4, (pF_sF_j _ _ _ _ (by decide)).trans a5, pF_sF_eq _ _ _ _⟩, fun j9 hj9 => (hl j9 hj9).sF hk (by decide), fun z h9 => ?_, fun d h9 => ?_, fun b h9 => ?_, fun b h9 => ?_, ht⟩
  · obtain ⟨b0q, c0, c1, c2, c3⟩ := hz z h9
    exact ⟨isK_sF.mpr b0q, (pF_sF_a _ _ _ _ (isK_ne b0q hk (by decide))).trans c0, (pF_sF_a _ _ _ _ (isK_ne b0q hk (by decide))).trans c1, (pF_sF_a _ _ _ _ (isK_ne b0q hk (by decide))).trans c2, (pF_sF_a _ _ _ _ (isK_ne b0q hk (by decide))).trans c3⟩
  · obtain ⟨b0q, c0, c1, c2, c3, c4⟩ := hd d h9
    exact ⟨isK_sF.mpr b0q, (pF_sF_a _ _ _ _ (isK_ne b0q hk (by decide))).trans c0, (pF_sF_a _ _ _ _ (isK_ne b0q hk (by decide))).trans c1, (pF_sF_a _ _ _ _ (isK_ne b0q hk (by decide))).trans c2, (pF_sF_a _ _ _ _ (isK_ne b0q hk (by decide))).trans c3, (pF_sF_a _ _ _ _ (isK_ne b0q hk (by decide))).trans c4⟩
  · obtain ⟨b0q, c0, c1, c2, c3, c4, c5, c6⟩ := hb b h9
    exact ⟨isK_sF.mpr b0q, (pF_sF_a _ _ _ _ (isK_ne b0q hk (by decide))).trans c0, (pF_sF_a _ _ _ _ (isK_ne b0q hk (by decide))).trans c1, (pF_sF_a _ _ _ _ (isK_ne b0q hk (by decide))).trans c2, (pF_sF_a _ _ _ _ (isK_ne b0q hk (by decide))).trans c3, (pF_sF_a _ _ _ _ (isK_ne b0q hk (by decide))).trans c4, (pF_sF_a _ _ _ _ (isK_ne b0q hk (by decide))).trans c5, (pF_sF_a _ _ _ _ (isK_ne b0q hk (by decide))).trans c6⟩
  · obtain ⟨c1, c2, c3⟩ := hs b h9
    have e1 : up σ 1 1 v (20 + b) = σ (20 + b) := up_ff σ (by omega)
    have e2 : up σ 1 1 v (40 + b) = σ (40 + b) := up_ff σ (by omega)
    refine ⟨c1, ?_, fun i hi => ?_⟩
    · show up σ 1 1 v (20 + b) (ns σ b - 1) = plc σ b
      rw [e1]; exact c2
    · obtain ⟨b0q, c4, c5⟩ := c3 i hi
      refine ⟨isK_sF.mpr b0q, ?_, ?_⟩
      · show _ = Value.ref (Y 0 (up σ 1 1 v (20 + b) i))
        rw [e1]; exact (pF_sF_a _ _ _ _ (isK_ne b0q hk (by decide))).trans c4
      · show _ = Value.int (nI (up σ 1 1 v (40 + b) i))
        rw [e2]; exact (pF_sF_a _ _ _ _ (isK_ne b0q hk (by decide))).trans c5
theorem RC.uZ1 {G : Ids} {S : Ps} {Y : Lay} {σ : Sg} {x z0 v : Nat} (h : RC G S Y σ x) (h0 : z0 < nz σ) : RC G (sF S 1 (Y 0 z0) (.int (nI v))) Y (up σ 2 z0 v) x := by
  have hk := h.kz h0
  have H := h
  obtain ⟨⟨a0, a1, a2, a3, a4, a5, a6⟩, hl, hz, hd, hb, hs, ht⟩ := h
  refine ⟨⟨isK_sF.mpr a0, (pF_sF_a _ _ _ _ (isK_ne a0 hk (by decide))).trans a1, (pF_sF_a _ _ _ _ (isK_ne a0 hk (by decide))).trans a2, (pF_sF_a _ _ _ _ (isK_ne a0 hk (by decide))).trans a3, (pF_sF_a _ _ _ _ (isK_ne a0 hk (by decide))).trans a4, (pF_sF_a _ _ _ _ (isK_ne a0 hk (by decide))).trans a5, (pF_sF_a _ _ _ _ (isK_ne a0 hk (by decide))).trans a6⟩, fun j9 hj9 => (hl j9 hj9).sF hk (by decide), fun z h9 => ?_, fun d h9 => ?_, fun b h9 => ?_, fun b h9 => ?_, ht⟩
  · obtain ⟨b0q, c0, c1, c2, c3⟩ := hz z h9
    by_cases e : z = z0
    · subst e
      exact ⟨isK_sF.mpr b0q, (pF_sF_j _ _ _ _ (by decide)).trans c0, by show _ = Value.int (nI (up σ 2 z v 2 z)); rw [up_eq]; exact pF_sF_eq _ _ _ _, (pF_sF_j _ _ _ _ (by decide)).trans c2, (pF_sF_j _ _ _ _ (by decide)).trans c3⟩
    · exact ⟨isK_sF.mpr b0q, (pF_sF_a _ _ _ _ (fun q => e ((H.zi h9 h0).mp q))).trans c0, by show _ = Value.int (nI (up σ 2 z0 v 2 z)); rw [up_i σ e]; exact (pF_sF_a _ _ _ _ (fun q => e ((H.zi h9 h0).mp q))).trans c1, (pF_sF_a _ _ _ _ (fun q => e ((H.zi h9 h0).mp q))).trans c2, (pF_sF_a _ _ _ _ (fun q => e ((H.zi h9 h0).mp q))).trans c3⟩
  · obtain ⟨b0q, c0, c1, c2, c3, c4⟩ := hd d h9
    exact ⟨isK_sF.mpr b0q, (pF_sF_a _ _ _ _ (isK_ne b0q hk (by decide))).trans c0, (pF_sF_a _ _ _ _ (isK_ne b0q hk (by decide))).trans c1, (pF_sF_a _ _ _ _ (isK_ne b0q hk (by decide))).trans c2, (pF_sF_a _ _ _ _ (isK_ne b0q hk (by decide))).trans c3, (pF_sF_a _ _ _ _ (isK_ne b0q hk (by decide))).trans c4⟩
  · obtain ⟨b0q, c0, c1, c2, c3, c4, c5, c6⟩ := hb b h9
    exact ⟨isK_sF.mpr b0q, (pF_sF_a _ _ _ _ (isK_ne b0q hk (by decide))).trans c0, (pF_sF_a _ _ _ _ (isK_ne b0q hk (by decide))).trans c1, (pF_sF_a _ _ _ _ (isK_ne b0q hk (by decide))).trans c2, (pF_sF_a _ _ _ _ (isK_ne b0q hk (by decide))).trans c3, (pF_sF_a _ _ _ _ (isK_ne b0q hk (by decide))).trans c4, (pF_sF_a _ _ _ _ (isK_ne b0q hk (by decide))).trans c5, (pF_sF_a _ _ _ _ (isK_ne b0q hk (by decide))).trans c6⟩
  · obtain ⟨c1, c2, c3⟩ := hs b h9
    have e1 : up σ 2 z0 v (20 + b) = σ (20 + b) := up_ff σ (by omega)
    have e2 : up σ 2 z0 v (40 + b) = σ (40 + b) := up_ff σ (by omega)
    refine ⟨c1, ?_, fun i hi => ?_⟩
    · show up σ 2 z0 v (20 + b) (ns σ b - 1) = plc σ b
      rw [e1]; exact c2
    · obtain ⟨b0q, c4, c5⟩ := c3 i hi
      refine ⟨isK_sF.mpr b0q, ?_, ?_⟩
      · show _ = Value.ref (Y 0 (up σ 2 z0 v (20 + b) i))
        rw [e1]; exact (pF_sF_a _ _ _ _ (isK_ne b0q hk (by decide))).trans c4
      · show _ = Value.int (nI (up σ 2 z0 v (40 + b) i))
        rw [e2]; exact (pF_sF_a _ _ _ _ (isK_ne b0q hk (by decide))).trans c5
theorem RC.uZ2 {G : Ids} {S : Ps} {Y : Lay} {σ : Sg} {x z0 v : Nat} (h : RC G S Y σ x) (h0 : z0 < nz σ) : RC G (sF S 2 (Y 0 z0) (.int (nI v))) Y (up σ 3 z0 v) x := by
  have hk := h.kz h0
  have H := h
  obtain ⟨⟨a0, a1, a2, a3, a4, a5, a6⟩, hl, hz, hd, hb, hs, ht⟩ := h
  refine ⟨⟨isK_sF.mpr a0, (pF_sF_a _ _ _ _ (isK_ne a0 hk (by decide))).trans a1, (pF_sF_a _ _ _ _ (isK_ne a0 hk (by decide))).trans a2, (pF_sF_a _ _ _ _ (isK_ne a0 hk (by decide))).trans a3, (pF_sF_a _ _ _ _ (isK_ne a0 hk (by decide))).trans a4, (pF_sF_a _ _ _ _ (isK_ne a0 hk (by decide))).trans a5, (pF_sF_a _ _ _ _ (isK_ne a0 hk (by decide))).trans a6⟩, fun j9 hj9 => (hl j9 hj9).sF hk (by decide), fun z h9 => ?_, fun d h9 => ?_, fun b h9 => ?_, fun b h9 => ?_, ht⟩
  · obtain ⟨b0q, c0, c1, c2, c3⟩ := hz z h9
    by_cases e : z = z0
    · subst e
      exact ⟨isK_sF.mpr b0q, (pF_sF_j _ _ _ _ (by decide)).trans c0, (pF_sF_j _ _ _ _ (by decide)).trans c1, by show _ = Value.int (nI (up σ 3 z v 3 z)); rw [up_eq]; exact pF_sF_eq _ _ _ _, (pF_sF_j _ _ _ _ (by decide)).trans c3⟩
    · exact ⟨isK_sF.mpr b0q, (pF_sF_a _ _ _ _ (fun q => e ((H.zi h9 h0).mp q))).trans c0, (pF_sF_a _ _ _ _ (fun q => e ((H.zi h9 h0).mp q))).trans c1, by show _ = Value.int (nI (up σ 3 z0 v 3 z)); rw [up_i σ e]; exact (pF_sF_a _ _ _ _ (fun q => e ((H.zi h9 h0).mp q))).trans c2, (pF_sF_a _ _ _ _ (fun q => e ((H.zi h9 h0).mp q))).trans c3⟩
  · obtain ⟨b0q, c0, c1, c2, c3, c4⟩ := hd d h9
    exact ⟨isK_sF.mpr b0q, (pF_sF_a _ _ _ _ (isK_ne b0q hk (by decide))).trans c0, (pF_sF_a _ _ _ _ (isK_ne b0q hk (by decide))).trans c1, (pF_sF_a _ _ _ _ (isK_ne b0q hk (by decide))).trans c2, (pF_sF_a _ _ _ _ (isK_ne b0q hk (by decide))).trans c3, (pF_sF_a _ _ _ _ (isK_ne b0q hk (by decide))).trans c4⟩
  · obtain ⟨b0q, c0, c1, c2, c3, c4, c5, c6⟩ := hb b h9
    exact ⟨isK_sF.mpr b0q, (pF_sF_a _ _ _ _ (isK_ne b0q hk (by decide))).trans c0, (pF_sF_a _ _ _ _ (isK_ne b0q hk (by decide))).trans c1, (pF_sF_a _ _ _ _ (isK_ne b0q hk (by decide))).trans c2, (pF_sF_a _ _ _ _ (isK_ne b0q hk (by decide))).trans c3, (pF_sF_a _ _ _ _ (isK_ne b0q hk (by decide))).trans c4, (pF_sF_a _ _ _ _ (isK_ne b0q hk (by decide))).trans c5, (pF_sF_a _ _ _ _ (isK_ne b0q hk (by decide))).trans c6⟩
  · obtain ⟨c1, c2, c3⟩ := hs b h9
    have e1 : up σ 3 z0 v (20 + b) = σ (20 + b) := up_ff σ (by omega)
    have e2 : up σ 3 z0 v (40 + b) = σ (40 + b) := up_ff σ (by omega)
    refine ⟨c1, ?_, fun i hi => ?_⟩
    · show up σ 3 z0 v (20 + b) (ns σ b - 1) = plc σ b
      rw [e1]; exact c2
    · obtain ⟨b0q, c4, c5⟩ := c3 i hi
      refine ⟨isK_sF.mpr b0q, ?_, ?_⟩
      · show _ = Value.ref (Y 0 (up σ 3 z0 v (20 + b) i))
        rw [e1]; exact (pF_sF_a _ _ _ _ (isK_ne b0q hk (by decide))).trans c4
      · show _ = Value.int (nI (up σ 3 z0 v (40 + b) i))
        rw [e2]; exact (pF_sF_a _ _ _ _ (isK_ne b0q hk (by decide))).trans c5
theorem RC.uZ3 {G : Ids} {S : Ps} {Y : Lay} {σ : Sg} {x z0 v : Nat} (h : RC G S Y σ x) (h0 : z0 < nz σ) : RC G (sF S 3 (Y 0 z0) (.int (nI v))) Y (up σ 4 z0 v) x := by
  have hk := h.kz h0
  have H := h
  obtain ⟨⟨a0, a1, a2, a3, a4, a5, a6⟩, hl, hz, hd, hb, hs, ht⟩ := h
  refine ⟨⟨isK_sF.mpr a0, (pF_sF_a _ _ _ _ (isK_ne a0 hk (by decide))).trans a1, (pF_sF_a _ _ _ _ (isK_ne a0 hk (by decide))).trans a2, (pF_sF_a _ _ _ _ (isK_ne a0 hk (by decide))).trans a3, (pF_sF_a _ _ _ _ (isK_ne a0 hk (by decide))).trans a4, (pF_sF_a _ _ _ _ (isK_ne a0 hk (by decide))).trans a5, (pF_sF_a _ _ _ _ (isK_ne a0 hk (by decide))).trans a6⟩, fun j9 hj9 => (hl j9 hj9).sF hk (by decide), fun z h9 => ?_, fun d h9 => ?_, fun b h9 => ?_, fun b h9 => ?_, ht⟩
  · obtain ⟨b0q, c0, c1, c2, c3⟩ := hz z h9
    by_cases e : z = z0
    · subst e
      exact ⟨isK_sF.mpr b0q, (pF_sF_j _ _ _ _ (by decide)).trans c0, (pF_sF_j _ _ _ _ (by decide)).trans c1, (pF_sF_j _ _ _ _ (by decide)).trans c2, by show _ = Value.int (nI (up σ 4 z v 4 z)); rw [up_eq]; exact pF_sF_eq _ _ _ _⟩
    · exact ⟨isK_sF.mpr b0q, (pF_sF_a _ _ _ _ (fun q => e ((H.zi h9 h0).mp q))).trans c0, (pF_sF_a _ _ _ _ (fun q => e ((H.zi h9 h0).mp q))).trans c1, (pF_sF_a _ _ _ _ (fun q => e ((H.zi h9 h0).mp q))).trans c2, by show _ = Value.int (nI (up σ 4 z0 v 4 z)); rw [up_i σ e]; exact (pF_sF_a _ _ _ _ (fun q => e ((H.zi h9 h0).mp q))).trans c3⟩
  · obtain ⟨b0q, c0, c1, c2, c3, c4⟩ := hd d h9
    exact ⟨isK_sF.mpr b0q, (pF_sF_a _ _ _ _ (isK_ne b0q hk (by decide))).trans c0, (pF_sF_a _ _ _ _ (isK_ne b0q hk (by decide))).trans c1, (pF_sF_a _ _ _ _ (isK_ne b0q hk (by decide))).trans c2, (pF_sF_a _ _ _ _ (isK_ne b0q hk (by decide))).trans c3, (pF_sF_a _ _ _ _ (isK_ne b0q hk (by decide))).trans c4⟩
  · obtain ⟨b0q, c0, c1, c2, c3, c4, c5, c6⟩ := hb b h9
    exact ⟨isK_sF.mpr b0q, (pF_sF_a _ _ _ _ (isK_ne b0q hk (by decide))).trans c0, (pF_sF_a _ _ _ _ (isK_ne b0q hk (by decide))).trans c1, (pF_sF_a _ _ _ _ (isK_ne b0q hk (by decide))).trans c2, (pF_sF_a _ _ _ _ (isK_ne b0q hk (by decide))).trans c3, (pF_sF_a _ _ _ _ (isK_ne b0q hk (by decide))).trans c4, (pF_sF_a _ _ _ _ (isK_ne b0q hk (by decide))).trans c5, (pF_sF_a _ _ _ _ (isK_ne b0q hk (by decide))).trans c6⟩
  · obtain ⟨c1, c2, c3⟩ := hs b h9
    have e1 : up σ 4 z0 v (20 + b) = σ (20 + b) := up_ff σ (by omega)
    have e2 : up σ 4 z0 v (40 + b) = σ (40 + b) := up_ff σ (by omega)
    refine ⟨c1, ?_, fun i hi => ?_⟩
    · show up σ 4 z0 v (20 + b) (ns σ b - 1) = plc σ b
      rw [e1]; exact c2
    · obtain ⟨b0q, c4, c5⟩ := c3 i hi
      refine ⟨isK_sF.mpr b0q, ?_, ?_⟩
      · show _ = Value.ref (Y 0 (up σ 4 z0 v (20 + b) i))
        rw [e1]; exact (pF_sF_a _ _ _ _ (isK_ne b0q hk (by decide))).trans c4
      · show _ = Value.int (nI (up σ 4 z0 v (40 + b) i))
        rw [e2]; exact (pF_sF_a _ _ _ _ (isK_ne b0q hk (by decide))).trans c5
theorem RC.uD4 {G : Ids} {S : Ps} {Y : Lay} {σ : Sg} {x d0 v : Nat} (h : RC G S Y σ x) (h0 : d0 < nd σ) : RC G (sF S 4 (Y 1 d0) (.int (nI v))) Y (up σ 9 d0 v) x := by
  have hk := h.kd h0
  have H := h
  obtain ⟨⟨a0, a1, a2, a3, a4, a5, a6⟩, hl, hz, hd, hb, hs, ht⟩ := h
  refine ⟨⟨isK_sF.mpr a0, (pF_sF_a _ _ _ _ (isK_ne a0 hk (by decide))).trans a1, (pF_sF_a _ _ _ _ (isK_ne a0 hk (by decide))).trans a2, (pF_sF_a _ _ _ _ (isK_ne a0 hk (by decide))).trans a3, (pF_sF_a _ _ _ _ (isK_ne a0 hk (by decide))).trans a4, (pF_sF_a _ _ _ _ (isK_ne a0 hk (by decide))).trans a5, (pF_sF_a _ _ _ _ (isK_ne a0 hk (by decide))).trans a6⟩, fun j9 hj9 => (hl j9 hj9).sF hk (by decide), fun z h9 => ?_, fun d h9 => ?_, fun b h9 => ?_, fun b h9 => ?_, ht⟩
  · obtain ⟨b0q, c0, c1, c2, c3⟩ := hz z h9
    exact ⟨isK_sF.mpr b0q, (pF_sF_a _ _ _ _ (isK_ne b0q hk (by decide))).trans c0, (pF_sF_a _ _ _ _ (isK_ne b0q hk (by decide))).trans c1, (pF_sF_a _ _ _ _ (isK_ne b0q hk (by decide))).trans c2, (pF_sF_a _ _ _ _ (isK_ne b0q hk (by decide))).trans c3⟩
  · obtain ⟨b0q, c0, c1, c2, c3, c4⟩ := hd d h9
    by_cases e : d = d0
    · subst e
      exact ⟨isK_sF.mpr b0q, (pF_sF_j _ _ _ _ (by decide)).trans c0, (pF_sF_j _ _ _ _ (by decide)).trans c1, (pF_sF_j _ _ _ _ (by decide)).trans c2, (pF_sF_j _ _ _ _ (by decide)).trans c3, by show _ = Value.int (nI (up σ 9 d v 9 d)); rw [up_eq]; exact pF_sF_eq _ _ _ _⟩
    · exact ⟨isK_sF.mpr b0q, (pF_sF_a _ _ _ _ (fun q => e ((H.di h9 h0).mp q))).trans c0, (pF_sF_a _ _ _ _ (fun q => e ((H.di h9 h0).mp q))).trans c1, (pF_sF_a _ _ _ _ (fun q => e ((H.di h9 h0).mp q))).trans c2, (pF_sF_a _ _ _ _ (fun q => e ((H.di h9 h0).mp q))).trans c3, by show _ = Value.int (nI (up σ 9 d0 v 9 d)); rw [up_i σ e]; exact (pF_sF_a _ _ _ _ (fun q => e ((H.di h9 h0).mp q))).trans c4⟩
  · obtain ⟨b0q, c0, c1, c2, c3, c4, c5, c6⟩ := hb b h9
    exact ⟨isK_sF.mpr b0q, (pF_sF_a _ _ _ _ (isK_ne b0q hk (by decide))).trans c0, (pF_sF_a _ _ _ _ (isK_ne b0q hk (by decide))).trans c1, (pF_sF_a _ _ _ _ (isK_ne b0q hk (by decide))).trans c2, (pF_sF_a _ _ _ _ (isK_ne b0q hk (by decide))).trans c3, (pF_sF_a _ _ _ _ (isK_ne b0q hk (by decide))).trans c4, (pF_sF_a _ _ _ _ (isK_ne b0q hk (by decide))).trans c5, (pF_sF_a _ _ _ _ (isK_ne b0q hk (by decide))).trans c6⟩
  · obtain ⟨c1, c2, c3⟩ := hs b h9
    have e1 : up σ 9 d0 v (20 + b) = σ (20 + b) := up_ff σ (by omega)
    have e2 : up σ 9 d0 v (40 + b) = σ (40 + b) := up_ff σ (by omega)
    refine ⟨c1, ?_, fun i hi => ?_⟩
    · show up σ 9 d0 v (20 + b) (ns σ b - 1) = plc σ b
      rw [e1]; exact c2
    · obtain ⟨b0q, c4, c5⟩ := c3 i hi
      refine ⟨isK_sF.mpr b0q, ?_, ?_⟩
      · show _ = Value.ref (Y 0 (up σ 9 d0 v (20 + b) i))
        rw [e1]; exact (pF_sF_a _ _ _ _ (isK_ne b0q hk (by decide))).trans c4
      · show _ = Value.int (nI (up σ 9 d0 v (40 + b) i))
        rw [e2]; exact (pF_sF_a _ _ _ _ (isK_ne b0q hk (by decide))).trans c5
theorem RC.uB4 {G : Ids} {S : Ps} {Y : Lay} {σ : Sg} {x b0 v : Nat} (h : RC G S Y σ x) (h0 : b0 < nb σ) : RC G (sF S 4 (Y 2 b0) (.int (nI v))) Y (up σ 11 b0 v) x := by
  have hk := h.kb h0
  have H := h
  obtain ⟨⟨a0, a1, a2, a3, a4, a5, a6⟩, hl, hz, hd, hb, hs, ht⟩ := h
  refine ⟨⟨isK_sF.mpr a0, (pF_sF_a _ _ _ _ (isK_ne a0 hk (by decide))).trans a1, (pF_sF_a _ _ _ _ (isK_ne a0 hk (by decide))).trans a2, (pF_sF_a _ _ _ _ (isK_ne a0 hk (by decide))).trans a3, (pF_sF_a _ _ _ _ (isK_ne a0 hk (by decide))).trans a4, (pF_sF_a _ _ _ _ (isK_ne a0 hk (by decide))).trans a5, (pF_sF_a _ _ _ _ (isK_ne a0 hk (by decide))).trans a6⟩, fun j9 hj9 => (hl j9 hj9).sF hk (by decide), fun z h9 => ?_, fun d h9 => ?_, fun b h9 => ?_, fun b h9 => ?_, ht⟩
  · obtain ⟨b0q, c0, c1, c2, c3⟩ := hz z h9
    exact ⟨isK_sF.mpr b0q, (pF_sF_a _ _ _ _ (isK_ne b0q hk (by decide))).trans c0, (pF_sF_a _ _ _ _ (isK_ne b0q hk (by decide))).trans c1, (pF_sF_a _ _ _ _ (isK_ne b0q hk (by decide))).trans c2, (pF_sF_a _ _ _ _ (isK_ne b0q hk (by decide))).trans c3⟩
  · obtain ⟨b0q, c0, c1, c2, c3, c4⟩ := hd d h9
    exact ⟨isK_sF.mpr b0q, (pF_sF_a _ _ _ _ (isK_ne b0q hk (by decide))).trans c0, (pF_sF_a _ _ _ _ (isK_ne b0q hk (by decide))).trans c1, (pF_sF_a _ _ _ _ (isK_ne b0q hk (by decide))).trans c2, (pF_sF_a _ _ _ _ (isK_ne b0q hk (by decide))).trans c3, (pF_sF_a _ _ _ _ (isK_ne b0q hk (by decide))).trans c4⟩
  · obtain ⟨b0q, c0, c1, c2, c3, c4, c5, c6⟩ := hb b h9
    by_cases e : b = b0
    · subst e
      exact ⟨isK_sF.mpr b0q, (pF_sF_j _ _ _ _ (by decide)).trans c0, (pF_sF_j _ _ _ _ (by decide)).trans c1, (pF_sF_j _ _ _ _ (by decide)).trans c2, (pF_sF_j _ _ _ _ (by decide)).trans c3, by show _ = Value.int (nI (up σ 11 b v 11 b)); rw [up_eq]; exact pF_sF_eq _ _ _ _, (pF_sF_j _ _ _ _ (by decide)).trans c5, (pF_sF_j _ _ _ _ (by decide)).trans c6⟩
    · exact ⟨isK_sF.mpr b0q, (pF_sF_a _ _ _ _ (fun q => e ((H.bi h9 h0).mp q))).trans c0, (pF_sF_a _ _ _ _ (fun q => e ((H.bi h9 h0).mp q))).trans c1, (pF_sF_a _ _ _ _ (fun q => e ((H.bi h9 h0).mp q))).trans c2, (pF_sF_a _ _ _ _ (fun q => e ((H.bi h9 h0).mp q))).trans c3, by show _ = Value.int (nI (up σ 11 b0 v 11 b)); rw [up_i σ e]; exact (pF_sF_a _ _ _ _ (fun q => e ((H.bi h9 h0).mp q))).trans c4, (pF_sF_a _ _ _ _ (fun q => e ((H.bi h9 h0).mp q))).trans c5, (pF_sF_a _ _ _ _ (fun q => e ((H.bi h9 h0).mp q))).trans c6⟩
  · obtain ⟨c1, c2, c3⟩ := hs b h9
    have e1 : up σ 11 b0 v (20 + b) = σ (20 + b) := up_ff σ (by omega)
    have e2 : up σ 11 b0 v (40 + b) = σ (40 + b) := up_ff σ (by omega)
    refine ⟨c1, ?_, fun i hi => ?_⟩
    · show up σ 11 b0 v (20 + b) (ns σ b - 1) = plc σ b
      rw [e1]; exact c2
    · obtain ⟨b0q, c4, c5⟩ := c3 i hi
      refine ⟨isK_sF.mpr b0q, ?_, ?_⟩
      · show _ = Value.ref (Y 0 (up σ 11 b0 v (20 + b) i))
        rw [e1]; exact (pF_sF_a _ _ _ _ (isK_ne b0q hk (by decide))).trans c4
      · show _ = Value.int (nI (up σ 11 b0 v (40 + b) i))
        rw [e2]; exact (pF_sF_a _ _ _ _ (isK_ne b0q hk (by decide))).trans c5
theorem RC.uB5 {G : Ids} {S : Ps} {Y : Lay} {σ : Sg} {x b0 v : Nat} (h : RC G S Y σ x) (h0 : b0 < nb σ) : RC G (sF S 5 (Y 2 b0) (.int (nI v))) Y (up σ 13 b0 v) x := by
  have hk := h.kb h0
  have H := h
  obtain ⟨⟨a0, a1, a2, a3, a4, a5, a6⟩, hl, hz, hd, hb, hs, ht⟩ := h
  refine ⟨⟨isK_sF.mpr a0, (pF_sF_a _ _ _ _ (isK_ne a0 hk (by decide))).trans a1, (pF_sF_a _ _ _ _ (isK_ne a0 hk (by decide))).trans a2, (pF_sF_a _ _ _ _ (isK_ne a0 hk (by decide))).trans a3, (pF_sF_a _ _ _ _ (isK_ne a0 hk (by decide))).trans a4, (pF_sF_a _ _ _ _ (isK_ne a0 hk (by decide))).trans a5, (pF_sF_a _ _ _ _ (isK_ne a0 hk (by decide))).trans a6⟩, fun j9 hj9 => (hl j9 hj9).sF hk (by decide), fun z h9 => ?_, fun d h9 => ?_, fun b h9 => ?_, fun b h9 => ?_, ht⟩
  · obtain ⟨b0q, c0, c1, c2, c3⟩ := hz z h9
    exact ⟨isK_sF.mpr b0q, (pF_sF_a _ _ _ _ (isK_ne b0q hk (by decide))).trans c0, (pF_sF_a _ _ _ _ (isK_ne b0q hk (by decide))).trans c1, (pF_sF_a _ _ _ _ (isK_ne b0q hk (by decide))).trans c2, (pF_sF_a _ _ _ _ (isK_ne b0q hk (by decide))).trans c3⟩
  · obtain ⟨b0q, c0, c1, c2, c3, c4⟩ := hd d h9
    exact ⟨isK_sF.mpr b0q, (pF_sF_a _ _ _ _ (isK_ne b0q hk (by decide))).trans c0, (pF_sF_a _ _ _ _ (isK_ne b0q hk (by decide))).trans c1, (pF_sF_a _ _ _ _ (isK_ne b0q hk (by decide))).trans c2, (pF_sF_a _ _ _ _ (isK_ne b0q hk (by decide))).trans c3, (pF_sF_a _ _ _ _ (isK_ne b0q hk (by decide))).trans c4⟩
  · obtain ⟨b0q, c0, c1, c2, c3, c4, c5, c6⟩ := hb b h9
    by_cases e : b = b0
    · subst e
      exact ⟨isK_sF.mpr b0q, (pF_sF_j _ _ _ _ (by decide)).trans c0, (pF_sF_j _ _ _ _ (by decide)).trans c1, (pF_sF_j _ _ _ _ (by decide)).trans c2, (pF_sF_j _ _ _ _ (by decide)).trans c3, (pF_sF_j _ _ _ _ (by decide)).trans c4, by show _ = Value.int (nI (up σ 13 b v 13 b)); rw [up_eq]; exact pF_sF_eq _ _ _ _, (pF_sF_j _ _ _ _ (by decide)).trans c6⟩
    · exact ⟨isK_sF.mpr b0q, (pF_sF_a _ _ _ _ (fun q => e ((H.bi h9 h0).mp q))).trans c0, (pF_sF_a _ _ _ _ (fun q => e ((H.bi h9 h0).mp q))).trans c1, (pF_sF_a _ _ _ _ (fun q => e ((H.bi h9 h0).mp q))).trans c2, (pF_sF_a _ _ _ _ (fun q => e ((H.bi h9 h0).mp q))).trans c3, (pF_sF_a _ _ _ _ (fun q => e ((H.bi h9 h0).mp q))).trans c4, by show _ = Value.int (nI (up σ 13 b0 v 13 b)); rw [up_i σ e]; exact (pF_sF_a _ _ _ _ (fun q => e ((H.bi h9 h0).mp q))).trans c5, (pF_sF_a _ _ _ _ (fun q => e ((H.bi h9 h0).mp q))).trans c6⟩
  · obtain ⟨c1, c2, c3⟩ := hs b h9
    have e1 : up σ 13 b0 v (20 + b) = σ (20 + b) := up_ff σ (by omega)
    have e2 : up σ 13 b0 v (40 + b) = σ (40 + b) := up_ff σ (by omega)
    refine ⟨c1, ?_, fun i hi => ?_⟩
    · show up σ 13 b0 v (20 + b) (ns σ b - 1) = plc σ b
      rw [e1]; exact c2
    · obtain ⟨b0q, c4, c5⟩ := c3 i hi
      refine ⟨isK_sF.mpr b0q, ?_, ?_⟩
      · show _ = Value.ref (Y 0 (up σ 13 b0 v (20 + b) i))
        rw [e1]; exact (pF_sF_a _ _ _ _ (isK_ne b0q hk (by decide))).trans c4
      · show _ = Value.int (nI (up σ 13 b0 v (40 + b) i))
        rw [e2]; exact (pF_sF_a _ _ _ _ (isK_ne b0q hk (by decide))).trans c5
theorem RC.uB6 {G : Ids} {S : Ps} {Y : Lay} {σ : Sg} {x b0 v : Nat} (h : RC G S Y σ x) (h0 : b0 < nb σ) : RC G (sF S 6 (Y 2 b0) (.int (nI v))) Y (up σ 14 b0 v) x := by
  have hk := h.kb h0
  have H := h
  obtain ⟨⟨a0, a1, a2, a3, a4, a5, a6⟩, hl, hz, hd, hb, hs, ht⟩ := h
  refine ⟨⟨isK_sF.mpr a0, (pF_sF_a _ _ _ _ (isK_ne a0 hk (by decide))).trans a1, (pF_sF_a _ _ _ _ (isK_ne a0 hk (by decide))).trans a2, (pF_sF_a _ _ _ _ (isK_ne a0 hk (by decide))).trans a3, (pF_sF_a _ _ _ _ (isK_ne a0 hk (by decide))).trans a4, (pF_sF_a _ _ _ _ (isK_ne a0 hk (by decide))).trans a5, (pF_sF_a _ _ _ _ (isK_ne a0 hk (by decide))).trans a6⟩, fun j9 hj9 => (hl j9 hj9).sF hk (by decide), fun z h9 => ?_, fun d h9 => ?_, fun b h9 => ?_, fun b h9 => ?_, ht⟩
  · obtain ⟨b0q, c0, c1, c2, c3⟩ := hz z h9
    exact ⟨isK_sF.mpr b0q, (pF_sF_a _ _ _ _ (isK_ne b0q hk (by decide))).trans c0, (pF_sF_a _ _ _ _ (isK_ne b0q hk (by decide))).trans c1, (pF_sF_a _ _ _ _ (isK_ne b0q hk (by decide))).trans c2, (pF_sF_a _ _ _ _ (isK_ne b0q hk (by decide))).trans c3⟩
  · obtain ⟨b0q, c0, c1, c2, c3, c4⟩ := hd d h9
    exact ⟨isK_sF.mpr b0q, (pF_sF_a _ _ _ _ (isK_ne b0q hk (by decide))).trans c0, (pF_sF_a _ _ _ _ (isK_ne b0q hk (by decide))).trans c1, (pF_sF_a _ _ _ _ (isK_ne b0q hk (by decide))).trans c2, (pF_sF_a _ _ _ _ (isK_ne b0q hk (by decide))).trans c3, (pF_sF_a _ _ _ _ (isK_ne b0q hk (by decide))).trans c4⟩
  · obtain ⟨b0q, c0, c1, c2, c3, c4, c5, c6⟩ := hb b h9
    by_cases e : b = b0
    · subst e
      exact ⟨isK_sF.mpr b0q, (pF_sF_j _ _ _ _ (by decide)).trans c0, (pF_sF_j _ _ _ _ (by decide)).trans c1, (pF_sF_j _ _ _ _ (by decide)).trans c2, (pF_sF_j _ _ _ _ (by decide)).trans c3, (pF_sF_j _ _ _ _ (by decide)).trans c4, (pF_sF_j _ _ _ _ (by decide)).trans c5, by show _ = Value.int (nI (up σ 14 b v 14 b)); rw [up_eq]; exact pF_sF_eq _ _ _ _⟩
    · exact ⟨isK_sF.mpr b0q, (pF_sF_a _ _ _ _ (fun q => e ((H.bi h9 h0).mp q))).trans c0, (pF_sF_a _ _ _ _ (fun q => e ((H.bi h9 h0).mp q))).trans c1, (pF_sF_a _ _ _ _ (fun q => e ((H.bi h9 h0).mp q))).trans c2, (pF_sF_a _ _ _ _ (fun q => e ((H.bi h9 h0).mp q))).trans c3, (pF_sF_a _ _ _ _ (fun q => e ((H.bi h9 h0).mp q))).trans c4, (pF_sF_a _ _ _ _ (fun q => e ((H.bi h9 h0).mp q))).trans c5, by show _ = Value.int (nI (up σ 14 b0 v 14 b)); rw [up_i σ e]; exact (pF_sF_a _ _ _ _ (fun q => e ((H.bi h9 h0).mp q))).trans c6⟩
  · obtain ⟨c1, c2, c3⟩ := hs b h9
    have e1 : up σ 14 b0 v (20 + b) = σ (20 + b) := up_ff σ (by omega)
    have e2 : up σ 14 b0 v (40 + b) = σ (40 + b) := up_ff σ (by omega)
    refine ⟨c1, ?_, fun i hi => ?_⟩
    · show up σ 14 b0 v (20 + b) (ns σ b - 1) = plc σ b
      rw [e1]; exact c2
    · obtain ⟨b0q, c4, c5⟩ := c3 i hi
      refine ⟨isK_sF.mpr b0q, ?_, ?_⟩
      · show _ = Value.ref (Y 0 (up σ 14 b0 v (20 + b) i))
        rw [e1]; exact (pF_sF_a _ _ _ _ (isK_ne b0q hk (by decide))).trans c4
      · show _ = Value.int (nI (up σ 14 b0 v (40 + b) i))
        rw [e2]; exact (pF_sF_a _ _ _ _ (isK_ne b0q hk (by decide))).trans c5
