section ADD3
variable {G : Ids} {S S' : Ps} {Y : Lay} {σ : Sg} {x a r' : Nat}
/-- the zone of the stay that goes on is changed -/
theorem RC.uS {b z : Nat} (h : RC G S Y σ x) (hb : b < nb σ) (h10 : nb σ ≤ 10) : RC G (sF S 0 (Y (10 + b) (ns σ b - 1)) (.ref (Y 0 z))) Y (stR σ b z) x := by
  have hk := h.c hb
  have H := h
  obtain ⟨⟨a0, a1, a2, a3, a4, a5, a6⟩, hl, hz, hd, hbs, hs, ht⟩ := h
  obtain ⟨σ', hσ⟩ : ∃ σ', σ' = stR σ b z := ⟨_, rfl⟩
  rw [← hσ]
  have eg : ∀ g, g ≠ 10 → g ≠ 20 + b → σ' g = σ g := fun g g1 g2 => by rw [hσ]; unfold stR; rw [up_ff _ g1, up_ff _ g2]
  have e20 : σ' (20 + b) (ns σ b - 1) = z := by rw [hσ]; unfold stR; rw [up_f _ (by omega), up_eq]
  have e21 : ∀ i, i ≠ ns σ b - 1 → σ' (20 + b) i = σ (20 + b) i := fun i hi => by rw [hσ]; unfold stR; rw [up_f _ (by omega), up_i _ hi]
  have e10 : plc σ' b = z := by rw [hσ]; exact up_eq _ _ _ _
  have e11 : ∀ i, i ≠ b → plc σ' i = plc σ i := fun i hi => by rw [hσ]; show stR σ b z 10 i = σ 10 i; unfold stR; rw [up_i _ hi, up_f _ (by omega)]
  have e0 : σ' 0 = σ 0 := eg 0 (by decide) (by omega)
  have enz : nz σ' = nz σ := congrFun e0 0
  have end_ : nd σ' = nd σ := congrFun e0 1
  have enb : nb σ' = nb σ := congrFun e0 2
  have ens : ∀ b', ns σ' b' = ns σ b' := fun b' => congrFun e0 (3 + b')
  have o : ∀ {k q v j}, isK S k q → k ≠ 3 → pF S j q = v → pF (sF S 0 (Y (10 + b) (ns σ b - 1)) (.ref (Y 0 z))) j q = v := fun hq hk3 hv => (pF_sF_a _ _ _ _ (isK_ne hq hk hk3)).trans hv
  refine ⟨⟨isK_sF.mpr a0, o a0 (by decide) a1, o a0 (by decide) a2, o a0 (by decide) a3, o a0 (by decide) a4, ?_, ?_⟩, fun j hj => ?_, fun z9 h9 => ?_, fun d h9 => ?_, fun b' h9 => ?_, fun b' h9 => ?_, ?_⟩
  · rw [show mi σ' = mi σ from congrFun (eg 1 (by decide) (by omega)) 0]; exact o a0 (by decide) a5
  · rw [show al σ' = al σ from congrFun (eg 1 (by decide) (by omega)) 1]; exact o a0 (by decide) a6
  · rw [enb] at hj; rw [e0]; exact (hl j hj).sF hk (by decide)
  · rw [enz] at h9
    obtain ⟨b0, b1, b2, b3, b4⟩ := hz z9 h9
    rw [show cap σ' = cap σ from eg 2 (by decide) (by omega), show beg σ' = beg σ from eg 3 (by decide) (by omega), show fin σ' = fin σ from eg 4 (by decide) (by omega)]
    exact ⟨isK_sF.mpr b0, o b0 (by decide) b1, o b0 (by decide) b2, o b0 (by decide) b3, o b0 (by decide) b4⟩
  · rw [end_] at h9
    obtain ⟨b0, b1, b2, b3, b4, b5⟩ := hd d h9
    rw [show sda σ' = sda σ from eg 5 (by decide) (by omega), show sdb σ' = sdb σ from eg 6 (by decide) (by omega), show hold σ' = hold σ from eg 7 (by decide) (by omega), show lock σ' = lock σ from eg 8 (by decide) (by omega), show shut σ' = shut σ from eg 9 (by decide) (by omega)]
    exact ⟨isK_sF.mpr b0, o b0 (by decide) b1, o b0 (by decide) b2, o b0 (by decide) b3, o b0 (by decide) b4, o b0 (by decide) b5⟩
  · rw [enb] at h9
    obtain ⟨b0, b1, b2, b3, b4, b5, b6, b7⟩ := hbs b' h9
    rw [ens, show hst σ' = hst σ from eg 12 (by decide) (by omega), show rgt σ' = rgt σ from eg 11 (by decide) (by omega), show blk σ' = blk σ from eg 13 (by decide) (by omega), show rfs σ' = rfs σ from eg 14 (by decide) (by omega)]
    exact ⟨isK_sF.mpr b0, o b0 (by decide) b1, o b0 (by decide) b2, o b0 (by decide) b3, o b0 (by decide) b4, o b0 (by decide) b5, o b0 (by decide) b6, o b0 (by decide) b7⟩
  · rw [enb] at h9
    obtain ⟨c1, c2, c3⟩ := hs b' h9
    rw [ens]
    by_cases c : b' = b
    · subst c
      refine ⟨c1, by rw [e10]; exact e20, fun i hi => ?_⟩
      obtain ⟨b0, b1, b2⟩ := c3 i hi
      refine ⟨isK_sF.mpr b0, ?_, ?_⟩
      · by_cases ci : i = ns σ b' - 1
        · rw [ci, show syz σ' b' (ns σ b' - 1) = z from e20]; exact pF_sF_eq _ _ _ _
        · rw [show syz σ' b' i = syz σ b' i from e21 i ci]
          exact (pF_sF_a _ _ _ _ (fun q => ci (((H.si h9 h9 hi (by omega)).mp q).2))).trans b1
      · rw [show sys σ' b' = sys σ b' from eg (40 + b') (by omega) (by omega)]
        exact (pF_sF_j _ _ _ _ (by decide)).trans b2
    · rw [e11 b' c, show syz σ' b' = syz σ b' from eg (20 + b') (by omega) (by omega), show sys σ' b' = sys σ b' from eg (40 + b') (by omega) (by omega)]
      refine ⟨c1, c2, fun i hi => ?_⟩
      obtain ⟨b0, b1, b2⟩ := c3 i hi
      have n : Y (10 + b') i ≠ Y (10 + b) (ns σ b - 1) := fun q => c (((H.si h9 hb hi (by have := H.n1 hb; omega)).mp q).1)
      exact ⟨isK_sF.mpr b0, (pF_sF_a _ _ _ _ n).trans b1, (pF_sF_a _ _ _ _ n).trans b2⟩
  · obtain ⟨tg, t0, t1, t2, t3, t7, ts⟩ := ht
    refine ⟨tg, ?_, ?_, ?_, ?_, ?_, ?_⟩
    · rw [enz]; exact t0
    · rw [end_]; exact t1
    · rw [enb]; exact t2
    · rw [enb]; exact t3
    · rw [enb]; exact t7
    · rw [enb]; intro b' hb' i hi; rw [ens] at hi; exact ts b' hb' i hi
/-- a badge more: a, its list a1 with the row r1, its first stay s -/
theorem RC.addB {a1 s r1 hh rr : Nat} (h : RC G S Y σ x) (hV : InvC σ) (hnb : nb σ < 10) (ha : a ∉ pL S) (ha1 : a1 ∉ pL S) (hs : s ∉ pL S) (hr1 : r1 ∉ pL S) (hr10 : r1 ≠ G.2.2.1) (he : G.2.2.1 ∉ pL S) (F : Fr (fun q => q = Y 3 2 ∨ q = Y 7 2) S S') (hL : LsOK G S' 1 (Y 3 2) r' (nb σ + 1) (fun i => if i = nb σ then a else Y 2 i)) (hr : r' = Y 7 2 ∨ (r' ∉ pL S ∧ r' ≠ r1)) (hr0 : r' ≠ G.2.2.1) (hh9 : hh ≤ nb σ) (ka : isK S' 1 a) (f0 : pF S' 0 a = .int (nI (nb σ))) (f1 : pF S' 1 a = (if hh = 0 then .null else .ref (Y 2 (hh - 1)))) (f2 : pF S' 2 a = .ref a1) (f3 : pF S' 3 a = .ref s) (f4 : pF S' 4 a = .int (nI rr)) (f5 : pF S' 5 a = .int (nI 0)) (f6 : pF S' 6 a = .int (nI 0)) (hLs : LsOK G S' 3 a1 r1 1 (fun _ => s)) (ks : isK S' 3 s) (g0 : pF S' 0 s = .ref (Y 0 0)) (g1 : pF S' 1 s = .int (nI 0)) : RC G S' (up (up (up (up (up Y 2 (nb σ) a) 3 (3 + nb σ) a1) (10 + nb σ) 0 s) 7 (3 + nb σ) r1) 7 2 r') (adB σ hh rr) x := by
  have H := h
  have hn := hV.n
  have hl' := h.frL he (j := 2) (by omega) F (fun q _ hq => hq.imp id Or.inl)
  obtain ⟨⟨k5, x0, x1, x2, x3, x4, x5⟩, oz, od, ob, os⟩ := h.frO F (h.lsP he (j := 2) (by omega))
  obtain ⟨-, -, -, -, -, -, tg, t0, t1, t2, t3, t7, ts⟩ := h
  obtain ⟨n, hn0⟩ : ∃ n, nb σ = n := ⟨_, rfl⟩
  rw [hn0] at hnb hL hh9 f0 hl' ob os t2 t3 t7 ts ⊢
  obtain ⟨Y', hY⟩ : ∃ Y', Y' = up (up (up (up (up Y 2 n a) 3 (3 + n) a1) (10 + n) 0 s) 7 (3 + n) r1) 7 2 r' := ⟨_, rfl⟩
  obtain ⟨σ', hσ⟩ : ∃ σ', σ' = adB σ hh rr := ⟨_, rfl⟩
  rw [← hY, ← hσ]
  have yb : ∀ z, z < n → Y' 2 z = Y 2 z := fun z hz => by rw [hY, up_f _ (by omega), up_f _ (by omega), up_f _ (by omega), up_f _ (by omega), up_i _ (by omega)]
  have ybn : Y' 2 n = a := by rw [hY, up_f _ (by omega), up_f _ (by omega), up_f _ (by omega), up_f _ (by omega), up_eq]
  have yo : ∀ c, c ≠ 2 → c ≠ 3 → c ≠ 7 → c ≠ 10 + n → Y' c = Y c := fun c h2 h3 h7 h1 => by rw [hY, up_ff _ h7, up_ff _ h7, up_ff _ h1, up_ff _ h3, up_ff _ h2]
  have y3 : ∀ j, j ≠ 3 + n → Y' 3 j = Y 3 j := fun j hj => by rw [hY, up_f _ (by omega), up_f _ (by omega), up_f _ (by omega), up_i _ hj, up_f _ (by omega)]
  have y3n : Y' 3 (3 + n) = a1 := by rw [hY, up_f _ (by omega), up_f _ (by omega), up_f _ (by omega), up_eq]
  have ysn : Y' (10 + n) 0 = s := by rw [hY, up_f _ (by omega), up_f _ (by omega), up_eq]
  have y7 : ∀ j, j ≠ 2 → j ≠ 3 + n → Y' 7 j = Y 7 j := fun j h2 h3 => by rw [hY, up_i _ h2, up_i _ h3, up_f _ (by omega), up_f _ (by omega), up_f _ (by omega)]
  have y7n : Y' 7 (3 + n) = r1 := by rw [hY, up_i _ (by omega), up_eq]
  have y72 : Y' 7 2 = r' := by rw [hY, up_eq]
  have eg : ∀ g, g ≠ 0 → (g < 10 ∨ 14 < g) → g ≠ 20 + n → g ≠ 40 + n → σ' g = σ g := fun g g0 g1 g2 g4 => by rw [hσ]; unfold adB; rw [hn0, up_ff _ g4, up_ff _ g2, up_ff _ (by omega), up_ff _ (by omega), up_ff _ (by omega), up_ff _ (by omega), up_ff _ (by omega), up_ff _ g0, up_ff _ g0]
  have e0 : nb σ' = n + 1 := by rw [hσ]; show adB σ hh rr 0 2 = _; unfold adB; rw [hn0, up_f _ (by omega), up_f _ (by omega), up_f _ (by omega), up_f _ (by omega), up_f _ (by omega), up_f _ (by omega), up_f _ (by omega), up_i _ (by omega), up_eq]
  have e1 : ∀ j, j ≠ 2 → j ≠ 3 + n → σ' 0 j = σ 0 j := fun j h2 h3 => by rw [hσ]; unfold adB; rw [hn0, up_f _ (by omega), up_f _ (by omega), up_f _ (by omega), up_f _ (by omega), up_f _ (by omega), up_f _ (by omega), up_f _ (by omega), up_i _ h3, up_i _ h2]
  have ensn : ns σ' n = 1 := by rw [hσ]; show adB σ hh rr 0 (3 + n) = _; unfold adB; rw [hn0, up_f _ (by omega), up_f _ (by omega), up_f _ (by omega), up_f _ (by omega), up_f _ (by omega), up_f _ (by omega), up_f _ (by omega), up_eq]
  have ei : ∀ g, g ≠ 0 → g < 20 → ∀ i, i < n → σ' g i = σ g i := fun g g0 g9 i hi => by rw [hσ]; unfold adB; rw [hn0, up_f _ (by omega), up_f _ (by omega), up_i _ (by omega), up_i _ (by omega), up_i _ (by omega), up_i _ (by omega), up_i _ (by omega), up_f _ g0, up_f _ g0]
  have v10 : plc σ' n = 0 := by rw [hσ]; show adB σ hh rr 10 n = _; unfold adB; rw [hn0, up_f _ (by omega), up_f _ (by omega), up_f _ (by omega), up_f _ (by omega), up_f _ (by omega), up_f _ (by omega), up_eq]
  have v11 : rgt σ' n = rr := by rw [hσ]; show adB σ hh rr 11 n = _; unfold adB; rw [hn0, up_f _ (by omega), up_f _ (by omega), up_f _ (by omega), up_f _ (by omega), up_f _ (by omega), up_eq]
  have v12 : hst σ' n = hh := by rw [hσ]; show adB σ hh rr 12 n = _; unfold adB; rw [hn0, up_f _ (by omega), up_f _ (by omega), up_f _ (by omega), up_f _ (by omega), up_eq]
  have v13 : blk σ' n = 0 := by rw [hσ]; show adB σ hh rr 13 n = _; unfold adB; rw [hn0, up_f _ (by omega), up_f _ (by omega), up_f _ (by omega), up_eq]
  have v14 : rfs σ' n = 0 := by rw [hσ]; show adB σ hh rr 14 n = _; unfold adB; rw [hn0, up_f _ (by omega), up_f _ (by omega), up_eq]
  have v20 : syz σ' n 0 = 0 := by rw [hσ]; show adB σ hh rr (20 + n) 0 = _; unfold adB; rw [hn0, up_f _ (by omega), up_eq]
  have v40 : sys σ' n 0 = 0 := by rw [hσ]; show adB σ hh rr (40 + n) 0 = _; unfold adB; rw [hn0, up_eq]
  have enz : nz σ' = nz σ := e1 0 (by omega) (by omega)
  have end_ : nd σ' = nd σ := e1 1 (by omega) (by omega)
  have ens : ∀ b, b ≠ n → ns σ' b = ns σ b := fun b hb => e1 (3 + b) (by omega) (by omega)
  have h9r : r' ∈ pL S → isK S 9 r' := fun hm => by
    rcases hr with q | q
    · subst q; exact H.k7 (by omega) hr0
    · exact absurd hm q.1
  have nr : ∀ k q, isK S k q → k ≠ 9 → q ≠ r' := fun k q hq hk e => isK_ne hq (h9r (e ▸ hq.1)) hk e
  have nf : ∀ c, c ∉ pL S → ∀ k q, isK S k q → q ≠ c := fun c hc k q hq e => hc (e ▸ hq.1)
  have k9r : isK S' 9 r' := by
    rcases hL.2.2.2.2.2 with z | z
    · exact absurd z.1 hr0
    · exact z.1
  have k9r1 : isK S' 9 r1 := by
    rcases hLs.2.2.2.2.2 with z | z
    · exact absurd z.1 hr10
    · exact z.1
  have nr1 : r' ≠ r1 := by
    rcases hr with q | q
    · intro e; exact hr1 (by rw [← e, q]; exact (H.k7 (j := 2) (by omega) (q ▸ hr0)).1)
    · exact q.2
  obtain ⟨tg', htg⟩ : ∃ tg' : Nat → Nat × Nat, ∀ q, tg' q = if q = a then (2, n) else if q = a1 then (3, 3 + n) else if q = s then (10 + n, 0) else if q = r1 then (7, 3 + n) else if q = r' then (7, 2) else tg q := ⟨fun q => if q = a then (2, n) else if q = a1 then (3, 3 + n) else if q = s then (10 + n, 0) else if q = r1 then (7, 3 + n) else if q = r' then (7, 2) else tg q, fun _ => rfl⟩
  have tgo : ∀ k q, isK S k q → q ≠ r' → tg' q = tg q := fun k q hq hne => by rw [htg, if_neg (nf a ha k q hq), if_neg (nf a1 ha1 k q hq), if_neg (nf s hs k q hq), if_neg (nf r1 hr1 k q hq), if_neg hne]
  refine ⟨⟨k5, ?_, ?_, ?_, ?_, ?_, ?_⟩, fun j hj => ?_, fun z hz => ?_, fun d hd => ?_, fun b hb => ?_, fun b hb => ?_, tg', fun z hz => ?_, fun d hd => ?_, fun b hb => ?_, fun j hj => ?_, fun j hj hj0 => ?_, fun b hb i hi => ?_⟩
  · rw [yo 0 (by omega) (by omega) (by omega) (by omega)]; exact x0
  · rw [y3 0 (by omega)]; exact x1
  · rw [y3 1 (by omega)]; exact x2
  · rw [y3 2 (by omega)]; exact x3
  · rw [show mi σ' = mi σ from congrFun (eg 1 (by omega) (by omega) (by omega) (by omega)) 0]; exact x4
  · rw [show al σ' = al σ from congrFun (eg 1 (by omega) (by omega) (by omega) (by omega)) 1]; exact x5
  · rw [e0] at hj
    by_cases hj0 : j = 2
    · subst hj0
      rw [y3 2 (by omega), y72]
      refine hL.congr e0 (fun i hi => ?_)
      rw [lsY_lt _ (by decide)]
      show Y' 2 i = if i = n then a else Y 2 i
      by_cases c : i = n
      · rw [if_pos c, c, ybn]
      · rw [if_neg c, yb i (by omega)]
    · by_cases hj1 : j = 3 + n
      · subst hj1
        rw [y3n, y7n, lsK_s]
        refine hLs.congr ensn (fun i hi => ?_)
        rw [lsY_s]
        rw [show i = 0 by omega, ysn]
      · rw [y3 j hj1, y7 j hj0 hj1]
        refine (hl' j (by omega) hj0).congr (e1 j hj0 hj1) (fun i _ => ?_)
        unfold lsY
        rw [yo _ (by split <;> omega) (by split <;> omega) (by split <;> omega) (by split <;> omega)]
  · rw [enz] at hz
    rw [yo 0 (by omega) (by omega) (by omega) (by omega), show cap σ' = cap σ from eg 2 (by omega) (by omega) (by omega) (by omega), show beg σ' = beg σ from eg 3 (by omega) (by omega) (by omega) (by omega), show fin σ' = fin σ from eg 4 (by omega) (by omega) (by omega) (by omega)]
    exact oz z hz
  · rw [end_] at hd
    rw [yo 0 (by omega) (by omega) (by omega) (by omega), yo 1 (by omega) (by omega) (by omega) (by omega), show sda σ' = sda σ from eg 5 (by omega) (by omega) (by omega) (by omega), show sdb σ' = sdb σ from eg 6 (by omega) (by omega) (by omega) (by omega), show hold σ' = hold σ from eg 7 (by omega) (by omega) (by omega) (by omega), show lock σ' = lock σ from eg 8 (by omega) (by omega) (by omega) (by omega), show shut σ' = shut σ from eg 9 (by omega) (by omega) (by omega) (by omega)]
    exact od d hd
  · rw [e0] at hb
    by_cases c : b = n
    · subst c
      rw [ybn, v12, v11, v13, v14, y3n, ensn, show 1 - 1 = 0 from rfl, ysn]
      refine ⟨ka, f0, ?_, f2, f3, f4, f5, f6⟩
      rw [f1]
      by_cases ch : hh = 0
      · rw [if_pos ch, if_pos ch]
      · rw [if_neg ch, if_neg ch, yb _ (by omega)]
    · have hb1 : b < n := by omega
      have hv := hV.vb (b := b) (by omega)
      rw [yb b hb1, y3 (3 + b) (by omega), yo (10 + b) (by omega) (by omega) (by omega) (by omega), ens b c, show hst σ' b = hst σ b from ei 12 (by omega) (by omega) b hb1, show rgt σ' b = rgt σ b from ei 11 (by omega) (by omega) b hb1, show blk σ' b = blk σ b from ei 13 (by omega) (by omega) b hb1, show rfs σ' b = rfs σ b from ei 14 (by omega) (by omega) b hb1, yb (hst σ b - 1) (by omega)]
      refine ob b (by omega) (fun q => ?_)
      rcases q with q | q
      · exact isK_ne (H.kb (b := b) (by omega)) (H.kl (j := 2) (by omega)) (by decide) q
      · exact isK_ne (H.kb (b := b) (by omega)) (H.k7 (j := 2) (by omega) (fun z => he (z ▸ q ▸ (H.kb (b := b) (by omega)).1))) (by decide) q
  · rw [e0] at hb
    rw [yo 0 (by omega) (by omega) (by omega) (by omega)]
    by_cases c : b = n
    · subst c
      rw [ensn, v10]
      refine ⟨Nat.le_refl _, v20, fun i hi => ?_⟩
      rw [show i = 0 by omega, ysn, v20, v40]
      exact ⟨ks, g0, g1⟩
    · have hb1 : b < n := by omega
      rw [ens b c, show syz σ' b = syz σ b from eg (20 + b) (by omega) (by omega) (by omega) (by omega), show sys σ' b = sys σ b from eg (40 + b) (by omega) (by omega) (by omega) (by omega), show plc σ' b = plc σ b from ei 10 (by omega) (by omega) b hb1, yo (10 + b) (by omega) (by omega) (by omega) (by omega)]
      exact os b (by omega)
  · rw [enz] at hz
    rw [yo 0 (by omega) (by omega) (by omega) (by omega), tgo _ _ (H.kz hz) (nr _ _ (H.kz hz) (by decide))]
    exact t0 z hz
  · rw [end_] at hd
    rw [yo 1 (by omega) (by omega) (by omega) (by omega), tgo _ _ (H.kd hd) (nr _ _ (H.kd hd) (by decide))]
    exact t1 d hd
  · rw [e0] at hb
    by_cases c : b = n
    · subst c; rw [ybn, htg, if_pos rfl]
    · have hb1 : b < n := by omega
      have hk := H.kb (b := b) (by omega)
      rw [yb b hb1, tgo _ _ hk (nr _ _ hk (by decide))]
      exact t2 b (by omega)
  · rw [e0] at hj
    by_cases c : j = 3 + n
    · subst c; rw [y3n, htg, if_neg (isK_ne hLs.1 ka (by decide)), if_pos rfl]
    · have hk := H.kl (j := j) (by omega)
      rw [y3 j c, tgo _ _ hk (nr _ _ hk (by decide))]
      exact t3 j (by omega)
  · rw [e0] at hj
    by_cases c : j = 2
    · subst c
      rw [y72, htg, if_neg (isK_ne k9r ka (by decide)), if_neg (isK_ne k9r hLs.1 (by decide)), if_neg (isK_ne k9r ks (by decide)), if_neg nr1, if_pos rfl]
    · by_cases c1 : j = 3 + n
      · subst c1
        rw [y7n, htg, if_neg (isK_ne k9r1 ka (by decide)), if_neg (isK_ne k9r1 hLs.1 (by decide)), if_neg (isK_ne k9r1 ks (by decide)), if_pos rfl]
      · rw [y7 j c c1] at hj0 ⊢
        have h9 := H.k7 (j := j) (by omega) hj0
        rw [tgo _ _ h9 (fun q => ?_)]
        · exact t7 j (by omega) hj0
        · rcases hr with z | z
          · exact c (H.t7 (by omega) (by omega) hj0 (q.trans z))
          · exact z.1 (q ▸ h9.1)
  · rw [e0] at hb
    by_cases c : b = n
    · subst c
      rw [ensn] at hi
      rw [show i = 0 by omega, ysn, htg, if_neg (isK_ne ks ka (by decide)), if_neg (isK_ne ks hLs.1 (by decide)), if_pos rfl]
    · rw [ens b c] at hi
      have hk := H.s (b := b) (by omega) hi
      rw [yo (10 + b) (by omega) (by omega) (by omega) (by omega), tgo _ _ hk (nr _ _ hk (by decide))]
      exact ts b (by omega) i hi
/-- the house at its start -/
def sg0 : Sg := fun f i => if f = 0 ∧ i = 0 then 1 else if f = 2 ∧ i = 0 then 11 else if f = 4 ∧ i = 0 then 1440 else 0
def lay0 (G : Ids) (z l0 l1 l2 r : Nat) : Lay := fun c i => if c = 0 then z else if c = 3 then (if i = 0 then l0 else if i = 1 then l1 else l2) else if c = 7 then (if i = 0 then r else G.2.2.1) else 0
theorem RC.start {z l0 l1 l2 r : Nat} (k5 : isK S 5 x) (x0 : pF S 0 x = .ref z) (x1 : pF S 1 x = .ref l0) (x2 : pF S 2 x = .ref l1) (x3 : pF S 3 x = .ref l2) (x4 : pF S 4 x = .int (nI 0)) (x5 : pF S 5 x = .int (nI 0)) (h0 : LsOK G S 4 l0 r 1 (fun _ => z)) (h1 : LsOK G S 2 l1 G.2.2.1 0 (fun _ => 0)) (h2 : LsOK G S 1 l2 G.2.2.1 0 (fun _ => 0)) (n01 : l0 ≠ l1) (n02 : l0 ≠ l2) (n12 : l1 ≠ l2) (kz : isK S 4 z) (z0 : pF S 0 z = .int (nI 0)) (z1 : pF S 1 z = .int (nI 11)) (z2 : pF S 2 z = .int (nI 0)) (z3 : pF S 3 z = .int (nI 1440)) : RC G S (lay0 G z l0 l1 l2 r) sg0 x := by
  refine ⟨⟨k5, x0, x1, x2, x3, x4, x5⟩, fun j hj => ?_, fun i hi => ?_, fun d hd => absurd (show d < 0 from hd) (Nat.not_lt_zero _), fun b hb => absurd (show b < 0 from hb) (Nat.not_lt_zero _), fun b hb => absurd (show b < 0 from hb) (Nat.not_lt_zero _), fun q => if q = z then (0, 0) else if q = l0 then (3, 0) else if q = l1 then (3, 1) else if q = l2 then (3, 2) else (7, 0), fun i hi => ?_, fun d hd => absurd (show d < 0 from hd) (Nat.not_lt_zero _), fun b hb => absurd (show b < 0 from hb) (Nat.not_lt_zero _), fun j hj => ?_, fun j hj hj0 => ?_, fun b hb => absurd (show b < 0 from hb) (Nat.not_lt_zero _)⟩
  · have hj3 : j < 3 := hj
    rcases (show j = 0 ∨ j = 1 ∨ j = 2 by omega) with rfl | rfl | rfl
    · exact h0
    · exact h1.congr rfl (fun i hi => absurd hi (by omega))
    · exact h2.congr rfl (fun i hi => absurd hi (by omega))
  · have hi1 : i < 1 := hi
    rw [show i = 0 by omega]
    exact ⟨kz, z0, z1, z2, z3⟩
  · have hi1 : i < 1 := hi
    rw [show i = 0 by omega]
    exact if_pos rfl
  · have hj3 : j < 3 := hj
    rcases (show j = 0 ∨ j = 1 ∨ j = 2 by omega) with rfl | rfl | rfl
    · exact (if_neg (isK_ne h0.1 kz (by decide))).trans (if_pos rfl)
    · exact (if_neg (isK_ne h1.1 kz (by decide))).trans ((if_neg n01.symm).trans (if_pos rfl))
    · exact (if_neg (isK_ne h2.1 kz (by decide))).trans ((if_neg n02.symm).trans ((if_neg n12.symm).trans (if_pos rfl)))
  · have hj3 : j < 3 := hj
    rcases (show j = 0 ∨ j = 1 ∨ j = 2 by omega) with rfl | rfl | rfl
    · have hk : isK S 9 r := by
        rcases h0.2.2.2.2.2 with q | q
        · exact absurd q.1 hj0
        · exact q.1
      exact (if_neg (isK_ne hk kz (by decide))).trans ((if_neg (isK_ne hk h0.1 (by decide))).trans ((if_neg (isK_ne hk h1.1 (by decide))).trans (if_neg (isK_ne hk h2.1 (by decide)))))
    · exact absurd rfl hj0
    · exact absurd rfl hj0
end ADD3
