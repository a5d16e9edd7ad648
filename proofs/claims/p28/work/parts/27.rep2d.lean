section ADD2
variable {G : Ids} {S S' : Ps} {Y : Lay} {σ : Sg} {x a r' : Nat}
theorem RC.addD {p q hh kk : Nat} (h : RC G S Y σ x) (ha : a ∉ pL S) (he : G.2.2.1 ∉ pL S) (F : Fr (fun q => q = Y 3 1 ∨ q = Y 7 1) S S') (hL : LsOK G S' 2 (Y 3 1) r' (nd σ + 1) (fun i => if i = nd σ then a else Y 1 i)) (hr : r' = Y 7 1 ∨ r' ∉ pL S) (hr0 : r' ≠ G.2.2.1) (ka : isK S' 2 a) (f0 : pF S' 0 a = .ref (Y 0 p)) (f1 : pF S' 1 a = .ref (Y 0 q)) (f2 : pF S' 2 a = .int (nI hh)) (f3 : pF S' 3 a = .int (nI kk)) (f4 : pF S' 4 a = .int (nI 0)) : RC G S' (up (up Y 1 (nd σ) a) 7 1 r') (adD σ p q hh kk) x := by
  have H := h
  have hl' := h.frL he (j := 1) (by omega) F (fun q _ hq => hq.imp id Or.inl)
  obtain ⟨⟨k5, x0, x1, x2, x3, x4, x5⟩, oz, od, ob, os⟩ := h.frO F (h.lsP he (j := 1) (by omega))
  obtain ⟨-, -, -, -, -, -, tg, t0, t1, t2, t3, t7, ts⟩ := h
  obtain ⟨Y', hY⟩ : ∃ Y', Y' = up (up Y 1 (nd σ) a) 7 1 r' := ⟨_, rfl⟩
  obtain ⟨σ', hσ⟩ : ∃ σ', σ' = adD σ p q hh kk := ⟨_, rfl⟩
  rw [← hY, ← hσ]
  have yz : ∀ z, z < nd σ → Y' 1 z = Y 1 z := fun z hz => by rw [hY, up_f _ (by decide), up_i _ (by omega)]
  have yn : Y' 1 (nd σ) = a := by rw [hY, up_f _ (by decide), up_eq]
  have yo : ∀ c, c ≠ 1 → c ≠ 7 → Y' c = Y c := fun c h0 h7 => by rw [hY, up_ff _ h7, up_ff _ h0]
  have y7 : ∀ j, j ≠ 1 → Y' 7 j = Y 7 j := fun j hj => by rw [hY, up_i _ hj, up_f _ (by decide)]
  have y70 : Y' 7 1 = r' := by rw [hY, up_eq]
  have e0 : nd σ' = nd σ + 1 := by rw [hσ]; rfl
  have e1 : ∀ j, j ≠ 1 → σ' 0 j = σ 0 j := fun j hj => by rw [hσ]; exact up_i σ hj
  have eg : ∀ g, g ≠ 0 → (g < 5 ∨ 9 < g) → σ' g = σ g := fun g g0 g1 => by rw [hσ]; unfold adD; rw [up_ff _ (by omega), up_ff _ (by omega), up_ff _ (by omega), up_ff _ (by omega), up_ff _ (by omega), up_ff _ g0]
  have ez : ∀ g, g ≠ 0 → ∀ z, z < nd σ → σ' g z = σ g z := fun g g0 z hz => by rw [hσ]; unfold adD; rw [up_i _ (by omega), up_i _ (by omega), up_i _ (by omega), up_i _ (by omega), up_i _ (by omega), up_f _ g0]
  have ez5 : sda σ' (nd σ) = p := by rw [hσ]; exact (up_f _ (by decide)).trans ((up_f _ (by decide)).trans ((up_f _ (by decide)).trans ((up_f _ (by decide)).trans (up_eq _ _ _ _))))
  have ez6 : sdb σ' (nd σ) = q := by rw [hσ]; exact (up_f _ (by decide)).trans ((up_f _ (by decide)).trans ((up_f _ (by decide)).trans (up_eq _ _ _ _)))
  have ez7 : hold σ' (nd σ) = hh := by rw [hσ]; exact (up_f _ (by decide)).trans ((up_f _ (by decide)).trans (up_eq _ _ _ _))
  have ez8 : lock σ' (nd σ) = kk := by rw [hσ]; exact (up_f _ (by decide)).trans (up_eq _ _ _ _)
  have ez9 : shut σ' (nd σ) = 0 := by rw [hσ]; exact up_eq _ _ _ _
  have ed : nz σ' = nz σ := e1 0 (by decide)
  have eb : nb σ' = nb σ := e1 2 (by decide)
  have es : ∀ b, ns σ' b = ns σ b := fun b => e1 (3 + b) (by omega)
  have h9r : r' ∈ pL S → isK S 9 r' := fun hm => by
    rcases hr with q | q
    · subst q; exact H.k7 (by omega) hr0
    · exact absurd hm q
  have nr : ∀ k q, isK S k q → k ≠ 9 → q ≠ r' := fun k q hq hk e => isK_ne hq (h9r (e ▸ hq.1)) hk e
  have na : ∀ k q, isK S k q → q ≠ a := fun k q hq e => ha (e ▸ hq.1)
  obtain ⟨tg', htg⟩ : ∃ tg' : Nat → Nat × Nat, ∀ q, tg' q = if q = a then (1, nd σ) else if q = r' then (7, 1) else tg q := ⟨fun q => if q = a then (1, nd σ) else if q = r' then (7, 1) else tg q, fun _ => rfl⟩
  refine ⟨⟨k5, ?_, ?_, ?_, ?_, ?_, ?_⟩, fun j hj => ?_, fun z hz => ?_, fun d hd => ?_, fun b hb => ?_, fun b hb => ?_, tg', fun z hz => ?_, fun d hd => ?_, fun b hb => ?_, fun j hj => ?_, fun j hj hj0 => ?_, fun b hb i hi => ?_⟩
  · rw [yo 0 (by decide) (by decide)]; exact x0
  · rw [yo 3 (by decide) (by decide)]; exact x1
  · rw [yo 3 (by decide) (by decide)]; exact x2
  · rw [yo 3 (by decide) (by decide)]; exact x3
  · rw [show mi σ' = mi σ from congrFun (eg 1 (by decide) (by decide)) 0]; exact x4
  · rw [show al σ' = al σ from congrFun (eg 1 (by decide) (by decide)) 1]; exact x5
  · rw [eb] at hj
    by_cases hj0 : j = 1
    · subst hj0
      rw [yo 3 (by decide) (by decide), y70]
      refine hL.congr e0 (fun i hi => ?_)
      rw [lsY_lt _ (by decide)]
      show Y' 1 i = if i = nd σ then a else Y 1 i
      by_cases c : i = nd σ
      · rw [if_pos c, c, yn]
      · rw [if_neg c, yz i (by omega)]
    · rw [yo 3 (by decide) (by decide), y7 j hj0]
      refine (hl' j hj hj0).congr (e1 j hj0) (fun i _ => ?_)
      unfold lsY
      rw [yo _ (by split <;> omega) (by split <;> omega)]
  · rw [ed] at hz
    rw [yo 0 (by decide) (by decide), show cap σ' = cap σ from eg 2 (by decide) (by decide), show beg σ' = beg σ from eg 3 (by decide) (by decide), show fin σ' = fin σ from eg 4 (by decide) (by decide)]
    exact oz z hz
  · rw [e0] at hd
    rw [yo 0 (by decide) (by decide)]
    by_cases c : d = nd σ
    · subst c
      rw [yn, ez5, ez6, ez7, ez8, ez9]; exact ⟨ka, f0, f1, f2, f3, f4⟩
    · have hz1 : d < nd σ := by omega
      rw [yz d hz1, show sda σ' d = sda σ d from ez 5 (by decide) d hz1, show sdb σ' d = sdb σ d from ez 6 (by decide) d hz1, show hold σ' d = hold σ d from ez 7 (by decide) d hz1, show lock σ' d = lock σ d from ez 8 (by decide) d hz1, show shut σ' d = shut σ d from ez 9 (by decide) d hz1]
      exact od d hz1
  · rw [eb] at hb
    rw [yo 2 (by decide) (by decide), yo 3 (by decide) (by decide), yo (10 + b) (by omega) (by omega), es, show hst σ' = hst σ from eg 12 (by decide) (by decide), show rgt σ' = rgt σ from eg 11 (by decide) (by decide), show blk σ' = blk σ from eg 13 (by decide) (by decide), show rfs σ' = rfs σ from eg 14 (by decide) (by decide)]
    refine ob b hb (fun q => ?_)
    rcases q with q | q
    · exact isK_ne (H.kb hb) (H.kl (j := 1) (by omega)) (by decide) q
    · exact isK_ne (H.kb hb) (H.k7 (j := 1) (by omega) (fun z => he (z ▸ q ▸ (H.kb hb).1))) (by decide) q
  · rw [eb] at hb
    obtain ⟨c1, c2, c3⟩ := os b hb
    rw [es, show syz σ' b = syz σ b from eg (20 + b) (by omega) (by omega), show sys σ' b = sys σ b from eg (40 + b) (by omega) (by omega), show plc σ' = plc σ from eg 10 (by decide) (by decide)]
    refine ⟨c1, c2, fun i hi => ?_⟩
    rw [yo (10 + b) (by omega) (by omega), yo 0 (by decide) (by decide)]
    exact c3 i hi
  · rw [ed] at hz
    rw [htg, yo 0 (by decide) (by decide), if_neg (na _ _ (H.kz hz)), if_neg (nr _ _ (H.kz hz) (by decide))]
    exact t0 z hz
  · rw [e0] at hd
    by_cases c : d = nd σ
    · subst c; rw [htg, yn, if_pos rfl]
    · have hz1 : d < nd σ := by omega
      rw [htg, yz d hz1, if_neg (na _ _ (H.kd hz1)), if_neg (nr _ _ (H.kd hz1) (by decide))]
      exact t1 d hz1
  · rw [eb] at hb
    rw [htg, yo 2 (by decide) (by decide), if_neg (na _ _ (H.kb hb)), if_neg (nr _ _ (H.kb hb) (by decide))]
    exact t2 b hb
  · rw [eb] at hj
    rw [htg, yo 3 (by decide) (by decide), if_neg (na _ _ (H.kl hj)), if_neg (nr _ _ (H.kl hj) (by decide))]
    exact t3 j hj
  · rw [eb] at hj
    by_cases c : j = 1
    · subst c
      rw [htg, y70, if_neg (fun q => ?_), if_pos rfl]
      rcases hL.2.2.2.2.2 with z | z
      · exact hr0 z.1
      · exact isK_ne z.1 ka (by decide) q
    · rw [y7 j c] at hj0 ⊢
      have h9 := H.k7 hj hj0
      rw [htg, if_neg (na _ _ h9), if_neg (fun q => ?_)]
      · exact t7 j hj hj0
      · rcases hr with z | z
        · exact c (H.t7 hj (by omega) hj0 (q.trans z))
        · exact z (q ▸ h9.1)
  · rw [eb] at hb
    rw [es] at hi
    rw [htg, yo (10 + b) (by omega) (by omega), if_neg (na _ _ (H.s hb hi)), if_neg (nr _ _ (H.s hb hi) (by decide))]
    exact ts b hb i hi
/-- a stay more: badge b, zone z, now; s the stay -/
theorem RC.addS {b z s : Nat} (h : RC G S Y σ x) (hb : b < nb σ) (h10 : nb σ ≤ 10) (ha : s ∉ pL S) (he : G.2.2.1 ∉ pL S) (F : Fr (fun q => q = Y 2 b ∨ q = Y 3 (3 + b) ∨ q = Y 7 (3 + b)) S S') (hF : ∀ j, j ≠ 3 → pF S' j (Y 2 b) = pF S j (Y 2 b)) (hF3 : pF S' 3 (Y 2 b) = .ref s) (hL : LsOK G S' 3 (Y 3 (3 + b)) r' (ns σ b + 1) (fun i => if i = ns σ b then s else Y (10 + b) i)) (hr : r' = Y 7 (3 + b) ∨ r' ∉ pL S) (hr0 : r' ≠ G.2.2.1) (ka : isK S' 3 s) (f0 : pF S' 0 s = .ref (Y 0 z)) (f1 : pF S' 1 s = .int (nI (mi σ))) : RC G S' (up (up Y (10 + b) (ns σ b) s) 7 (3 + b) r') (adS σ b z) x := by
  have H := h
  have hl' := h.frL he (j := 3 + b) (by omega) F (fun q _ hq => hq.elim (fun e => Or.inr (Or.inr (by rw [e]; exact (h.kb hb).2))) (fun e => e.imp id Or.inl))
  obtain ⟨⟨k5, x0, x1, x2, x3, x4, x5⟩, oz, od, ob, os⟩ := h.frO F (fun q hq hp => hp.elim (fun e => Or.inr (Or.inr (by rw [e]; exact (h.kb hb).2))) (h.lsP he (j := 3 + b) (by omega) q hq))
  obtain ⟨-, -, -, -, -, -, tg, t0, t1, t2, t3, t7, ts⟩ := h
  obtain ⟨Y', hY⟩ : ∃ Y', Y' = up (up Y (10 + b) (ns σ b) s) 7 (3 + b) r' := ⟨_, rfl⟩
  obtain ⟨σ', hσ⟩ : ∃ σ', σ' = adS σ b z := ⟨_, rfl⟩
  rw [← hY, ← hσ]
  have yz : ∀ z, z < ns σ b → Y' (10 + b) z = Y (10 + b) z := fun z hz => by rw [hY, up_f _ (by omega), up_i _ (by omega)]
  have yn : Y' (10 + b) (ns σ b) = s := by rw [hY, up_f _ (by omega), up_eq]
  have yo : ∀ c, c ≠ 10 + b → c ≠ 7 → Y' c = Y c := fun c h0 h7 => by rw [hY, up_ff _ h7, up_ff _ h0]
  have y7 : ∀ j, j ≠ 3 + b → Y' 7 j = Y 7 j := fun j hj => by rw [hY, up_i _ hj, up_f _ (by omega)]
  have y70 : Y' 7 (3 + b) = r' := by rw [hY, up_eq]
  have e0 : ns σ' b = ns σ b + 1 := by rw [hσ]; unfold adS; exact (up_f _ (by decide)).trans ((up_f _ (by omega)).trans ((up_f _ (by omega)).trans (up_eq _ _ _ _)))
  have e1 : ∀ j, j ≠ 3 + b → σ' 0 j = σ 0 j := fun j hj => by rw [hσ]; unfold adS; rw [up_f _ (by decide), up_f _ (by omega), up_f _ (by omega), up_i _ hj]
  have eg : ∀ g, g ≠ 0 → g ≠ 10 → g ≠ 20 + b → g ≠ 40 + b → σ' g = σ g := fun g g0 g1 g2 g3 => by rw [hσ]; unfold adS; rw [up_ff _ g1, up_ff _ g3, up_ff _ g2, up_ff _ g0]
  have ez1 : ∀ i, i ≠ ns σ b → σ' (20 + b) i = σ (20 + b) i := fun i hi => by rw [hσ]; unfold adS; rw [up_f _ (by omega), up_f _ (by omega), up_i _ hi, up_f _ (by omega)]
  have ez2 : σ' (20 + b) (ns σ b) = z := by rw [hσ]; unfold adS; rw [up_f _ (by omega), up_f _ (by omega), up_eq]
  have ez3 : ∀ i, i ≠ ns σ b → σ' (40 + b) i = σ (40 + b) i := fun i hi => by rw [hσ]; unfold adS; rw [up_f _ (by omega), up_i _ hi, up_f _ (by omega), up_f _ (by omega)]
  have ez4 : σ' (40 + b) (ns σ b) = mi σ := by rw [hσ]; unfold adS; rw [up_f _ (by omega), up_eq]
  have ez5 : ∀ i, i ≠ b → plc σ' i = plc σ i := fun i hi => by rw [hσ]; show adS σ b z 10 i = σ 10 i; unfold adS; rw [up_i _ hi, up_f _ (by omega), up_f _ (by omega), up_f _ (by omega)]
  have ez6 : plc σ' b = z := by rw [hσ]; exact up_eq _ _ _ _
  have ed : nz σ' = nz σ := e1 0 (by omega)
  have ed1 : nd σ' = nd σ := e1 1 (by omega)
  have eb : nb σ' = nb σ := e1 2 (by omega)
  have es : ∀ b', b' ≠ b → ns σ' b' = ns σ b' := fun b' hb' => e1 (3 + b') (by omega)
  have h9r : r' ∈ pL S → isK S 9 r' := fun hm => by
    rcases hr with q | q
    · subst q; exact H.k7 (by omega) hr0
    · exact absurd hm q
  have nr : ∀ k q, isK S k q → k ≠ 9 → q ≠ r' := fun k q hq hk e => isK_ne hq (h9r (e ▸ hq.1)) hk e
  have na : ∀ k q, isK S k q → q ≠ s := fun k q hq e => ha (e ▸ hq.1)
  obtain ⟨tg', htg⟩ : ∃ tg' : Nat → Nat × Nat, ∀ q, tg' q = if q = s then (10 + b, ns σ b) else if q = r' then (7, 3 + b) else tg q := ⟨fun q => if q = s then (10 + b, ns σ b) else if q = r' then (7, 3 + b) else tg q, fun _ => rfl⟩
  refine ⟨⟨k5, ?_, ?_, ?_, ?_, ?_, ?_⟩, fun j hj => ?_, fun z hz => ?_, fun d hd => ?_, fun b' hb' => ?_, fun b' hb' => ?_, tg', fun z hz => ?_, fun d hd => ?_, fun b' hb' => ?_, fun j hj => ?_, fun j hj hj0 => ?_, fun b' hb' i hi => ?_⟩
  · rw [yo 0 (by omega) (by decide)]; exact x0
  · rw [yo 3 (by omega) (by decide)]; exact x1
  · rw [yo 3 (by omega) (by decide)]; exact x2
  · rw [yo 3 (by omega) (by decide)]; exact x3
  · rw [show mi σ' = mi σ from congrFun (eg 1 (by decide) (by decide) (by omega) (by omega)) 0]; exact x4
  · rw [show al σ' = al σ from congrFun (eg 1 (by decide) (by decide) (by omega) (by omega)) 1]; exact x5
  · rw [eb] at hj
    by_cases hj0 : j = 3 + b
    · subst hj0
      rw [yo 3 (by omega) (by decide), y70, lsK_s]
      refine hL.congr e0 (fun i hi => ?_)
      rw [lsY_s]
      show Y' (10 + b) i = if i = ns σ b then s else Y (10 + b) i
      by_cases c : i = ns σ b
      · rw [if_pos c, c, yn]
      · rw [if_neg c, yz i (by omega)]
    · rw [yo 3 (by omega) (by decide), y7 j hj0]
      refine (hl' j hj hj0).congr (e1 j hj0) (fun i _ => ?_)
      unfold lsY
      rw [yo _ (by split <;> omega) (by split <;> omega)]
  · rw [ed] at hz
    rw [yo 0 (by omega) (by decide), show cap σ' = cap σ from eg 2 (by decide) (by decide) (by omega) (by omega), show beg σ' = beg σ from eg 3 (by decide) (by decide) (by omega) (by omega), show fin σ' = fin σ from eg 4 (by decide) (by decide) (by omega) (by omega)]
    exact oz z hz
  · rw [ed1] at hd
    rw [yo 0 (by omega) (by decide), yo 1 (by omega) (by decide), show sda σ' = sda σ from eg 5 (by decide) (by decide) (by omega) (by omega), show sdb σ' = sdb σ from eg 6 (by decide) (by decide) (by omega) (by omega), show hold σ' = hold σ from eg 7 (by decide) (by decide) (by omega) (by omega), show lock σ' = lock σ from eg 8 (by decide) (by decide) (by omega) (by omega), show shut σ' = shut σ from eg 9 (by decide) (by decide) (by omega) (by omega)]
    exact od d hd
  · rw [eb] at hb'
    rw [yo 2 (by omega) (by decide), yo 3 (by omega) (by decide), show hst σ' = hst σ from eg 12 (by decide) (by decide) (by omega) (by omega), show rgt σ' = rgt σ from eg 11 (by decide) (by decide) (by omega) (by omega), show blk σ' = blk σ from eg 13 (by decide) (by decide) (by omega) (by omega), show rfs σ' = rfs σ from eg 14 (by decide) (by decide) (by omega) (by omega)]
    by_cases c : b' = b
    · subst c
      rw [e0, show ns σ b' + 1 - 1 = ns σ b' by omega, yn]
      exact ⟨F.K (H.kb hb), (hF 0 (by decide)).trans (H.b0 hb), (hF 1 (by decide)).trans (H.b1 hb), (hF 2 (by decide)).trans (H.b2 hb), hF3, (hF 4 (by decide)).trans (H.b4 hb), (hF 5 (by decide)).trans (H.b5 hb), (hF 6 (by decide)).trans (H.b6 hb)⟩
    · rw [es b' c, yo (10 + b') (by omega) (by omega)]
      refine ob b' hb' (fun q => ?_)
      rcases q with q | q | q
      · exact c ((H.bi hb' hb).mp q)
      · exact isK_ne (H.kb hb') (H.kl (j := 3 + b) (by omega)) (by decide) q
      · exact isK_ne (H.kb hb') (H.k7 (j := 3 + b) (by omega) (fun z => he (z ▸ q ▸ (H.kb hb').1))) (by decide) q
  · rw [eb] at hb'
    obtain ⟨c1, c2, c3⟩ := os b' hb'
    rw [yo 0 (by omega) (by decide)]
    by_cases c : b' = b
    · subst c
      rw [e0]
      refine ⟨by omega, ?_, fun i hi => ?_⟩
      · rw [show ns σ b' + 1 - 1 = ns σ b' by omega, show syz σ' b' (ns σ b') = z from ez2, ez6]
      · by_cases ci : i = ns σ b'
        · subst ci
          rw [yn, show syz σ' b' (ns σ b') = z from ez2, show sys σ' b' (ns σ b') = mi σ from ez4]; exact ⟨ka, f0, f1⟩
        · rw [yz i (by omega), show syz σ' b' i = syz σ b' i from ez1 i ci, show sys σ' b' i = sys σ b' i from ez3 i ci]
          exact c3 i (by omega)
    · rw [es b' c, show syz σ' b' = syz σ b' from eg (20 + b') (by omega) (by omega) (by omega) (by omega), show sys σ' b' = sys σ b' from eg (40 + b') (by omega) (by omega) (by omega) (by omega), ez5 b' c, yo (10 + b') (by omega) (by omega)]
      exact ⟨c1, c2, c3⟩
  · rw [ed] at hz
    rw [htg, yo 0 (by omega) (by decide), if_neg (na _ _ (H.kz hz)), if_neg (nr _ _ (H.kz hz) (by decide))]
    exact t0 z hz
  · rw [ed1] at hd
    rw [htg, yo 1 (by omega) (by decide), if_neg (na _ _ (H.kd hd)), if_neg (nr _ _ (H.kd hd) (by decide))]
    exact t1 d hd
  · rw [eb] at hb'
    rw [htg, yo 2 (by omega) (by decide), if_neg (na _ _ (H.kb hb')), if_neg (nr _ _ (H.kb hb') (by decide))]
    exact t2 b' hb'
  · rw [eb] at hj
    rw [htg, yo 3 (by omega) (by decide), if_neg (na _ _ (H.kl hj)), if_neg (nr _ _ (H.kl hj) (by decide))]
    exact t3 j hj
  · rw [eb] at hj
    by_cases c : j = 3 + b
    · subst c
      rw [htg, y70, if_neg (fun q => ?_), if_pos rfl]
      rcases hL.2.2.2.2.2 with z | z
      · exact hr0 z.1
      · exact isK_ne z.1 ka (by decide) q
    · rw [y7 j c] at hj0 ⊢
      have h9 := H.k7 hj hj0
      rw [htg, if_neg (na _ _ h9), if_neg (fun q => ?_)]
      · exact t7 j hj hj0
      · rcases hr with z | z
        · exact c (H.t7 hj (by omega) hj0 (q.trans z))
        · exact z (q ▸ h9.1)
  · rw [eb] at hb'
    by_cases c : b' = b
    · subst c
      rw [e0] at hi
      by_cases ci : i = ns σ b'
      · subst ci; rw [htg, yn, if_pos rfl]
      · have hi1 : i < ns σ b' := by omega
        rw [htg, yz i hi1, if_neg (na _ _ (H.s hb' hi1)), if_neg (nr _ _ (H.s hb' hi1) (by decide))]
        exact ts b' hb' i hi1
    · rw [es b' c] at hi
      rw [htg, yo (10 + b') (by omega) (by omega), if_neg (na _ _ (H.s hb' hi)), if_neg (nr _ _ (H.s hb' hi) (by decide))]
      exact ts b' hb' i hi
end ADD2
