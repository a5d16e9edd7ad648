/-- a zone more, a door more, a badge more, a stay more, a stay changed -/
def adZ (σ : Sg) (c b e : Nat) : Sg := up (up (up (up σ 0 0 (nz σ + 1)) 2 (nz σ) c) 3 (nz σ) b) 4 (nz σ) e
def adD (σ : Sg) (a b h k : Nat) : Sg := up (up (up (up (up (up σ 0 1 (nd σ + 1)) 5 (nd σ) a) 6 (nd σ) b) 7 (nd σ) h) 8 (nd σ) k) 9 (nd σ) 0
def adB (σ : Sg) (h r : Nat) : Sg := up (up (up (up (up (up (up (up (up σ 0 2 (nb σ + 1)) 0 (3 + nb σ) 1) 10 (nb σ) 0) 11 (nb σ) r) 12 (nb σ) h) 13 (nb σ) 0) 14 (nb σ) 0) (20 + nb σ) 0 0) (40 + nb σ) 0 0
def adS (σ : Sg) (b z : Nat) : Sg := up (up (up (up σ 0 (3 + b) (ns σ b + 1)) (20 + b) (ns σ b) z) (40 + b) (ns σ b) (mi σ)) 10 b z
def stR (σ : Sg) (b z : Nat) : Sg := up (up σ (20 + b) (ns σ b - 1) z) 10 b z
theorem lsY_ge (Y : Lay) {j : Nat} (h : 3 ≤ j) : lsY Y j = Y (7 + j) := by unfold lsY; rw [if_neg (by omega)]
theorem lsY_lt (Y : Lay) {j : Nat} (h : j < 3) : lsY Y j = Y j := by unfold lsY; rw [if_pos h]
section ADD
variable {G : Ids} {S S' : Ps} {Y : Lay} {σ : Sg} {x a r' : Nat}
theorem RC.addZ {c b e : Nat} (h : RC G S Y σ x) (hV : InvC σ) (hS : ∀ b, b < nb σ → ∀ i, i < ns σ b → syz σ b i < nz σ) (ha : a ∉ pL S) (he : G.2.2.1 ∉ pL S) (F : Fr (fun q => q = Y 3 0 ∨ q = Y 7 0) S S') (hL : LsOK G S' 4 (Y 3 0) r' (nz σ + 1) (fun i => if i = nz σ then a else Y 0 i)) (hr : r' = Y 7 0 ∨ r' ∉ pL S) (hr0 : r' ≠ G.2.2.1) (ka : isK S' 4 a) (f0 : pF S' 0 a = .int (nI (nz σ))) (f1 : pF S' 1 a = .int (nI c)) (f2 : pF S' 2 a = .int (nI b)) (f3 : pF S' 3 a = .int (nI e)) : RC G S' (up (up Y 0 (nz σ) a) 7 0 r') (adZ σ c b e) x := by
  have H := h
  have hn := hV.n
  have hl' := h.frL he (j := 0) (by omega) F (fun q _ hq => hq.imp id Or.inl)
  obtain ⟨⟨k5, x0, x1, x2, x3, x4, x5⟩, oz, od, ob, os⟩ := h.frO F (h.lsP he (j := 0) (by omega))
  obtain ⟨-, -, -, -, -, -, tg, t0, t1, t2, t3, t7, ts⟩ := h
  obtain ⟨Y', hY⟩ : ∃ Y', Y' = up (up Y 0 (nz σ) a) 7 0 r' := ⟨_, rfl⟩
  obtain ⟨σ', hσ⟩ : ∃ σ', σ' = adZ σ c b e := ⟨_, rfl⟩
  rw [← hY, ← hσ]
  have yz : ∀ z, z < nz σ → Y' 0 z = Y 0 z := fun z hz => by rw [hY, up_f _ (by decide), up_i _ (by omega)]
  have yn : Y' 0 (nz σ) = a := by rw [hY, up_f _ (by decide), up_eq]
  have yo : ∀ c, c ≠ 0 → c ≠ 7 → Y' c = Y c := fun c h0 h7 => by rw [hY, up_ff _ h7, up_ff _ h0]
  have y7 : ∀ j, j ≠ 0 → Y' 7 j = Y 7 j := fun j hj => by rw [hY, up_i _ hj, up_f _ (by decide)]
  have y70 : Y' 7 0 = r' := by rw [hY, up_eq]
  have e0 : nz σ' = nz σ + 1 := by rw [hσ]; rfl
  have e1 : ∀ j, j ≠ 0 → σ' 0 j = σ 0 j := fun j hj => by rw [hσ]; exact up_i σ hj
  have eg : ∀ g, g ≠ 0 → g ≠ 2 → g ≠ 3 → g ≠ 4 → σ' g = σ g := fun g g0 g2 g3 g4 => by rw [hσ]; unfold adZ; rw [up_ff _ g4, up_ff _ g3, up_ff _ g2, up_ff _ g0]
  have ez : ∀ g, g ≠ 0 → ∀ z, z < nz σ → σ' g z = σ g z := fun g g0 z hz => by rw [hσ]; unfold adZ; rw [up_i _ (by omega), up_i _ (by omega), up_i _ (by omega), up_f _ g0]
  have ez2 : cap σ' (nz σ) = c := by rw [hσ]; exact (up_f _ (by decide)).trans ((up_f _ (by decide)).trans (up_eq _ _ _ _))
  have ez3 : beg σ' (nz σ) = b := by rw [hσ]; exact (up_f _ (by decide)).trans (up_eq _ _ _ _)
  have ez4 : fin σ' (nz σ) = e := by rw [hσ]; exact up_eq _ _ _ _
  have ed : nd σ' = nd σ := e1 1 (by decide)
  have eb : nb σ' = nb σ := e1 2 (by decide)
  have es : ∀ b, ns σ' b = ns σ b := fun b => e1 (3 + b) (by omega)
  have h9r : r' ∈ pL S → isK S 9 r' := fun hm => by
    rcases hr with q | q
    · subst q; exact H.k7 (by omega) hr0
    · exact absurd hm q
  have nr : ∀ k q, isK S k q → k ≠ 9 → q ≠ r' := fun k q hq hk e => isK_ne hq (h9r (e ▸ hq.1)) hk e
  have na : ∀ k q, isK S k q → q ≠ a := fun k q hq e => ha (e ▸ hq.1)
  obtain ⟨tg', htg⟩ : ∃ tg' : Nat → Nat × Nat, ∀ q, tg' q = if q = a then (0, nz σ) else if q = r' then (7, 0) else tg q := ⟨fun q => if q = a then (0, nz σ) else if q = r' then (7, 0) else tg q, fun _ => rfl⟩
  refine ⟨⟨k5, ?_, ?_, ?_, ?_, ?_, ?_⟩, fun j hj => ?_, fun z hz => ?_, fun d hd => ?_, fun b hb => ?_, fun b hb => ?_, tg', fun z hz => ?_, fun d hd => ?_, fun b hb => ?_, fun j hj => ?_, fun j hj hj0 => ?_, fun b hb i hi => ?_⟩
  · rw [yz 0 (by omega)]; exact x0
  · rw [yo 3 (by decide) (by decide)]; exact x1
  · rw [yo 3 (by decide) (by decide)]; exact x2
  · rw [yo 3 (by decide) (by decide)]; exact x3
  · rw [show mi σ' = mi σ from congrFun (eg 1 (by decide) (by decide) (by decide) (by decide)) 0]; exact x4
  · rw [show al σ' = al σ from congrFun (eg 1 (by decide) (by decide) (by decide) (by decide)) 1]; exact x5
  · rw [eb] at hj
    by_cases hj0 : j = 0
    · subst hj0
      rw [yo 3 (by decide) (by decide), y70]
      refine hL.congr e0 (fun i hi => ?_)
      rw [lsY_lt _ (by decide)]
      show Y' 0 i = if i = nz σ then a else Y 0 i
      by_cases c : i = nz σ
      · rw [if_pos c, c, yn]
      · rw [if_neg c, yz i (by omega)]
    · rw [yo 3 (by decide) (by decide), y7 j hj0]
      refine (hl' j hj hj0).congr (e1 j hj0) (fun i _ => ?_)
      unfold lsY
      rw [yo _ (by split <;> omega) (by split <;> omega)]
  · rw [e0] at hz
    by_cases c : z = nz σ
    · subst c
      rw [yn, ez2, ez3, ez4]; exact ⟨ka, f0, f1, f2, f3⟩
    · have hz1 : z < nz σ := by omega
      rw [yz z hz1, show cap σ' z = cap σ z from ez 2 (by decide) z hz1, show beg σ' z = beg σ z from ez 3 (by decide) z hz1, show fin σ' z = fin σ z from ez 4 (by decide) z hz1]
      exact oz z hz1
  · rw [ed] at hd
    have hv := hV.vd hd
    rw [yo 1 (by decide) (by decide), show sda σ' = sda σ from eg 5 (by decide) (by decide) (by decide) (by decide), show sdb σ' = sdb σ from eg 6 (by decide) (by decide) (by decide) (by decide), show hold σ' = hold σ from eg 7 (by decide) (by decide) (by decide) (by decide), show lock σ' = lock σ from eg 8 (by decide) (by decide) (by decide) (by decide), show shut σ' = shut σ from eg 9 (by decide) (by decide) (by decide) (by decide), yz _ hv.1, yz _ hv.2.1]
    exact od d hd
  · rw [eb] at hb
    rw [yo 2 (by decide) (by decide), yo 3 (by decide) (by decide), yo (10 + b) (by omega) (by omega), es, show hst σ' = hst σ from eg 12 (by decide) (by decide) (by decide) (by decide), show rgt σ' = rgt σ from eg 11 (by decide) (by decide) (by decide) (by decide), show blk σ' = blk σ from eg 13 (by decide) (by decide) (by decide) (by decide), show rfs σ' = rfs σ from eg 14 (by decide) (by decide) (by decide) (by decide)]
    refine ob b hb (fun q => ?_)
    rcases q with q | q
    · exact isK_ne (H.kb hb) (H.kl (j := 0) (by omega)) (by decide) q
    · exact isK_ne (H.kb hb) (H.k7 (j := 0) (by omega) (fun z => he (z ▸ q ▸ (H.kb hb).1))) (by decide) q
  · rw [eb] at hb
    obtain ⟨c1, c2, c3⟩ := os b hb
    rw [es, show syz σ' b = syz σ b from eg (20 + b) (by omega) (by omega) (by omega) (by omega), show sys σ' b = sys σ b from eg (40 + b) (by omega) (by omega) (by omega) (by omega), show plc σ' = plc σ from eg 10 (by decide) (by decide) (by decide) (by decide)]
    refine ⟨c1, c2, fun i hi => ?_⟩
    rw [yo (10 + b) (by omega) (by omega), yz _ (hS b hb i hi)]
    exact c3 i hi
  · rw [e0] at hz
    by_cases c : z = nz σ
    · subst c; rw [htg, yn, if_pos rfl]
    · have hz1 : z < nz σ := by omega
      rw [htg, yz z hz1, if_neg (na _ _ (H.kz hz1)), if_neg (nr _ _ (H.kz hz1) (by decide))]
      exact t0 z hz1
  · rw [ed] at hd
    rw [htg, yo 1 (by decide) (by decide), if_neg (na _ _ (H.kd hd)), if_neg (nr _ _ (H.kd hd) (by decide))]
    exact t1 d hd
  · rw [eb] at hb
    rw [htg, yo 2 (by decide) (by decide), if_neg (na _ _ (H.kb hb)), if_neg (nr _ _ (H.kb hb) (by decide))]
    exact t2 b hb
  · rw [eb] at hj
    rw [htg, yo 3 (by decide) (by decide), if_neg (na _ _ (H.kl hj)), if_neg (nr _ _ (H.kl hj) (by decide))]
    exact t3 j hj
  · rw [eb] at hj
    by_cases c : j = 0
    · subst c
      rw [htg, y70, if_neg (fun q => ?_), if_pos rfl]
      rcases hL.2.2.2.2.2 with z | z
      · exact hr0 z.1
      · exact isK_ne z.1 ka (by decide) q
    · rw [y7 j c] at hj0 ⊢
      have h9 := H.k7 hj hj0
      rw [htg, if_neg (na _ _ h9), if_neg (fun q => ?_)]
      · exact t7 j hj hj0
      · rcases hr with z | z
        · exact c (H.t7 hj (by omega) hj0 (q.trans z))
        · exact z (q ▸ h9.1)
  · rw [eb] at hb
    rw [es] at hi
    rw [htg, yo (10 + b) (by omega) (by omega), if_neg (na _ _ (H.s hb hi)), if_neg (nr _ _ (H.s hb hi) (by decide))]
    exact ts b hb i hi
end ADD
