/-! WAYS: what is measured backwards is the least number of doors. -/
/-- a door from a to b, where b may be entered -/
def stp (σ : Sg) (ok : Nat → Bool) (a b : Nat) : Prop := ∃ d, d < nd σ ∧ ((sda σ d = a ∧ sdb σ d = b) ∨ (sdb σ d = a ∧ sda σ d = b)) ∧ ok b = true
theorem rch_succ {σ : Sg} {ok : Nat → Bool} {u k v : Nat} : rch σ ok u (k + 1) v = true ↔ rch σ ok u k v = true ∨ ∃ a, rch σ ok u k a = true ∧ stp σ ok a v := by
  show rchN σ ok (rch σ ok u k) v = true ↔ _
  unfold rchN
  rw [Bool.or_eq_true, exF_iff]
  simp only [Bool.or_eq_true, Bool.and_eq_true, decide_eq_true_eq]
  constructor
  · rintro (h | ⟨d, hd, ⟨h1, h2, h3⟩ | ⟨h1, h2, h3⟩⟩)
    · exact Or.inl h
    · exact Or.inr ⟨_, h1, d, hd, Or.inl ⟨rfl, h3⟩, h3 ▸ h2⟩
    · exact Or.inr ⟨_, h1, d, hd, Or.inr ⟨rfl, h3⟩, h3 ▸ h2⟩
  · rintro (h | ⟨a, h1, d, hd, ⟨h2, h3⟩ | ⟨h2, h3⟩, h4⟩)
    · exact Or.inl h
    · exact Or.inr ⟨d, hd, Or.inl ⟨h2 ▸ h1, h3 ▸ h4, h3⟩⟩
    · exact Or.inr ⟨d, hd, Or.inr ⟨h2 ▸ h1, h3 ▸ h4, h3⟩⟩
theorem rch_0 {σ : Sg} {ok : Nat → Bool} {u v : Nat} : rch σ ok u 0 v = true ↔ u = v := by show decide (u = v) = true ↔ _; simp
/-- the first door instead of the last -/
theorem rch_fst {σ : Sg} {ok : Nat → Bool} : ∀ {k u v : Nat}, rch σ ok u (k + 1) v = true ↔ rch σ ok u k v = true ∨ ∃ a, stp σ ok u a ∧ rch σ ok a k v = true
  | 0, u, v => by
    rw [rch_succ, rch_0]
    constructor
    · rintro (h | ⟨a, h1, h2⟩)
      · exact Or.inl h
      · rw [rch_0] at h1; subst h1; exact Or.inr ⟨v, h2, rch_0.mpr rfl⟩
    · rintro (h | ⟨a, h1, h2⟩)
      · exact Or.inl h
      · rw [rch_0] at h2; subst h2; exact Or.inr ⟨u, rch_0.mpr rfl, h1⟩
  | k + 1, u, v => by
    rw [rch_succ]
    constructor
    · rintro (h | ⟨a, h1, h2⟩)
      · exact Or.inl h
      · rcases rch_fst.mp h1 with h3 | ⟨c, h3, h4⟩
        · exact Or.inl (rch_succ.mpr (Or.inr ⟨a, h3, h2⟩))
        · exact Or.inr ⟨c, h3, rch_succ.mpr (Or.inr ⟨a, h4, h2⟩)⟩
    · rintro (h | ⟨a, h1, h2⟩)
      · exact Or.inl h
      · rcases rch_succ.mp h2 with h3 | ⟨c, h3, h4⟩
        · exact Or.inl (rch_fst.mpr (Or.inr ⟨a, h1, h3⟩))
        · exact Or.inr ⟨c, rch_fst.mpr (Or.inr ⟨a, h1, h3⟩), h4⟩
theorem rch_mono {σ : Sg} {ok : Nat → Bool} {u v : Nat} : ∀ {k j : Nat}, j ≤ k → rch σ ok u j v = true → rch σ ok u k v = true := by
  intro k j h
  induction h with
  | refl => exact id
  | step _ ih => exact fun q => rch_succ.mpr (Or.inl (ih q))
-- the least of a row
theorem lst_sp {p : Nat → Bool} : ∀ {n k : Nat}, (∃ j, lst p n k = j ∧ k ≤ j ∧ j < k + n ∧ p j = true ∧ ∀ i, k ≤ i → i < j → p i = false) ∨ (lst p n k = 9 ∧ ∀ i, k ≤ i → i < k + n → p i = false)
  | 0, k => Or.inr ⟨rfl, fun i h1 h2 => by omega⟩
  | n + 1, k => by
    show (∃ j, (if p k = true then k else lst p n (k + 1)) = j ∧ _) ∨ ((if p k = true then k else lst p n (k + 1)) = 9 ∧ _)
    by_cases c : p k = true
    · rw [if_pos c]; exact Or.inl ⟨k, rfl, Nat.le_refl _, by omega, c, fun i h1 h2 => by omega⟩
    · rw [if_neg c]
      rw [Bool.not_eq_true] at c
      rcases lst_sp (p := p) (n := n) (k := k + 1) with ⟨j, h1, h2, h3, h4, h5⟩ | ⟨h1, h2⟩
      · refine Or.inl ⟨j, h1, by omega, by omega, h4, fun i h6 h7 => ?_⟩
        by_cases e : i = k
        · rw [e]; exact c
        · exact h5 i (by omega) h7
      · refine Or.inr ⟨h1, fun i h6 h7 => ?_⟩
        by_cases e : i = k
        · rw [e]; exact c
        · exact h2 i (by omega) (by omega)
theorem lst_iff {p : Nat → Bool} {n j : Nat} (hn : n ≤ 9) (hj : j ≤ 8) : lst p n 0 = j ↔ j < n ∧ p j = true ∧ ∀ i, i < j → p i = false := by
  rcases lst_sp (p := p) (n := n) (k := 0) with ⟨j', h1, h2, h3, h4, h5⟩ | ⟨h1, h2⟩
  · rw [h1]
    constructor
    · rintro rfl; exact ⟨by omega, h4, fun i hi => h5 i (by omega) hi⟩
    · rintro ⟨k1, k2, k3⟩
      rcases Nat.lt_trichotomy j' j with q | q | q
      · rw [k3 j' q] at h4; exact absurd h4 (by decide)
      · exact q
      · rw [h5 j (by omega) q] at k2; exact absurd k2 (by decide)
  · rw [h1]
    constructor
    · intro h; omega
    · rintro ⟨k1, k2, k3⟩
      rw [h2 j (by omega) (by omega)] at k2; exact absurd k2 (by decide)
theorem lst_9 {p : Nat → Bool} {n : Nat} (hn : n ≤ 9) : lst p n 0 = 9 ↔ ∀ i, i < n → p i = false := by
  rcases lst_sp (p := p) (n := n) (k := 0) with ⟨j', h1, h2, h3, h4, h5⟩ | ⟨h1, h2⟩
  · rw [h1]
    constructor
    · intro h; omega
    · intro h; rw [h j' (by omega)] at h4; exact absurd h4 (by decide)
  · rw [h1]
    exact ⟨fun _ i hi => h2 i (by omega) (by omega), fun _ => rfl⟩
theorem lst_le {p : Nat → Bool} {n : Nat} (hn : n ≤ 9) : lst p n 0 ≤ 9 := by
  rcases lst_sp (p := p) (n := n) (k := 0) with ⟨j', h1, h2, h3, h4, h5⟩ | ⟨h1, h2⟩ <;> omega
-- one level of measuring
/-- what is reached from the zones of level k by the first n doors -/
def hit (σ : Sg) (w : Nat → Bool) (m : Nat → Nat) (k n z : Nat) : Prop := ∃ d, d < n ∧ ((w (sda σ d) = true ∧ m (sda σ d) = k ∧ sdb σ d = z) ∨ (w (sdb σ d) = true ∧ m (sdb σ d) = k ∧ sda σ d = z))
theorem mf_step {w : Nat → Bool} {m m' : Nat → Nat} {k e f : Nat} {Q : Nat → Prop} (hk : k ≤ 7) (h1 : ∀ z, m z = 9 ∧ Q z → m' z = k + 1) (h2 : ∀ z, ¬ (m z = 9 ∧ Q z) → m' z = m z) : (∀ z, m z = 9 ∧ (Q z ∨ (w e = true ∧ m e = k ∧ f = z)) → mfS w m' e f k z = k + 1) ∧ (∀ z, ¬ (m z = 9 ∧ (Q z ∨ (w e = true ∧ m e = k ∧ f = z))) → mfS w m' e f k z = m z) := by
  have he : m' e = k ↔ m e = k := by
    by_cases c : m e = 9 ∧ Q e
    · rw [h1 e c]; omega
    · rw [h2 e c]
  unfold mfS
  by_cases cf : w e = true ∧ m' e = k ∧ m' f = 9
  · rw [if_pos cf]
    have hf : ¬ (m f = 9 ∧ Q f) := fun q => by have := h1 f q; omega
    have hf2 : m f = 9 := by rw [← h2 f hf]; exact cf.2.2
    constructor
    · rintro z ⟨q1, q2⟩
      show (if z = f then k + 1 else m' z) = k + 1
      by_cases c : z = f
      · rw [if_pos c]
      · rw [if_neg c]
        rcases q2 with q2 | q2
        · exact h1 z ⟨q1, q2⟩
        · exact absurd q2.2.2.symm c
    · intro z q
      show (if z = f then k + 1 else m' z) = m z
      by_cases c : z = f
      · exact absurd ⟨by rw [c]; exact hf2, Or.inr ⟨cf.1, he.mp cf.2.1, c.symm⟩⟩ q
      · rw [if_neg c]
        exact h2 z (fun q2 => q ⟨q2.1, Or.inl q2.2⟩)
  · rw [if_neg cf]
    constructor
    · rintro z ⟨q1, q2⟩
      rcases q2 with q2 | ⟨q2, q3, q4⟩
      · exact h1 z ⟨q1, q2⟩
      · subst q4
        by_cases c : Q f
        · exact h1 f ⟨q1, c⟩
        · exact absurd ⟨q2, he.mpr q3, by rw [h2 f (fun q => c q.2)]; exact q1⟩ cf
    · intro z q
      exact h2 z (fun q2 => q ⟨q2.1, Or.inl q2.2⟩)
theorem md_sp {σ : Sg} {w : Nat → Bool} {m : Nat → Nat} {k : Nat} (hk : k ≤ 7) : ∀ n, (∀ z, m z = 9 ∧ hit σ w m k n z → mdS σ w m k n z = k + 1) ∧ (∀ z, ¬ (m z = 9 ∧ hit σ w m k n z) → mdS σ w m k n z = m z)
  | 0 => ⟨fun z h => by obtain ⟨_, d, hd, _⟩ := h; omega, fun z _ => rfl⟩
  | n + 1 => by
    have ih := md_sp (σ := σ) (w := w) (m := m) hk n
    have s1 := mf_step (w := w) (e := sda σ n) (f := sdb σ n) hk ih.1 ih.2
    have s2 := mf_step (w := w) (e := sdb σ n) (f := sda σ n) hk s1.1 s1.2
    have e : ∀ z, hit σ w m k (n + 1) z ↔ ((hit σ w m k n z ∨ (w (sda σ n) = true ∧ m (sda σ n) = k ∧ sdb σ n = z)) ∨ (w (sdb σ n) = true ∧ m (sdb σ n) = k ∧ sda σ n = z)) := fun z => by
      constructor
      · rintro ⟨d, hd, h⟩
        by_cases c : d = n
        · subst c
          rcases h with h | h
          · exact Or.inl (Or.inr h)
          · exact Or.inr h
        · exact Or.inl (Or.inl ⟨d, by omega, h⟩)
      · rintro ((⟨d, hd, h⟩ | h) | h)
        · exact ⟨d, by omega, h⟩
        · exact ⟨n, by omega, Or.inl h⟩
        · exact ⟨n, by omega, Or.inr h⟩
    refine ⟨fun z h => s2.1 z ⟨h.1, (e z).mp h.2⟩, fun z h => s2.2 z (fun q => h ⟨q.1, (e z).mpr q.2⟩)⟩
theorem ml_sp {σ : Sg} {w : Nat → Bool} {t : Nat} : ∀ k, k ≤ 8 → ∀ z, mlS σ w t k z = lst (fun j => rch σ w z j t) (k + 1) 0
  | 0, _, z => by
    show (if z = t then 0 else 9) = (if rch σ w z 0 t = true then 0 else 9)
    by_cases c : z = t
    · rw [if_pos c, if_pos (rch_0.mpr c)]
    · rw [if_neg c, if_neg (fun q => c (rch_0.mp q))]
  | k + 1, hk, z => by
    have ih := ml_sp (σ := σ) (w := w) (t := t) k (by omega)
    have md := md_sp (σ := σ) (w := w) (m := mlS σ w t k) (k := k) (by omega) (nd σ)
    show mdS σ w (mlS σ w t k) k (nd σ) z = _
    by_cases c9 : mlS σ w t k z = 9
    · have hno := (lst_9 (n := k + 1) (by omega)).mp ((ih z).symm.trans c9)
      have hb : hit σ w (mlS σ w t k) k (nd σ) z ↔ rch σ w z (k + 1) t = true := by
        rw [rch_fst]
        constructor
        · rintro ⟨d, hd, ⟨h1, h2, h3⟩ | ⟨h1, h2, h3⟩⟩
          · rw [ih, lst_iff (by omega) (by omega)] at h2
            exact Or.inr ⟨_, ⟨d, hd, Or.inr ⟨h3, rfl⟩, h1⟩, h2.2.1⟩
          · rw [ih, lst_iff (by omega) (by omega)] at h2
            exact Or.inr ⟨_, ⟨d, hd, Or.inl ⟨h3, rfl⟩, h1⟩, h2.2.1⟩
        · rintro (h | ⟨a, ⟨d, hd, h1, h2⟩, h3⟩)
          · have := hno k (by omega)
            rw [h] at this; exact absurd this (by decide)
          · have ha : mlS σ w t k a = k := by
              rw [ih, lst_iff (by omega) (by omega)]
              refine ⟨by omega, h3, fun i hi => ?_⟩
              rw [← Bool.not_eq_true]
              intro q
              have h4 : rch σ w z (i + 1) t = true := rch_fst.mpr (Or.inr ⟨a, ⟨d, hd, h1, h2⟩, q⟩)
              rw [hno (i + 1) (by omega)] at h4
              exact absurd h4 (by decide)
            rcases h1 with ⟨e1, e2⟩ | ⟨e1, e2⟩
            · exact ⟨d, hd, Or.inr ⟨by rw [e2]; exact h2, by rw [e2]; exact ha, e1⟩⟩
            · exact ⟨d, hd, Or.inl ⟨by rw [e2]; exact h2, by rw [e2]; exact ha, e1⟩⟩
      by_cases ch : hit σ w (mlS σ w t k) k (nd σ) z
      · rw [md.1 z ⟨c9, ch⟩]
        refine ((lst_iff (p := fun j => rch σ w z j t) (n := k + 1 + 1) (j := k + 1) (by omega) (by omega)).mpr ⟨by omega, hb.mp ch, fun i hi => hno i hi⟩).symm
      · rw [md.2 z (fun q => ch q.2), c9]
        refine ((lst_9 (p := fun j => rch σ w z j t) (n := k + 1 + 1) (by omega)).mpr (fun i hi => ?_)).symm
        by_cases e : i = k + 1
        · rw [e, ← Bool.not_eq_true]; exact fun q => ch (hb.mpr q)
        · exact hno i (by omega)
    · rw [md.2 z (fun q => c9 q.1)]
      have hle := lst_le (p := fun j => rch σ w z j t) (n := k + 1) (by omega)
      rw [← ih] at hle
      obtain ⟨j, hj⟩ : ∃ j, mlS σ w t k z = j := ⟨_, rfl⟩
      rw [hj] at c9 hle ⊢
      have h1 := (lst_iff (n := k + 1) (j := j) (by omega) (by omega)).mp ((ih z).symm.trans hj)
      exact ((lst_iff (p := fun j => rch σ w z j t) (n := k + 1 + 1) (j := j) (by omega) (by omega)).mpr ⟨by omega, h1.2.1, h1.2.2⟩).symm
/-- as many values as zones at the most -/
theorem pig : ∀ n k (g : Nat → Nat), (∀ i, i < k → ∃ z, z < n ∧ g z = i) → k ≤ n
  | 0, k, g, h => by
    rcases Nat.eq_zero_or_pos k with q | q
    · omega
    · obtain ⟨z, hz, _⟩ := h 0 q; omega
  | n + 1, k, g, h => by
    have h1 := pig n (k - 1) (fun z => if g n < g z then g z - 1 else g z) (fun i hi => by
      by_cases c : i < g n
      · obtain ⟨z, hz, e⟩ := h i (by omega)
        refine ⟨z, ?_, ?_⟩
        · rcases Nat.lt_or_ge z n with q | q
          · exact q
          · have : z = n := by omega
            subst this; omega
        · show (if g n < g z then g z - 1 else g z) = i
          rw [if_neg (by omega), e]
      · obtain ⟨z, hz, e⟩ := h (i + 1) (by omega)
        refine ⟨z, ?_, ?_⟩
        · rcases Nat.lt_or_ge z n with q | q
          · exact q
          · have : z = n := by omega
            subst this; omega
        · show (if g n < g z then g z - 1 else g z) = i
          rw [if_pos (by omega), e]; omega)
    omega
/-- each smaller number of doors is some zone's least, too -/
theorem dst_down {σ : Sg} {w : Nat → Bool} {t : Nat} (hV : InvC σ) : ∀ j z, j ≤ 8 → z < nz σ → dst σ w z t = j → ∀ i, i < j + 1 → ∃ y, y < nz σ ∧ dst σ w y t = i := by
  intro j
  induction j with
  | zero => intro z _ hz h i hi; exact ⟨z, hz, by rw [h]; omega⟩
  | succ j ih =>
    intro z h8 hz h i hi
    by_cases c : i = j + 1
    · exact ⟨z, hz, by rw [h, c]⟩
    · have h1 := (lst_iff (n := 9) (by omega) (by omega)).mp h
      rcases rch_fst.mp h1.2.1 with q | ⟨a, ⟨d, hd, q1, q2⟩, q3⟩
      · have := h1.2.2 j (by omega); rw [q] at this; exact absurd this (by decide)
      · have hv := hV.vd hd
        refine ih a (by omega) ?_ ?_ i (by omega)
        · rcases q1 with ⟨_, e⟩ | ⟨_, e⟩ <;> omega
        · refine (lst_iff (n := 9) (by omega) (by omega)).mpr ⟨by omega, q3, fun i hi => ?_⟩
          rw [← Bool.not_eq_true]
          intro q
          have h4 : rch σ w z (i + 1) t = true := rch_fst.mpr (Or.inr ⟨a, ⟨d, hd, q1, q2⟩, q⟩)
          rw [h1.2.2 (i + 1) (by omega)] at h4
          exact absurd h4 (by decide)
theorem dst_le {σ : Sg} {w : Nat → Bool} {z t : Nat} : dst σ w z t ≤ 9 := lst_le (by omega)
theorem dst_lt {σ : Sg} {w : Nat → Bool} {z t : Nat} (hV : InvC σ) (hz : z < nz σ) : dst σ w z t = 9 ∨ dst σ w z t < nz σ := by
  by_cases c : dst σ w z t = 9
  · exact Or.inl c
  · have hl := dst_le (σ := σ) (w := w) (z := z) (t := t)
    have := pig (nz σ) (dst σ w z t + 1) (fun y => dst σ w y t) (dst_down hV _ z (by omega) hz rfl)
    exact Or.inr (by omega)
/-- what the class measures is the least number of doors -/
theorem ml_dst {σ : Sg} {w : Nat → Bool} {z t : Nat} (hV : InvC σ) (hz : z < nz σ) : mlS σ w t (nz σ) z = dst σ w z t := by
  have hn := hV.n
  rw [ml_sp _ (by omega)]
  rcases dst_lt (w := w) (t := t) hV hz with c | c
  · rw [c, lst_9 (by omega)]
    have := (lst_9 (n := 9) (by omega)).mp c
    exact fun i hi => this i (by omega)
  · obtain ⟨j, hj⟩ : ∃ j, dst σ w z t = j := ⟨_, rfl⟩
    rw [hj] at c ⊢
    have h1 := (lst_iff (n := 9) (by omega) (by omega)).mp hj
    exact (lst_iff (by omega) (by omega)).mpr ⟨by omega, h1.2⟩
/-- by a door a zone is one door further at the most -/
theorem dst_adj {σ : Sg} {w : Nat → Bool} {a b t : Nat} (hV : InvC σ) (hb : b < nz σ) (h : stp σ w a b) (h9 : dst σ w b t ≠ 9) : dst σ w a t ≠ 9 ∧ dst σ w a t ≤ dst σ w b t + 1 := by
  have hn := hV.n
  rcases dst_lt (w := w) (t := t) hV hb with c | c
  · exact absurd c h9
  · obtain ⟨j, hj⟩ : ∃ j, dst σ w b t = j := ⟨_, rfl⟩
    rw [hj] at c ⊢
    have h1 := (lst_iff (n := 9) (by omega) (by omega)).mp hj
    have h2 : rch σ w a (j + 1) t = true := rch_fst.mpr (Or.inr ⟨b, h, h1.2.1⟩)
    have hle := dst_le (σ := σ) (w := w) (z := a) (t := t)
    constructor
    · intro q
      have := (lst_9 (n := 9) (by omega)).mp q (j + 1) (by omega)
      rw [h2] at this; exact absurd this (by decide)
    · obtain ⟨i, hi⟩ : ∃ i, dst σ w a t = i := ⟨_, rfl⟩
      rw [hi] at hle ⊢
      by_cases c9 : i = 9
      · have := (lst_9 (n := 9) (by omega)).mp (hi.trans c9) (j + 1) (by omega)
        rw [h2] at this; exact absurd this (by decide)
      · have h3 := (lst_iff (n := 9) (by omega) (by omega)).mp hi
        rcases Nat.lt_or_ge (j + 1) i with q | q
        · rw [h3.2.2 (j + 1) q] at h2; exact absurd h2 (by decide)
        · exact q
