/-! WHAT A HOUSE IS: numbers by field and index; what the document says of it, as functions. -/
theorem s_l : ∀ n, n < 32 → ((nI n &&& 31).toBitVec.smod 32).toNat = n := by decide +kernel
theorem fa_or (a b : Nat) : nI a ||| nI b = nI (a ||| b) := by
  apply Int32.toBitVec_inj.1
  show BitVec.ofNat 32 a ||| BitVec.ofNat 32 b = BitVec.ofNat 32 (a ||| b)
  apply BitVec.eq_of_getLsbD_eq
  intro i hi
  simp [hi]
theorem fa_or_sum {a k : Nat} (b : Nat) (h : a < 2 ^ k) : nI (2 ^ k * b) ||| nI a = nI (2 ^ k * b + a) := by rw [fa_or, Nat.two_pow_add_eq_or_of_lt h]
abbrev Sg : Type := Nat → Nat → Nat
abbrev nz (σ : Sg) : Nat := σ 0 0
abbrev nd (σ : Sg) : Nat := σ 0 1
abbrev nb (σ : Sg) : Nat := σ 0 2
abbrev ns (σ : Sg) (b : Nat) : Nat := σ 0 (3 + b)
abbrev mi (σ : Sg) : Nat := σ 1 0
abbrev al (σ : Sg) : Nat := σ 1 1
abbrev mv (σ : Sg) : Nat := σ 1 2
abbrev cap (σ : Sg) : Nat → Nat := σ 2
abbrev beg (σ : Sg) : Nat → Nat := σ 3
abbrev fin (σ : Sg) : Nat → Nat := σ 4
abbrev sda (σ : Sg) : Nat → Nat := σ 5
abbrev sdb (σ : Sg) : Nat → Nat := σ 6
abbrev hold (σ : Sg) : Nat → Nat := σ 7
abbrev lock (σ : Sg) : Nat → Nat := σ 8
abbrev shut (σ : Sg) : Nat → Nat := σ 9
abbrev plc (σ : Sg) : Nat → Nat := σ 10
abbrev rgt (σ : Sg) : Nat → Nat := σ 11
abbrev hst (σ : Sg) : Nat → Nat := σ 12
abbrev blk (σ : Sg) : Nat → Nat := σ 13
abbrev rfs (σ : Sg) : Nat → Nat := σ 14
abbrev lgb (σ : Sg) : Nat → Nat := σ 15
abbrev lgm (σ : Sg) : Nat → Nat := σ 16
abbrev lgz (σ : Sg) : Nat → Nat := σ 17
abbrev syz (σ : Sg) (b : Nat) : Nat → Nat := σ (20 + b)
abbrev sys (σ : Sg) (b : Nat) : Nat → Nat := σ (40 + b)
def up (σ : Sg) (f i v : Nat) : Sg := fun g j => if g = f ∧ j = i then v else σ g j
theorem up_eq (σ : Sg) (f i v : Nat) : up σ f i v f i = v := if_pos ⟨rfl, rfl⟩
theorem up_f (σ : Sg) {f i v g j : Nat} (h : g ≠ f) : up σ f i v g j = σ g j := if_neg (fun q => h q.1)
theorem up_i (σ : Sg) {f i v g j : Nat} (h : j ≠ i) : up σ f i v g j = σ g j := if_neg (fun q => h q.2)
theorem up_ap (σ : Sg) (f i v g j : Nat) : up σ f i v g j = if g = f ∧ j = i then v else σ g j := rfl
theorem up_ff (σ : Sg) {f i v g : Nat} (h : g ≠ f) : up σ f i v g = σ g := by funext j; exact up_f σ h
/-- a set of numbers below n, as the sum of their powers of two -/
def bset (p : Nat → Bool) : Nat → Nat
  | 0 => 0
  | n + 1 => bset p n + (if p n then 2 ^ n else 0)
def tod (σ : Sg) : Nat := mi σ % 1440
def opn (σ : Sg) (z : Nat) : Bool := if fin σ z < beg σ z then decide (beg σ z ≤ tod σ) || decide (tod σ < fin σ z) else decide (beg σ z ≤ tod σ) && decide (tod σ < fin σ z)
def insB (σ : Sg) (z : Nat) : Nat := bset (fun b => decide (plc σ b = z)) (nb σ)
def lft (σ : Sg) (d : Nat) : Nat := shut σ d - mi σ
def rgs (σ : Sg) (b : Nat) : Nat := if hst σ b = 0 then rgt σ b else rgt σ (hst σ b - 1)
def hasR (σ : Sg) (b z : Nat) : Bool := decide (z = 0) || decide (rgs σ b / 2 ^ z % 2 = 1)
/-- the other side of a door; z + 1, 0 for none -/
def oth (σ : Sg) (d z : Nat) : Nat := if sda σ d = z then sdb σ d + 1 else if sdb σ d = z then sda σ d + 1 else 0
def exF (p : Nat → Bool) : Nat → Bool
  | 0 => false
  | n + 1 => exF p n || p n
def excl (σ : Sg) (d : Nat) : Bool := exF (fun e => decide (e ≠ d) && (decide (lock σ e ≠ 0) && (decide (lock σ e = lock σ d) && decide (0 < lft σ e)))) (nd σ)
def noHost (σ : Sg) (b g : Nat) : Bool := decide (hst σ b ≠ 0) && (decide (g ≠ 0) && (decide (plc σ (hst σ b - 1) ≠ plc σ b) && decide (plc σ (hst σ b - 1) ≠ g)))
def leav (σ : Sg) (b : Nat) : Bool := exF (fun v => decide (hst σ v = b + 1) && (decide (plc σ v = plc σ b) && decide (plc σ b ≠ 0))) (nb σ)
/-- ways: the zones that are entered by k doors or less -/
def rchN (σ : Sg) (ok : Nat → Bool) (F : Nat → Bool) (v : Nat) : Bool := F v || exF (fun d => (F (sda σ d) && (ok (sdb σ d) && decide (sdb σ d = v))) || (F (sdb σ d) && (ok (sda σ d) && decide (sda σ d = v)))) (nd σ)
def rch (σ : Sg) (ok : Nat → Bool) (u : Nat) : Nat → Nat → Bool
  | 0 => fun v => decide (u = v)
  | k + 1 => rchN σ ok (rch σ ok u k)
/-- the least k below n with p, else 9 -/
def lst (p : Nat → Bool) : Nat → Nat → Nat
  | 0, _ => 9
  | n + 1, k => if p k then k else lst p n (k + 1)
/-- the least number of doors from u to t where ok zones are entered; 9: no way -/
def dst (σ : Sg) (ok : Nat → Bool) (u t : Nat) : Nat := lst (fun k => rch σ ok u k t) 9 0
def dI (k : Nat) : Int32 := if k = 9 then -1 else nI k
def okA : Nat → Bool := fun _ => true
def okB (σ : Sg) (b : Nat) : Nat → Bool := fun z => opn σ z && hasR σ b z
def ansP (σ : Sg) (b d g : Nat) : Nat := if hasR σ b g = false then 2 else if opn σ g = false then 3 else if cap σ g ≤ popc (insB σ g) then 4 else if excl σ d then 5 else if noHost σ b g then 6 else if leav σ b then 7 else 0
def ansA (σ : Sg) (b g : Nat) : Nat := if dst σ okA g 0 < dst σ okA (plc σ b) 0 then (if noHost σ b g then 6 else 0) else 9
def ans (σ : Sg) (b d : Nat) : Nat := if blk σ b = 1 then 8 else if oth σ d (plc σ b) = 0 then 1 else if al σ = 1 then ansA σ b (oth σ d (plc σ b) - 1) else ansP σ b d (oth σ d (plc σ b) - 1)
def aln (σ : Sg) : Nat := bset (fun b => decide (hst σ b ≠ 0) && (decide (plc σ b ≠ 0) && decide (plc σ b ≠ plc σ (hst σ b - 1)))) (nb σ)
/-- the zone at the end of minute t: by the log's first n moves, by the stays' first n -/
def lkL (σ : Sg) (b t : Nat) : Nat → Nat
  | 0 => 0
  | k + 1 => if lgb σ k = b ∧ lgm σ k ≤ t then lgz σ k else lkL σ b t k
def lkS (σ : Sg) (b t : Nat) : Nat → Nat
  | 0 => 0
  | k + 1 => if sys σ b k ≤ t then syz σ b k else lkS σ b t k
/-- how many t below n have p -/
def cntT (p : Nat → Bool) : Nat → Nat
  | 0 => 0
  | n + 1 => cntT p n + (if p n then 1 else 0)
def minZ (σ : Sg) (b z : Nat) : Nat := cntT (fun t => decide (lkL σ b t (mv σ) = z)) (mi σ)
def pres (σ : Sg) : UInt64 := if nb σ = 0 then 0 else FP.ddiv (FP.i2d (nI (nb σ - popc (insB σ 0)))) (FP.i2d (nI (nb σ)))
def wayI (σ : Sg) (b z : Nat) : Int32 := dI (dst σ (okB σ b) (plc σ b) z)
/-- the smallest door below n that begins a way of least doors -/
def nxD (σ : Sg) (b z d : Nat) : Bool := decide (oth σ d (plc σ b) ≠ 0) && (okB σ b (oth σ d (plc σ b) - 1) && decide (dst σ (okB σ b) (oth σ d (plc σ b) - 1) z + 1 = dst σ (okB σ b) (plc σ b) z))
def fstD (p : Nat → Bool) : Nat → Nat → Int32
  | 0, _ => -1
  | n + 1, k => if p k then nI k else fstD p n (k + 1)
def nxtI (σ : Sg) (b z : Nat) : Int32 := if dst σ (okB σ b) (plc σ b) z = 9 ∨ dst σ (okB σ b) (plc σ b) z = 0 then -1 else fstD (nxD σ b z) (nd σ) 0
def canC (σ : Sg) (z : Nat) : Nat := bset (fun b => decide (dst σ (okB σ b) (plc σ b) z ≠ 9)) (nb σ)
def tel (σ : Sg) (b w : Nat) : Int32 := match w with
  | 0 => nI (plc σ b)
  | 1 => nI (rgs σ b)
  | 2 => if hst σ b = 0 then -1 else nI (hst σ b - 1)
  | 3 => nI (blk σ b)
  | _ => nI (rfs σ b)
def dgA (d : Int64) (x : Int32) : Int64 := d * 31 + x.toInt64
def dgZ (σ : Sg) (d : Int64) : Nat → Int64
  | 0 => d
  | n + 1 => dgA (dgA (dgZ σ d n) (b2i (opn σ n))) (nI (insB σ n))
def dgD (σ : Sg) (d : Int64) : Nat → Int64
  | 0 => d
  | n + 1 => dgA (dgD σ d n) (nI (lft σ n))
def dgT (σ : Sg) (b : Nat) (d : Int64) : Nat → Int64
  | 0 => d
  | n + 1 => dgA (dgT σ b d n) (tel σ b n)
def dgB (σ : Sg) (d : Int64) : Nat → Int64
  | 0 => d
  | n + 1 => dgT σ n (dgB σ d n) 5
def dig (σ : Sg) : Int64 := dgB σ (dgA (dgD σ (dgA (dgZ σ (dgA (dgA (dgA 179 (nI (mi σ))) (nI (al σ))) (nI (nz σ))) (nz σ)) (nI (nd σ))) (nd σ)) (nI (nb σ))) (nb σ)
/-- what every house keeps -/
def InvC (σ : Sg) : Prop := (1 ≤ nz σ ∧ nz σ ≤ 8 ∧ nd σ ≤ 12 ∧ nb σ ≤ 10 ∧ mi σ ≤ 99999 ∧ al σ ≤ 1) ∧ (∀ z, z < nz σ → 1 ≤ cap σ z ∧ cap σ z ≤ 20 ∧ beg σ z ≤ 1439 ∧ fin σ z ≤ 1440 ∧ beg σ z ≠ fin σ z) ∧ (cap σ 0 = 11 ∧ beg σ 0 = 0 ∧ fin σ 0 = 1440) ∧ (∀ d, d < nd σ → sda σ d < nz σ ∧ sdb σ d < nz σ ∧ sda σ d ≠ sdb σ d ∧ hold σ d ≤ 9 ∧ lock σ d ≤ 3 ∧ shut σ d ≤ 200000) ∧ (∀ b, b < nb σ → plc σ b < nz σ ∧ rgt σ b ≤ 255 ∧ hst σ b ≤ b ∧ (hst σ b ≠ 0 → hst σ (hst σ b - 1) = 0) ∧ blk σ b ≤ 1 ∧ rfs σ b ≤ 3 ∧ (blk σ b = 0 → rfs σ b ≤ 2))
/-- .. of the stays, where at most n were begun -/
def InvS (σ : Sg) (n : Nat) : Prop := ∀ b, b < nb σ → 1 ≤ ns σ b ∧ ns σ b ≤ n + 1 ∧ sys σ b 0 = 0 ∧ (∀ i, i + 1 < ns σ b → sys σ b i < sys σ b (i + 1)) ∧ sys σ b (ns σ b - 1) ≤ mi σ ∧ (∀ i, i < ns σ b → syz σ b i < nz σ) ∧ syz σ b (ns σ b - 1) = plc σ b
/-- .. of the log -/
def InvL (σ : Sg) (n : Nat) : Prop := mv σ ≤ n ∧ (∀ k, k < mv σ → lgb σ k < nb σ ∧ lgm σ k ≤ mi σ ∧ lgz σ k < nz σ) ∧ (∀ k, k + 1 < mv σ → lgm σ k ≤ lgm σ (k + 1))
/-- both tell the same past -/
def InvP (σ : Sg) : Prop := ∀ b, b < nb σ → ∀ t, lkS σ b t (ns σ b) = lkL σ b t (mv σ)
-- plain facts of them
theorem bset_lt (p : Nat → Bool) : ∀ n, bset p n < 2 ^ n
  | 0 => Nat.one_pos
  | n + 1 => by
    have h := bset_lt p n
    have h2 : 2 ^ (n + 1) = 2 ^ n + 2 ^ n := by rw [Nat.pow_succ]; omega
    unfold bset
    split <;> omega
theorem bset_bit (p : Nat → Bool) : ∀ n i, bset p n / 2 ^ i % 2 = 1 ↔ i < n ∧ p i = true
  | 0, i => by simp [bset]
  | n + 1, i => by
    have ih := bset_bit p n i
    have hl := bset_lt p n
    unfold bset
    rcases Nat.lt_trichotomy i n with h | h | h
    · have e : 2 ^ n = 2 ^ i * 2 ^ (n - i) := by rw [← Nat.pow_add]; congr 1; omega
      have ev : 2 ^ (n - i) % 2 = 0 := by
        have : n - i = (n - i - 1) + 1 := by omega
        rw [this, Nat.pow_succ, Nat.mul_mod_left]
      have : (bset p n + (if p n then 2 ^ n else 0)) / 2 ^ i % 2 = bset p n / 2 ^ i % 2 := by
        split
        · rw [e, Nat.add_mul_div_left _ _ (Nat.pow_pos (by decide)), Nat.add_mod, ev, Nat.add_zero, Nat.mod_mod]
        · rw [Nat.add_zero]
      rw [this, ih]
      constructor
      · rintro ⟨_, h2⟩; exact ⟨by omega, h2⟩
      · rintro ⟨_, h2⟩; exact ⟨h, h2⟩
    · subst h
      have : bset p i / 2 ^ i = 0 := Nat.div_eq_of_lt hl
      by_cases hp : p i = true
      · rw [if_pos hp, Nat.add_div_right _ (Nat.pow_pos (by decide)), this]
        simp [hp]
      · rw [if_neg hp, Nat.add_zero, this]
        simp [hp]
    · have h2 : bset p n + (if p n then 2 ^ n else 0) < 2 ^ (n + 1) := by
        have := bset_lt p (n + 1)
        unfold bset at this
        exact this
      have h3 : bset p n + (if p n then 2 ^ n else 0) < 2 ^ i := Nat.lt_of_lt_of_le h2 (Nat.pow_le_pow_right (by decide) (by omega))
      rw [Nat.div_eq_of_lt h3]
      constructor
      · intro h4; cases h4
      · rintro ⟨h4, _⟩; omega
theorem bset_congr {p q : Nat → Bool} : ∀ {n : Nat}, (∀ i, i < n → p i = q i) → bset p n = bset q n
  | 0, _ => rfl
  | n + 1, h => by unfold bset; rw [bset_congr (fun i hi => h i (by omega)), h n (by omega)]
theorem exF_iff (p : Nat → Bool) : ∀ n, exF p n = true ↔ ∃ i, i < n ∧ p i = true
  | 0 => by simp [exF]
  | n + 1 => by
    unfold exF
    rw [Bool.or_eq_true, exF_iff p n]
    constructor
    · rintro (⟨i, h1, h2⟩ | h)
      · exact ⟨i, by omega, h2⟩
      · exact ⟨n, by omega, h⟩
    · rintro ⟨i, h1, h2⟩
      by_cases e : i = n
      · subst e; exact Or.inr h2
      · exact Or.inl ⟨i, by omega, h2⟩
theorem insB_lt {σ : Sg} (h : nb σ ≤ 10) (z : Nat) : insB σ z < 1024 := Nat.lt_of_lt_of_le (bset_lt _ _) (Nat.pow_le_pow_right (n := 2) (by decide) h)
theorem popc_le : ∀ n, n < 1024 → popc n ≤ 10 := by decide +kernel
/-- one more bit, as the class sets it -/
theorem bit_or : ∀ i, i < 31 → ∀ s : Nat, s < 2 ^ i → nI s ||| (nI 1 <<< (nI i &&& 31)) = nI (s + 2 ^ i) := by
  intro i hi s hs
  have e1 : nI 1 <<< (nI i &&& 31) = nI (2 ^ i) := by
    have k := pk_shlN (n := 1) (nI i &&& 31) i ?_ ?_
    · rw [Nat.one_mul] at k; exact k
    · exact s_l i (by omega)
    · rw [Nat.one_mul]; exact Nat.pow_lt_pow_right (by decide) (by omega)
  have e2 : nI (2 ^ i * 1) ||| nI s = nI (2 ^ i * 1 + s) := fa_or_sum 1 hs
  rw [Nat.mul_one] at e2
  rw [e1, show nI s ||| nI (2 ^ i) = nI (2 ^ i) ||| nI s from Int32.or_comm _ _, e2, Nat.add_comm]
/-- a bit, as both ask for it -/
theorem bit_at {s i : Nat} (hs : s < 2 ^ 31) (hi : i < 31) : (nI s >>> (nI i &&& 31)) &&& nI 1 = nI (s / 2 ^ i % 2) := by
  rw [pk_shrN hs (nI i &&& 31) i (s_l i (by omega)), pk_andN (by have := Nat.div_le_self s (2 ^ i); omega) 1 (by decide), Nat.pow_one]
