/-! THE LAYER: one pool of objects and arrays for the whole run; a judgement At over the pool, locals and stack alone; contracts Ct from pool to pool. -/
abbrev Ids : Type := va_G × (ClassId × ClassId × ClassId × ClassId) × Nat × Nat
/-- the pool: addresses, the kind of each (0 to 6 the class of that place in vwCl; 7 ints, 8 booleans, 9 references, 10 longs), fields by slot and address, lengths, rows -/
abbrev Ps : Type := List Nat × (Nat → Nat) × (Nat → Nat → Value) × (Nat → Nat) × (Nat → Nat → Int32) × (Nat → Nat → Option Nat) × (Nat → Nat → Int64)
def pL (S : Ps) : List Nat := S.1
def pK (S : Ps) : Nat → Nat := S.2.1
def pF (S : Ps) : Nat → Nat → Value := S.2.2.1
def pN (S : Ps) : Nat → Nat := S.2.2.2.1
def pI (S : Ps) : Nat → Nat → Int32 := S.2.2.2.2.1
def pR (S : Ps) : Nat → Nat → Option Nat := S.2.2.2.2.2.1
def pJ (S : Ps) : Nat → Nat → Int64 := S.2.2.2.2.2.2
def isK (S : Ps) (k a : Nat) : Prop := a ∈ pL S ∧ pK S a = k
def nSl (k : Nat) : Nat := match k with | 0 => 3 | 1 => 7 | 2 => 5 | 3 => 2 | 4 => 6 | 5 => 6 | _ => 20
/-- what a new object of a kind holds -/
def dfl (k : Nat) : List Value := match k with
  | 0 => [.int 0, .null, .int 0]
  | 1 => [.int 0, .null, .null, .null, .int 0, .int 0, .int 0]
  | 2 => [.null, .null, .int 0, .int 0, .int 0]
  | 3 => [.null, .int 0]
  | 4 => [.int 0, .int 0, .int 0, .int 0, .int 0, .int 0]
  | 5 => [.null, .null, .null, .null, .int 0, .int 0]
  | _ => [.int 0, .int 0, .int 0, .int 0, .null, .null, .null, .int 0, .null, .null, .null, .null, .int 0, .null, .null, .null, .null, .null, .int 0, .null]
def pE (G : Ids) (S : Ps) (a : Nat) : va_E :=
  if pK S a = 7 then .inl (G.2.1.1, pN S a, .inl (pI S a)) else if pK S a = 8 then .inl (G.2.1.2.1, pN S a, .inl (pI S a)) else if pK S a = 9 then .inl (G.2.1.2.2.1, pN S a, .inr (.inr (.inr (.inr (pR S a))))) else if pK S a = 10 then .inl (G.2.1.2.2.2, pN S a, .inr (.inl (pJ S a))) else .inr (pK S a, (List.range (nSl (pK S a))).map (fun j => pF S j a))
def pW (G : Ids) (S : Ps) : va_W := [] ++ va_pl (pL S) (pE G S)
def tysG (G : Ids) : List (ClassId × FieldType) := [(G.2.1.1, .int), (G.2.1.1, .int), (G.2.1.2.2.1, .object "java/lang/Object"), (G.2.1.1, .int)]
-- changes
def sF (S : Ps) (j a : Nat) (v : Value) : Ps := (S.1, S.2.1, (fun i b => if i = j ∧ b = a then v else S.2.2.1 i b), S.2.2.2)
def sI (S : Ps) (a i : Nat) (x : Int32) : Ps := (S.1, S.2.1, S.2.2.1, S.2.2.2.1, (fun b k => if b = a ∧ k = i then x else S.2.2.2.2.1 b k), S.2.2.2.2.2)
def sR (S : Ps) (a i : Nat) (x : Option Nat) : Ps := (S.1, S.2.1, S.2.2.1, S.2.2.2.1, S.2.2.2.2.1, (fun b k => if b = a ∧ k = i then x else S.2.2.2.2.2.1 b k), S.2.2.2.2.2.2)
def sJ (S : Ps) (a i : Nat) (x : Int64) : Ps := (S.1, S.2.1, S.2.2.1, S.2.2.2.1, S.2.2.2.2.1, S.2.2.2.2.2.1, (fun b k => if b = a ∧ k = i then x else S.2.2.2.2.2.2 b k))
/-- the whole row of ints, of references, at a -/
def sIs (S : Ps) (a : Nat) (f : Nat → Int32) : Ps := (S.1, S.2.1, S.2.2.1, S.2.2.2.1, (fun b => if b = a then f else S.2.2.2.2.1 b), S.2.2.2.2.2)
def sRs (S : Ps) (a : Nat) (f : Nat → Option Nat) : Ps := (S.1, S.2.1, S.2.2.1, S.2.2.2.1, S.2.2.2.2.1, (fun b => if b = a then f else S.2.2.2.2.2.1 b), S.2.2.2.2.2.2)
def nwO (S : Ps) (a k : Nat) : Ps := (S.1 ++ [a], (fun b => if b = a then k else S.2.1 b), (fun i b => if b = a then (dfl k).getD i .null else S.2.2.1 i b), S.2.2.2)
def nwA (S : Ps) (a k n : Nat) : Ps := (S.1 ++ [a], (fun b => if b = a then k else S.2.1 b), S.2.2.1, (fun b => if b = a then n else S.2.2.2.1 b), (fun b i => if b = a then 0 else S.2.2.2.2.1 b i), (fun b i => if b = a then none else S.2.2.2.2.2.1 b i), (fun b i => if b = a then 0 else S.2.2.2.2.2.2 b i))
section
variable (S : Ps) (j a : Nat) (v : Value) (i : Nat)
theorem pL_sF : pL (sF S j a v) = pL S := rfl
theorem pK_sF : pK (sF S j a v) = pK S := rfl
theorem pN_sF : pN (sF S j a v) = pN S := rfl
theorem pI_sF : pI (sF S j a v) = pI S := rfl
theorem pR_sF : pR (sF S j a v) = pR S := rfl
theorem pJ_sF : pJ (sF S j a v) = pJ S := rfl
theorem pF_sF (k b : Nat) : pF (sF S j a v) k b = if k = j ∧ b = a then v else pF S k b := rfl
theorem pF_sF_eq : pF (sF S j a v) j a = v := if_pos ⟨rfl, rfl⟩
theorem pF_sF_ne {k b : Nat} (h : ¬ (k = j ∧ b = a)) : pF (sF S j a v) k b = pF S k b := if_neg h
theorem pF_sF_j {k b : Nat} (h : k ≠ j) : pF (sF S j a v) k b = pF S k b := if_neg (fun q => h q.1)
theorem pF_sF_a {k b : Nat} (h : b ≠ a) : pF (sF S j a v) k b = pF S k b := if_neg (fun q => h q.2)
variable (x : Int32)
theorem pL_sI : pL (sI S a i x) = pL S := rfl
theorem pK_sI : pK (sI S a i x) = pK S := rfl
theorem pN_sI : pN (sI S a i x) = pN S := rfl
theorem pF_sI : pF (sI S a i x) = pF S := rfl
theorem pR_sI : pR (sI S a i x) = pR S := rfl
theorem pJ_sI : pJ (sI S a i x) = pJ S := rfl
theorem pI_sI (b k : Nat) : pI (sI S a i x) b k = if b = a ∧ k = i then x else pI S b k := rfl
variable (r : Option Nat)
theorem pL_sR : pL (sR S a i r) = pL S := rfl
theorem pK_sR : pK (sR S a i r) = pK S := rfl
theorem pN_sR : pN (sR S a i r) = pN S := rfl
theorem pF_sR : pF (sR S a i r) = pF S := rfl
theorem pI_sR : pI (sR S a i r) = pI S := rfl
theorem pJ_sR : pJ (sR S a i r) = pJ S := rfl
theorem pR_sR (b k : Nat) : pR (sR S a i r) b k = if b = a ∧ k = i then r else pR S b k := rfl
variable (y : Int64)
theorem pL_sJ : pL (sJ S a i y) = pL S := rfl
theorem pK_sJ : pK (sJ S a i y) = pK S := rfl
theorem pN_sJ : pN (sJ S a i y) = pN S := rfl
theorem pF_sJ : pF (sJ S a i y) = pF S := rfl
theorem pI_sJ : pI (sJ S a i y) = pI S := rfl
theorem pR_sJ : pR (sJ S a i y) = pR S := rfl
theorem pJ_sJ (b k : Nat) : pJ (sJ S a i y) b k = if b = a ∧ k = i then y else pJ S b k := rfl
variable (f : Nat → Int32) (g : Nat → Option Nat)
theorem pL_sIs : pL (sIs S a f) = pL S := rfl
theorem pK_sIs : pK (sIs S a f) = pK S := rfl
theorem pN_sIs : pN (sIs S a f) = pN S := rfl
theorem pF_sIs : pF (sIs S a f) = pF S := rfl
theorem pR_sIs : pR (sIs S a f) = pR S := rfl
theorem pJ_sIs : pJ (sIs S a f) = pJ S := rfl
theorem pI_sIs (b : Nat) : pI (sIs S a f) b = if b = a then f else pI S b := rfl
theorem pL_sRs : pL (sRs S a g) = pL S := rfl
theorem pK_sRs : pK (sRs S a g) = pK S := rfl
theorem pN_sRs : pN (sRs S a g) = pN S := rfl
theorem pF_sRs : pF (sRs S a g) = pF S := rfl
theorem pI_sRs : pI (sRs S a g) = pI S := rfl
theorem pJ_sRs : pJ (sRs S a g) = pJ S := rfl
theorem pR_sRs (b : Nat) : pR (sRs S a g) b = if b = a then g else pR S b := rfl
variable (k n : Nat)
theorem pL_nwO : pL (nwO S a k) = pL S ++ [a] := rfl
theorem pK_nwO (b : Nat) : pK (nwO S a k) b = if b = a then k else pK S b := rfl
theorem pF_nwO (i b : Nat) : pF (nwO S a k) i b = if b = a then (dfl k).getD i .null else pF S i b := rfl
theorem pN_nwO : pN (nwO S a k) = pN S := rfl
theorem pI_nwO : pI (nwO S a k) = pI S := rfl
theorem pR_nwO : pR (nwO S a k) = pR S := rfl
theorem pJ_nwO : pJ (nwO S a k) = pJ S := rfl
theorem pL_nwA : pL (nwA S a k n) = pL S ++ [a] := rfl
theorem pK_nwA (b : Nat) : pK (nwA S a k n) b = if b = a then k else pK S b := rfl
theorem pF_nwA : pF (nwA S a k n) = pF S := rfl
theorem pN_nwA (b : Nat) : pN (nwA S a k n) b = if b = a then n else pN S b := rfl
theorem pI_nwA (b i : Nat) : pI (nwA S a k n) b i = if b = a then 0 else pI S b i := rfl
theorem pR_nwA (b i : Nat) : pR (nwA S a k n) b i = if b = a then none else pR S b i := rfl
theorem pJ_nwA (b i : Nat) : pJ (nwA S a k n) b i = if b = a then 0 else pJ S b i := rfl
end
theorem isK_sF {S : Ps} {j a k b : Nat} {v : Value} : isK (sF S j a v) k b ↔ isK S k b := Iff.rfl
theorem isK_sI {S : Ps} {a i k b : Nat} {v : Int32} : isK (sI S a i v) k b ↔ isK S k b := Iff.rfl
theorem isK_sR {S : Ps} {a i k b : Nat} {v : Option Nat} : isK (sR S a i v) k b ↔ isK S k b := Iff.rfl
theorem isK_sJ {S : Ps} {a i k b : Nat} {v : Int64} : isK (sJ S a i v) k b ↔ isK S k b := Iff.rfl
theorem isK_sIs {S : Ps} {a k b : Nat} {f : Nat → Int32} : isK (sIs S a f) k b ↔ isK S k b := Iff.rfl
theorem isK_sRs {S : Ps} {a k b : Nat} {f : Nat → Option Nat} : isK (sRs S a f) k b ↔ isK S k b := Iff.rfl
theorem isK_nwO {S : Ps} {a k k' b : Nat} (h : isK S k' b) (ha : a ∉ pL S) : isK (nwO S a k) k' b := ⟨List.mem_append_left _ h.1, by rw [pK_nwO, if_neg (fun (q : b = a) => ha (q ▸ h.1))]; exact h.2⟩
theorem isK_nwA {S : Ps} {a k n k' b : Nat} (h : isK S k' b) (ha : a ∉ pL S) : isK (nwA S a k n) k' b := ⟨List.mem_append_left _ h.1, by rw [pK_nwA, if_neg (fun (q : b = a) => ha (q ▸ h.1))]; exact h.2⟩
theorem isK_nwO' {S : Ps} {a k : Nat} : isK (nwO S a k) k a := ⟨List.mem_append_right _ List.mem_cons_self, by rw [pK_nwO, if_pos rfl]⟩
theorem isK_nwA' {S : Ps} {a k n : Nat} : isK (nwA S a k n) k a := ⟨List.mem_append_right _ List.mem_cons_self, by rw [pK_nwA, if_pos rfl]⟩
theorem isK_ne {S : Ps} {k k' a b : Nat} (h : isK S k a) (h' : isK S k' b) (n : k ≠ k') : a ≠ b := fun e => n (h.2.symm.trans ((congrArg (pK S) e).trans h'.2))
theorem isK_fr {S : Ps} {k a b : Nat} (h : isK S k b) (ha : a ∉ pL S) : b ≠ a := fun e => ha (e ▸ h.1)
-- the entries of the pool
theorem pE_O {G : Ids} {S : Ps} {k a : Nat} (h : pK S a = k) (hk : k < 7) : pE G S a = .inr (k, (List.range (nSl k)).map (fun j => pF S j a)) := by
  subst h
  unfold pE
  rw [if_neg (by omega), if_neg (by omega), if_neg (by omega), if_neg (by omega)]
theorem pE_I {G : Ids} {S : Ps} {a : Nat} (h : pK S a = 7) : pE G S a = .inl (G.2.1.1, pN S a, .inl (pI S a)) := by unfold pE; rw [if_pos h]
theorem pE_Z {G : Ids} {S : Ps} {a : Nat} (h : pK S a = 8) : pE G S a = .inl (G.2.1.2.1, pN S a, .inl (pI S a)) := by unfold pE; rw [if_neg (by omega), if_pos h]
theorem pE_R {G : Ids} {S : Ps} {a : Nat} (h : pK S a = 9) : pE G S a = .inl (G.2.1.2.2.1, pN S a, .inr (.inr (.inr (.inr (pR S a))))) := by unfold pE; rw [if_neg (by omega), if_neg (by omega), if_pos h]
theorem pE_J {G : Ids} {S : Ps} {a : Nat} (h : pK S a = 10) : pE G S a = .inl (G.2.1.2.2.2, pN S a, .inr (.inl (pJ S a))) := by unfold pE; rw [if_neg (by omega), if_neg (by omega), if_neg (by omega), if_pos h]
theorem pW_get {G : Ids} {S : Ps} {a : Nat} (h : a ∈ pL S) : ∃ k : Nat, (pW G S)[k]? = some (a, pE G S a) := va_pl_get h
theorem pW_set {A : Nat → Prop} {G : Ids} {S S' : Ps} {a k : Nat} {e : va_E} (hD : va_D A (pW G S)) (h : a ∈ pL S) (hk : (pW G S)[k]? = some (a, pE G S a)) (hL : pL S' = pL S) (he : pE G S' a = e) (ho : ∀ b, b ≠ a → pE G S' b = pE G S b) : (pW G S).set k (a, e) = pW G S' := by
  unfold pW at hD hk ⊢
  rw [va_pl_set hD h hk, hL]
  refine congrArg (fun l => [] ++ l) (va_pl_congr (fun b => ?_))
  by_cases hb : b = a
  · subst hb; rw [va_up_self, he]
  · rw [va_up_ne _ _ hb, ho b hb]
theorem pW_push {G : Ids} {S S' : Ps} {a : Nat} {e : va_E} (h : a ∉ pL S) (hL : pL S' = pL S ++ [a]) (he : pE G S' a = e) (ho : ∀ b, b ≠ a → pE G S' b = pE G S b) : pW G S ++ [(a, e)] = pW G S' := by
  unfold pW
  rw [List.append_assoc, va_pl_push h, hL]
  refine congrArg (fun l => [] ++ l) (va_pl_congr (fun b => ?_))
  by_cases hb : b = a
  · subst hb; rw [va_up_self, he]
  · rw [va_up_ne _ _ hb, ho b hb]
theorem pE_sF {G : Ids} {S : Ps} {j a k : Nat} {v : Value} (h : pK S a = k) (hk : k < 7) (hj : j < nSl k) : pE G (sF S j a v) a = .inr (k, ((List.range (nSl k)).map (fun i => pF S i a)).set j v) := by
  rw [pE_O (S := sF S j a v) (k := k) h hk]
  congr 2
  apply List.ext_getElem?
  intro i
  by_cases hi : i < nSl k
  · by_cases hij : i = j
    · subst hij
      rw [List.getElem?_set_self (by simp; exact hi)]
      simp [hi, pF_sF]
    · rw [List.getElem?_set_ne (Ne.symm hij)]
      simp [hi, pF_sF, hij]
  · rw [List.getElem?_eq_none (by simp; omega), List.getElem?_eq_none (by simp; omega)]
theorem pE_sF_ne {G : Ids} {S : Ps} {j a b : Nat} {v : Value} (h : b ≠ a) : pE G (sF S j a v) b = pE G S b := by
  unfold pE
  simp only [pK_sF, pN_sF, pI_sF, pR_sF, pJ_sF, pF_sF, h, and_false, if_false]
theorem pE_sI_ne {G : Ids} {S : Ps} {i a b : Nat} {v : Int32} (h : b ≠ a) : pE G (sI S a i v) b = pE G S b := by
  have e : pI (sI S a i v) b = pI S b := by funext k; rw [pI_sI, if_neg (fun q => h q.1)]
  unfold pE
  simp only [pK_sI, pN_sI, e, pR_sI, pJ_sI, pF_sI]
  try rfl
theorem pE_sR_ne {G : Ids} {S : Ps} {i a b : Nat} {v : Option Nat} (h : b ≠ a) : pE G (sR S a i v) b = pE G S b := by
  have e : pR (sR S a i v) b = pR S b := by funext k; rw [pR_sR, if_neg (fun q => h q.1)]
  unfold pE
  simp only [pK_sR, pN_sR, e, pI_sR, pJ_sR, pF_sR]
  try rfl
theorem pE_sJ_ne {G : Ids} {S : Ps} {i a b : Nat} {v : Int64} (h : b ≠ a) : pE G (sJ S a i v) b = pE G S b := by
  have e : pJ (sJ S a i v) b = pJ S b := by funext k; rw [pJ_sJ, if_neg (fun q => h q.1)]
  unfold pE
  simp only [pK_sJ, pN_sJ, e, pI_sJ, pR_sJ, pF_sJ]
  try rfl
theorem pE_sIs_ne {G : Ids} {S : Ps} {a b : Nat} {f : Nat → Int32} (h : b ≠ a) : pE G (sIs S a f) b = pE G S b := by
  unfold pE
  simp only [pK_sIs, pN_sIs, pI_sIs, pR_sIs, pJ_sIs, pF_sIs, if_neg h]
  try rfl
theorem pE_sRs_ne {G : Ids} {S : Ps} {a b : Nat} {f : Nat → Option Nat} (h : b ≠ a) : pE G (sRs S a f) b = pE G S b := by
  unfold pE
  simp only [pK_sRs, pN_sRs, pI_sRs, pR_sRs, pJ_sRs, pF_sRs, if_neg h]
  try rfl
theorem pE_nwO_ne {G : Ids} {S : Ps} {k a b : Nat} (h : b ≠ a) : pE G (nwO S a k) b = pE G S b := by
  unfold pE
  simp only [pK_nwO, pN_nwO, pI_nwO, pR_nwO, pJ_nwO, pF_nwO, if_neg h]
theorem pE_nwA_ne {G : Ids} {S : Ps} {k n a b : Nat} (h : b ≠ a) : pE G (nwA S a k n) b = pE G S b := by
  have e1 : pI (nwA S a k n) b = pI S b := by funext i; rw [pI_nwA, if_neg h]
  have e2 : pR (nwA S a k n) b = pR S b := by funext i; rw [pR_nwA, if_neg h]
  have e3 : pJ (nwA S a k n) b = pJ S b := by funext i; rw [pJ_nwA, if_neg h]
  unfold pE
  simp only [pK_nwA, pN_nwA, e1, e2, e3, pF_nwA, if_neg h]
theorem dfl_len (k : Nat) : (dfl k).length = nSl k := by
  unfold dfl nSl
  split <;> rfl
theorem pE_nwO {G : Ids} {S : Ps} {k a : Nat} (hk : k < 7) : pE G (nwO S a k) a = .inr (k, dfl k) := by
  rw [pE_O (k := k) (by rw [pK_nwO, if_pos rfl]) hk]
  congr 2
  apply List.ext_getElem?
  intro i
  by_cases hi : i < nSl k
  · simp only [List.getElem?_map, List.getElem?_range hi, Option.map_some, pF_nwO, if_true]
    have hd : i < (dfl k).length := by rw [dfl_len]; exact hi
    rw [List.getD, List.getElem?_eq_getElem hd]; rfl
  · rw [List.getElem?_eq_none (by simp; omega), List.getElem?_eq_none (by rw [dfl_len]; omega)]
