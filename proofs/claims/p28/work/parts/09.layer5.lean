section ROWS5
variable {Γ : Cx} {G : Ids} {V : Vx} {cc : ByteArray} {own : String} {rm : Room} {nL k n : Nat} {S : Ps} {lv : List (Nat × Value)} {pc : Nat} {rest : List Value}
theorem Ctx.fl (hC : Ctx Γ G V cc own rm nL) : Γ.2.1.stackTraces = false := hC.2.2.2.2.2.2.2.2.2
theorem r_iushr {x y : Int32} (v : Int32) (hC : Ctx Γ G V cc own rm nL) (d : decode cc pc = .ok (.iushr, 1)) (hv : (x.toUInt32 >>> (y.toUInt32 &&& Int32.toUInt32 31)).toInt32 = v) (kk : At Γ G V k n S lv (pc + 1) (.int v :: rest)) : At Γ G V k n S lv pc (.int y :: .int x :: rest) := fun H locs ls hP hD hS hl => lv_iushr hC.1 hC.2.1 d hv (kk H locs ls hP hD hS hl)
theorem r_ldcw {ix : Nat} {v : Int32} (hC : Ctx Γ G V cc own rm nL) (d : decode cc pc = .ok (.ldc_w ix, 3)) (hw : Cond.constant own ix v ∈ GT) (kk : At Γ G V k n S lv (pc + 3) (.int v :: rest)) : At Γ G V k n S lv pc rest := fun H locs ls hP hD hS hl => lv_ldcw hC.1 hC.2.1 hC.2.2.2.1 (hC.2.2.2.2.1 _ hw) d (kk H locs ls hP hD hS hl)
theorem r_gfS {κ j a ix N : Nat} {ref C : String} {T : u_T} {ty : Nat → FieldType} {v : Value} (hC : Ctx Γ G V cc own rm nL) (hc : ClsOK κ C T N ty) (j0 : j < N) (hw : Cond.fieldLink own ix ref (T j).2.1 (T j).2.2.1 ∈ GT) (hs : Cond.sameField ref (T j).1 (T j).2.1 (T j).2.2.1 ∈ GT) (ha : isK S κ a) (hv : pF S j a = v) (d : decode cc pc = .ok (.getfield ix, 3)) (kk : At Γ G V k n S lv (pc + 3) (v :: rest)) : At Γ G V k n S lv pc (.ref a :: rest) := fun H locs ls hP hD hS hl => by
  obtain ⟨q, -, hq⟩ := pW_O (G := G) ha hc.2.2.2.2.2
  exact va_get hC.1 hC.2.1 hC.2.2.2.2.1 hc.2.1 hC.2.2.2.1 hC.2.2.2.2.2.1.1 hP q hq hc.1 j j0 (hC.2.2.2.2.1 _ hw) (fun x9 h9 => u_same (hC.2.2.2.2.1 _ hs) x9 h9) (by rw [hc.2.2.2.2.1]; simp [j0, hv]) d (kk H locs ls hP hD hS hl)
theorem r_pfS {κ j a ix N : Nat} {ref C : String} {T : u_T} {ty : Nat → FieldType} {v : Value} (hC : Ctx Γ G V cc own rm nL) (hc : ClsOK κ C T N ty) (j0 : j < N) (hw : Cond.fieldLink own ix ref (T j).2.1 (T j).2.2.1 ∈ GT) (hs : Cond.sameField ref (T j).1 (T j).2.1 (T j).2.2.1 ∈ GT) (ha : isK S κ a) (hfin : (T j).2.2.2 = false) (hn : narrow (ty j) v = v) (hfit : fits (ty j) v = true) (d : decode cc pc = .ok (.putfield ix, 3)) (kk : At Γ G V k n (sF S j a v) lv (pc + 3) rest) : At Γ G V k n S lv pc (v :: .ref a :: rest) := fun H locs ls hP hD hS hl => by
  obtain ⟨q, hq0, hq⟩ := pW_O (G := G) ha hc.2.2.2.2.2
  refine va_put hC.1 hC.2.1 hC.2.2.2.2.1 hc.2.1 ty hc.2.2.1 hc.2.2.2.1 hC.2.2.2.1 hC.2.2.2.2.2.1.1 hP hD hS q hq hc.1 j j0 (hC.2.2.2.2.1 _ hw) (fun x9 h9 => u_same (hC.2.2.2.2.1 _ hs) x9 h9) hfin (hc.2.2.1 j j0) hn hfit (by rw [hc.2.2.2.2.1]; simp [j0]) d (fun H1 locs1 hP1 hD1 hS1 => ?_)
  have e := pW_set (G := G) (S := S) (S' := sF S j a v) hD ha.1 hq0 (pL_sF S j a v) (pE_sF ha.2 hc.2.2.2.2.2 (by rw [hc.2.2.2.2.1]; exact j0)) (fun b hb => pE_sF_ne hb)
  rw [e] at hP1 hD1
  exact kk H1 locs1 ls hP1 hD1 hS1 hl
end ROWS5
/-- what stays: every address keeps its kind, and those outside P all that they hold -/
def Fr (P : Nat → Prop) (S S' : Ps) : Prop := ∀ b, b ∈ pL S → b ∈ pL S' ∧ pK S' b = pK S b ∧ (¬ P b → (∀ j, pF S' j b = pF S j b) ∧ pN S' b = pN S b ∧ pI S' b = pI S b ∧ pR S' b = pR S b ∧ pJ S' b = pJ S b)
theorem Fr.rfl {P : Nat → Prop} {S : Ps} : Fr P S S := fun _ h => ⟨h, Eq.refl _, fun _ => ⟨fun _ => Eq.refl _, Eq.refl _, Eq.refl _, Eq.refl _, Eq.refl _⟩⟩
theorem Fr.trans {P : Nat → Prop} {S S' S'' : Ps} (h : Fr P S S') (h' : Fr P S' S'') : Fr P S S'' := fun b hb => by
  obtain ⟨a1, a2, a3⟩ := h b hb
  obtain ⟨b1, b2, b3⟩ := h' b a1
  refine ⟨b1, b2.trans a2, fun hp => ?_⟩
  obtain ⟨c1, c2, c3, c4, c5⟩ := a3 hp
  obtain ⟨d1, d2, d3, d4, d5⟩ := b3 hp
  exact ⟨fun j => (d1 j).trans (c1 j), d2.trans c2, d3.trans c3, d4.trans c4, d5.trans c5⟩
theorem Fr.mono {P P' : Nat → Prop} {S S' : Ps} (h : Fr P S S') (hp : ∀ b, b ∈ pL S → P b → P' b) : Fr P' S S' := fun b hb => ⟨(h b hb).1, (h b hb).2.1, fun q => (h b hb).2.2 (fun z => q (hp b hb z))⟩
theorem Fr.K {P : Nat → Prop} {S S' : Ps} (h : Fr P S S') {k a : Nat} (ha : isK S k a) : isK S' k a := ⟨(h a ha.1).1, (h a ha.1).2.1.trans ha.2⟩
theorem Fr.F {P : Nat → Prop} {S S' : Ps} (h : Fr P S S') {k a : Nat} (ha : isK S k a) (hp : ¬ P a) (j : Nat) : pF S' j a = pF S j a := ((h a ha.1).2.2 hp).1 j
theorem Fr.N {P : Nat → Prop} {S S' : Ps} (h : Fr P S S') {k a : Nat} (ha : isK S k a) (hp : ¬ P a) : pN S' a = pN S a := ((h a ha.1).2.2 hp).2.1
theorem Fr.I {P : Nat → Prop} {S S' : Ps} (h : Fr P S S') {k a : Nat} (ha : isK S k a) (hp : ¬ P a) : pI S' a = pI S a := ((h a ha.1).2.2 hp).2.2.1
theorem Fr.R {P : Nat → Prop} {S S' : Ps} (h : Fr P S S') {k a : Nat} (ha : isK S k a) (hp : ¬ P a) : pR S' a = pR S a := ((h a ha.1).2.2 hp).2.2.2.1
theorem Fr.J {P : Nat → Prop} {S S' : Ps} (h : Fr P S S') {k a : Nat} (ha : isK S k a) (hp : ¬ P a) : pJ S' a = pJ S a := ((h a ha.1).2.2 hp).2.2.2.2
theorem Fr.sF {P : Nat → Prop} {S : Ps} {j a : Nat} {v : Value} (h : a ∈ pL S → P a) : Fr P S (sF S j a v) := fun b hb => ⟨hb, Eq.refl _, fun q => ⟨fun i => pF_sF_a S j a v (fun e => q (e ▸ h (e ▸ hb))), Eq.refl _, Eq.refl _, Eq.refl _, Eq.refl _⟩⟩
theorem Fr.sI {P : Nat → Prop} {S : Ps} {i a : Nat} {v : Int32} (h : a ∈ pL S → P a) : Fr P S (sI S a i v) := fun b hb => ⟨hb, Eq.refl _, fun q => ⟨fun i => Eq.refl _, Eq.refl _, by funext k; exact if_neg (fun (e : b = a ∧ _) => q (e.1 ▸ h (e.1 ▸ hb))), Eq.refl _, Eq.refl _⟩⟩
theorem Fr.sR {P : Nat → Prop} {S : Ps} {i a : Nat} {v : Option Nat} (h : a ∈ pL S → P a) : Fr P S (sR S a i v) := fun b hb => ⟨hb, Eq.refl _, fun q => ⟨fun i => Eq.refl _, Eq.refl _, Eq.refl _, by funext k; exact if_neg (fun (e : b = a ∧ _) => q (e.1 ▸ h (e.1 ▸ hb))), Eq.refl _⟩⟩
theorem Fr.sJ {P : Nat → Prop} {S : Ps} {i a : Nat} {v : Int64} (h : a ∈ pL S → P a) : Fr P S (sJ S a i v) := fun b hb => ⟨hb, Eq.refl _, fun q => ⟨fun i => Eq.refl _, Eq.refl _, Eq.refl _, Eq.refl _, by funext k; exact if_neg (fun (e : b = a ∧ _) => q (e.1 ▸ h (e.1 ▸ hb)))⟩⟩
theorem Fr.sIs {P : Nat → Prop} {S : Ps} {a : Nat} {f : Nat → Int32} (h : a ∈ pL S → P a) : Fr P S (sIs S a f) := fun b hb => ⟨hb, Eq.refl _, fun q => ⟨fun i => Eq.refl _, Eq.refl _, if_neg (fun (e : b = a) => q (e ▸ h (e ▸ hb))), Eq.refl _, Eq.refl _⟩⟩
theorem Fr.sRs {P : Nat → Prop} {S : Ps} {a : Nat} {f : Nat → Option Nat} (h : a ∈ pL S → P a) : Fr P S (sRs S a f) := fun b hb => ⟨hb, Eq.refl _, fun q => ⟨fun i => Eq.refl _, Eq.refl _, Eq.refl _, if_neg (fun (e : b = a) => q (e ▸ h (e ▸ hb))), Eq.refl _⟩⟩
theorem Fr.nwO {P : Nat → Prop} {S : Ps} {a k : Nat} (h : a ∉ pL S) : Fr P S (nwO S a k) := fun b hb => by
  have hne : ¬ b = a := fun e => h (e ▸ hb)
  exact ⟨List.mem_append_left _ hb, if_neg hne, fun _ => ⟨fun i => if_neg hne, Eq.refl _, Eq.refl _, Eq.refl _, Eq.refl _⟩⟩
theorem Fr.nwA {P : Nat → Prop} {S : Ps} {a k n : Nat} (h : a ∉ pL S) : Fr P S (nwA S a k n) := fun b hb => by
  have hne : ¬ b = a := fun e => h (e ▸ hb)
  exact ⟨List.mem_append_left _ hb, if_neg hne, fun _ => ⟨fun i => Eq.refl _, if_neg hne, by funext i; exact if_neg hne, by funext i; exact if_neg hne, by funext i; exact if_neg hne⟩⟩
/-- a list: its cell a, its row r (the JDK's empty one where nothing was added yet), n elements f of kind κ -/
def LsOK (G : Ids) (S : Ps) (κ a r n : Nat) (f : Nat → Nat) : Prop :=
  isK S 0 a ∧ pF S 2 a = .int (nI n) ∧ pF S 1 a = .ref r ∧ (∃ m, pF S 0 a = .int m) ∧ n ≤ 513 ∧ ((r = G.2.2.1 ∧ n = 0) ∨ (isK S 9 r ∧ n ≤ pN S r ∧ 10 ≤ pN S r ∧ pN S r ≤ 800 ∧ (∀ i, i < n → pR S r i = some (f i)) ∧ (∀ i y, pR S r i = some y → isK S κ y)))
theorem LsOK.get {G : Ids} {S : Ps} {κ a r n i : Nat} {f : Nat → Nat} (h : LsOK G S κ a r n f) (hi : i < n) : isK S 9 r ∧ i < pN S r ∧ pN S r < 2 ^ 31 ∧ pR S r i = some (f i) := by
  obtain ⟨-, -, -, -, -, ⟨-, h⟩ | ⟨h1, h2, h3, h4, h5, h6⟩⟩ := h
  · omega
  · exact ⟨h1, by omega, by omega, h5 i hi⟩
theorem LsOK.fr {P : Nat → Prop} {G : Ids} {S S' : Ps} {κ a r n : Nat} {f : Nat → Nat} (h : LsOK G S κ a r n f) (hF : Fr P S S') (ha : ¬ P a) (hr : r ∈ pL S → ¬ P r) : LsOK G S' κ a r n f := by
  obtain ⟨h1, h2, h3, ⟨m, h4⟩, h5, h6⟩ := h
  refine ⟨hF.K h1, (hF.F h1 ha 2).trans h2, (hF.F h1 ha 1).trans h3, ⟨m, (hF.F h1 ha 0).trans h4⟩, h5, ?_⟩
  rcases h6 with h6 | ⟨k1, k2, k3, k4, k5, k6⟩
  · exact Or.inl h6
  · refine Or.inr ⟨hF.K k1, ?_, ?_, ?_, ?_, ?_⟩
    · rw [hF.N k1 (hr k1.1)]; exact k2
    · rw [hF.N k1 (hr k1.1)]; exact k3
    · rw [hF.N k1 (hr k1.1)]; exact k4
    · rw [hF.R k1 (hr k1.1)]; exact k5
    · rw [hF.R k1 (hr k1.1)]; exact fun i y hy => hF.K (k6 i y hy)
theorem LsOK.congr {G : Ids} {S : Ps} {κ a r n n' : Nat} {f f' : Nat → Nat} (h : LsOK G S κ a r n f) (hn : n' = n) (hf : ∀ i, i < n → f' i = f i) : LsOK G S κ a r n' f' := by
  subst hn
  obtain ⟨h1, h2, h3, h4, h5, h6⟩ := h
  refine ⟨h1, h2, h3, h4, h5, h6.imp id (fun ⟨k1, k2, k3, k4, k5, k6⟩ => ⟨k1, k2, k3, k4, fun i hi => by rw [hf i hi]; exact k5 i hi, k6⟩)⟩
theorem b2i_z (b : Bool) : narrow .boolean (.int (b2i b)) = .int (b2i b) := by cases b <;> rfl
theorem b2i_nar (b : Bool) : vp_nar .boolean (b2i b) = b2i b := by cases b <;> rfl
theorem nI_b0 : nI 0 = b2i false := rfl
theorem nI_b1 : nI 1 = b2i true := rfl
