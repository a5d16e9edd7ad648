/-! ROWS OVER THE POOL: fields, arrays, new things, calls, ends, exceptions. -/
def ClsOK (κ : Nat) (C : String) (T : u_T) (N : Nat) (ty : Nat → FieldType) : Prop := vwCl[κ]? = some (C, T, N) ∧ (∀ w ∈ u_ws C T N, w ∈ GT) ∧ (∀ k, k < N → parseFieldDescriptor (T k).2.2.1 = some (ty k)) ∧ (∀ a, a < N → ∀ b, b < N → a ≠ b → (T a).2.1 ≠ (T b).2.1) ∧ nSl κ = N ∧ κ < 7
theorem cls0 : ClsOK 0 RJx4a65c TJx4a65c 3 tyJx4a65c := ⟨rfl, kw_Jx4a65c, tyJx4a65c_ok, nmJx4a65c, rfl, by decide⟩
theorem cls1 : ClsOK 1 RX0 TX0 7 tyX0 := ⟨rfl, kw_X0, tyX0_ok, nmX0, rfl, by decide⟩
theorem cls2 : ClsOK 2 RX1 TX1 5 tyX1 := ⟨rfl, kw_X1, tyX1_ok, nmX1, rfl, by decide⟩
theorem cls3 : ClsOK 3 RX2 TX2 2 tyX2 := ⟨rfl, kw_X2, tyX2_ok, nmX2, rfl, by decide⟩
theorem cls4 : ClsOK 4 RX3 TX3 6 tyX3 := ⟨rfl, kw_X3, tyX3_ok, nmX3, rfl, by decide⟩
theorem cls5 : ClsOK 5 RX4 TX4 6 tyX4 := ⟨rfl, kw_X4, tyX4_ok, nmX4, rfl, by decide⟩
theorem pW_O {G : Ids} {S : Ps} {κ a : Nat} (h : isK S κ a) (hk : κ < 7) : ∃ q : Nat, (pW G S)[q]? = some (a, pE G S a) ∧ (pW G S)[q]? = some (a, .inr (κ, (List.range (nSl κ)).map (fun j => pF S j a))) := by
  obtain ⟨q, hq⟩ := pW_get (G := G) h.1
  exact ⟨q, hq, by rw [hq, pE_O h.2 hk]⟩
theorem pW_I {G : Ids} {S : Ps} {a : Nat} (h : isK S 7 a) : ∃ q : Nat, (pW G S)[q]? = some (a, pE G S a) ∧ (pW G S)[q]? = some (a, .inl (G.2.1.1, pN S a, .inl (pI S a))) := by
  obtain ⟨q, hq⟩ := pW_get (G := G) h.1
  exact ⟨q, hq, by rw [hq, pE_I h.2]⟩
theorem pW_Z {G : Ids} {S : Ps} {a : Nat} (h : isK S 8 a) : ∃ q : Nat, (pW G S)[q]? = some (a, pE G S a) ∧ (pW G S)[q]? = some (a, .inl (G.2.1.2.1, pN S a, .inl (pI S a))) := by
  obtain ⟨q, hq⟩ := pW_get (G := G) h.1
  exact ⟨q, hq, by rw [hq, pE_Z h.2]⟩
theorem pW_R {G : Ids} {S : Ps} {a : Nat} (h : isK S 9 a) : ∃ q : Nat, (pW G S)[q]? = some (a, pE G S a) ∧ (pW G S)[q]? = some (a, .inl (G.2.1.2.2.1, pN S a, .inr (.inr (.inr (.inr (pR S a)))))) := by
  obtain ⟨q, hq⟩ := pW_get (G := G) h.1
  exact ⟨q, hq, by rw [hq, pE_R h.2]⟩
theorem pW_J {G : Ids} {S : Ps} {a : Nat} (h : isK S 10 a) : ∃ q : Nat, (pW G S)[q]? = some (a, pE G S a) ∧ (pW G S)[q]? = some (a, .inl (G.2.1.2.2.2, pN S a, .inr (.inl (pJ S a)))) := by
  obtain ⟨q, hq⟩ := pW_get (G := G) h.1
  exact ⟨q, hq, by rw [hq, pE_J h.2]⟩
theorem ix_cl {i n : Nat} (hi : i < n) (hn : n < 2 ^ 31) : (nI i).toNatClampNeg = i := nI_clamp (Nat.lt_trans hi hn)
section ROWS3
variable {Γ : Cx} {G : Ids} {V : Vx} {cc : ByteArray} {own : String} {rm : Room} {nL k n : Nat} {S : Ps} {lv : List (Nat × Value)} {pc : Nat} {rest : List Value}
theorem r_gf {κ j a ix N : Nat} {C : String} {T : u_T} {ty : Nat → FieldType} {v : Value} (hC : Ctx Γ G V cc own rm nL) (hc : ClsOK κ C T N ty) (j0 : j < N) (hw : Cond.fieldLink own ix (T j).1 (T j).2.1 (T j).2.2.1 ∈ GT) (ha : isK S κ a) (hv : pF S j a = v) (d : decode cc pc = .ok (.getfield ix, 3)) (kk : At Γ G V k n S lv (pc + 3) (v :: rest)) : At Γ G V k n S lv pc (.ref a :: rest) := fun H locs ls hP hD hS hl => by
  obtain ⟨q, -, hq⟩ := pW_O (G := G) ha hc.2.2.2.2.2
  exact va_get hC.1 hC.2.1 hC.2.2.2.2.1 hc.2.1 hC.2.2.2.1 hC.2.2.2.2.2.1.1 hP q hq hc.1 j j0 (hC.2.2.2.2.1 _ hw) (fun _ h9 => h9) (by rw [hc.2.2.2.2.1]; simp [j0, hv]) d (kk H locs ls hP hD hS hl)
theorem r_pf {κ j a ix N : Nat} {C : String} {T : u_T} {ty : Nat → FieldType} {v : Value} (hC : Ctx Γ G V cc own rm nL) (hc : ClsOK κ C T N ty) (j0 : j < N) (hw : Cond.fieldLink own ix (T j).1 (T j).2.1 (T j).2.2.1 ∈ GT) (ha : isK S κ a) (hfin : (T j).2.2.2 = false) (hn : narrow (ty j) v = v) (hfit : fits (ty j) v = true) (d : decode cc pc = .ok (.putfield ix, 3)) (kk : At Γ G V k n (sF S j a v) lv (pc + 3) rest) : At Γ G V k n S lv pc (v :: .ref a :: rest) := fun H locs ls hP hD hS hl => by
  obtain ⟨q, hq0, hq⟩ := pW_O (G := G) ha hc.2.2.2.2.2
  refine va_put hC.1 hC.2.1 hC.2.2.2.2.1 hc.2.1 ty hc.2.2.1 hc.2.2.2.1 hC.2.2.2.1 hC.2.2.2.2.2.1.1 hP hD hS q hq hc.1 j j0 (hC.2.2.2.2.1 _ hw) (fun _ h9 => h9) hfin (hc.2.2.1 j j0) hn hfit (by rw [hc.2.2.2.2.1]; simp [j0]) d (fun H1 locs1 hP1 hD1 hS1 => ?_)
  have e := pW_set (G := G) (S := S) (S' := sF S j a v) hD ha.1 hq0 (pL_sF S j a v) (pE_sF ha.2 hc.2.2.2.2.2 (by rw [hc.2.2.2.2.1]; exact j0)) (fun b hb => pE_sF_ne hb)
  rw [e] at hP1 hD1
  exact kk H1 locs1 ls hP1 hD1 hS1 hl
/-- a final field, in its class's constructor -/
theorem r_pfF {κ j a ix N : Nat} {C : String} {T : u_T} {ty : Nat → FieldType} {v : Value} (hC : Ctx Γ G V cc own rm nL) (hc : ClsOK κ C T N ty) (j0 : j < N) (hw : Cond.fieldLink own ix (T j).1 (T j).2.1 (T j).2.2.1 ∈ GT) (ha : isK S κ a) (hfin : (T j).2.2.2 = true) (hin : (cY Γ).name = "<init>") (hdecl : (T j).1 = own) (hn : narrow (ty j) v = v) (hfit : fits (ty j) v = true) (d : decode cc pc = .ok (.putfield ix, 3)) (kk : At Γ G V k n (sF S j a v) lv (pc + 3) rest) : At Γ G V k n S lv pc (v :: .ref a :: rest) := fun H locs ls hP hD hS hl => by
  obtain ⟨q, hq0, hq⟩ := pW_O (G := G) ha hc.2.2.2.2.2
  refine va_putF hC.1 hC.2.1 hC.2.2.2.2.1 hc.2.1 ty hc.2.2.1 hc.2.2.2.1 hC.2.2.2.1 hC.2.2.2.2.2.1.1 hP hD hS q hq hc.1 j j0 (hC.2.2.2.2.1 _ hw) (fun _ h9 => h9) hfin hin hdecl (hc.2.2.1 j j0) hn hfit (by rw [hc.2.2.2.2.1]; simp [j0]) d (fun H1 locs1 hP1 hD1 hS1 => ?_)
  have e := pW_set (G := G) (S := S) (S' := sF S j a v) hD ha.1 hq0 (pL_sF S j a v) (pE_sF ha.2 hc.2.2.2.2.2 (by rw [hc.2.2.2.2.1]; exact j0)) (fun b hb => pE_sF_ne hb)
  rw [e] at hP1 hD1
  exact kk H1 locs1 ls hP1 hD1 hS1 hl
-- arrays
theorem r_iald {a i : Nat} {x : Int32} (hC : Ctx Γ G V cc own rm nL) (d : decode cc pc = .ok (.iaload, 1)) (ha : isK S 7 a) (hi : i < pN S a) (hn : pN S a < 2 ^ 31) (hv : pI S a i = x) (kk : At Γ G V k n S lv (pc + 1) (.int x :: rest)) : At Γ G V k n S lv pc (.int (nI i) :: .ref a :: rest) := fun H locs ls hP hD hS hl => by
  obtain ⟨q, -, hq⟩ := pW_I (G := G) ha
  refine va_iald hC.1 hC.2.1 hC.2.2.2.2.2.1.1 hP q 0 hq rfl (vp_in_nI hi hn) d ?_
  rw [ix_cl hi hn, hv]
  exact kk H locs ls hP hD hS hl
theorem r_aald {a i : Nat} {x : Nat} (hC : Ctx Γ G V cc own rm nL) (d : decode cc pc = .ok (.aaload, 1)) (ha : isK S 9 a) (hi : i < pN S a) (hn : pN S a < 2 ^ 31) (hv : pR S a i = some x) (kk : At Γ G V k n S lv (pc + 1) (.ref x :: rest)) : At Γ G V k n S lv pc (.int (nI i) :: .ref a :: rest) := fun H locs ls hP hD hS hl => by
  obtain ⟨q, -, hq⟩ := pW_R (G := G) ha
  refine va_aldq hC.1 hC.2.1 hC.2.2.2.2.2.1.1 hP q 2 hq rfl (vp_in_nI hi hn) d ?_
  rw [ix_cl hi hn, hv]
  exact kk H locs ls hP hD hS hl
theorem r_iast {a i : Nat} {x : Int32} (hC : Ctx Γ G V cc own rm nL) (d : decode cc pc = .ok (.iastore, 1)) (ha : isK S 7 a) (hi : i < pN S a) (hn : pN S a < 2 ^ 31) (kk : At Γ G V k n (sI S a i x) lv (pc + 1) rest) : At Γ G V k n S lv pc (.int x :: .int (nI i) :: .ref a :: rest) := fun H locs ls hP hD hS hl => by
  obtain ⟨q, hq0, hq⟩ := pW_I (G := G) ha
  refine va_iast hC.1 hC.2.1 hC.2.2.2.2.2.1.1 hP hD hS q 0 hq rfl (vp_in_nI hi hn) d (fun H1 locs1 hP1 hD1 hS1 => ?_)
  have e1 : upd (pI S a) i x = pI (sI S a i x) a := by
    funext b
    simp [upd, pI_sI]
  have e := pW_set (G := G) (S := S) (S' := sI S a i x) hD ha.1 hq0 (pL_sI S a i x) (pE_I (S := sI S a i x) ha.2) (fun b hb => pE_sI_ne hb)
  rw [ix_cl hi hn, e1, show pN S a = pN (sI S a i x) a from rfl, e] at hP1 hD1
  exact kk H1 locs1 ls hP1 hD1 hS1 hl
theorem r_aast {a i x κ N : Nat} {C : String} {T : u_T} {ty : Nat → FieldType} (hC : Ctx Γ G V cc own rm nL) (d : decode cc pc = .ok (.aastore, 1)) (ha : isK S 9 a) (hi : i < pN S a) (hn : pN S a < 2 ^ 31) (hx : isK S κ x) (hc : ClsOK κ C T N ty) (hcast : Cond.castable C "java/lang/Object" ∈ NG) (kk : At Γ G V k n (sR S a i (some x)) lv (pc + 1) rest) : At Γ G V k n S lv pc (.ref x :: .int (nI i) :: .ref a :: rest) := fun H locs ls hP hD hS hl => by
  obtain ⟨q, hq0, hq⟩ := pW_R (G := G) ha
  obtain ⟨qk, -, hqk⟩ := pW_O (G := G) hx hc.2.2.2.2.2
  refine va_astqO hC.1 hC.2.1 hC.2.2.2.2.2.1.1 hP hD hS q 2 qk κ (E := "java/lang/Object") hq rfl (hC.2.2.2.2.2.1.2.2.2.2.1.2.1 _ hcast) hqk hc.1 (vp_in_nI hi hn) d (fun H1 locs1 hP1 hD1 hS1 => ?_)
  have e1 : va_up (pR S a) i (some x) = pR (sR S a i (some x)) a := by
    funext b
    simp [va_up, pR_sR]
  have e := pW_set (G := G) (S := S) (S' := sR S a i (some x)) hD ha.1 hq0 (pL_sR S a i (some x)) (pE_R (S := sR S a i (some x)) ha.2) (fun b hb => pE_sR_ne hb)
  rw [ix_cl hi hn, e1, show pN S a = pN (sR S a i (some x)) a from rfl, e] at hP1 hD1
  exact kk H1 locs1 ls hP1 hD1 hS1 hl
theorem r_alenI {a : Nat} (hC : Ctx Γ G V cc own rm nL) (d : decode cc pc = .ok (.arraylength, 1)) (ha : isK S 7 a) (kk : At Γ G V k n S lv (pc + 1) (.int (nI (pN S a)) :: rest)) : At Γ G V k n S lv pc (.ref a :: rest) := fun H locs ls hP hD hS hl => by
  obtain ⟨q, -, hq⟩ := pW_I (G := G) ha
  exact va_alen hC.1 hC.2.1 hC.2.2.2.2.2.1.1 hP q 0 hq rfl rfl d (kk H locs ls hP hD hS hl)
theorem r_alenR {a : Nat} (hC : Ctx Γ G V cc own rm nL) (d : decode cc pc = .ok (.arraylength, 1)) (ha : isK S 9 a) (kk : At Γ G V k n S lv (pc + 1) (.int (nI (pN S a)) :: rest)) : At Γ G V k n S lv pc (.ref a :: rest) := fun H locs ls hP hD hS hl => by
  obtain ⟨q, -, hq⟩ := pW_R (G := G) ha
  exact va_alen hC.1 hC.2.1 hC.2.2.2.2.2.1.1 hP q 2 hq rfl rfl d (kk H locs ls hP hD hS hl)
theorem r_alen0 (hC : Ctx Γ G V cc own rm nL) (d : decode cc pc = .ok (.arraylength, 1)) (kk : At Γ G V k n S lv (pc + 1) (.int (nI 0) :: rest)) : At Γ G V k n S lv pc (.ref G.2.2.1 :: rest) := fun H locs ls hP hD hS hl => va_tlen hC.1 hC.2.1 hC.2.2.2.2.2.1.2.1.2 hS rfl d (kk H locs ls hP hD hS hl)
/-- the lists' empty row -/
theorem r_gets0 {ix : Nat} (hC : Ctx Γ G V cc own rm nL) (hw : Cond.fieldLink own ix "java/util/ArrayList" "DEFAULTCAPACITY_EMPTY_ELEMENTDATA" "[Ljava/lang/Object;" ∈ GT) (d : decode cc pc = .ok (.getstatic ix, 3)) (kk : At Γ G V k n S lv (pc + 3) (.ref G.2.2.1 :: rest)) : At Γ G V k n S lv pc rest := fun H locs ls hP hD hS hl => va_gets hC.1 hC.2.1 hC.2.2.2.2.2.1.2.1.1 hS hC.2.2.2.1 (hC.2.2.2.2.1 _ hw) (fun _ h => h) d (kk H locs ls hP hD hS hl)
-- new things
theorem r_new {κ ix N : Nat} {C : String} {T : u_T} {ty : Nat → FieldType} (hC : Ctx Γ G V cc own rm nL) (hc : ClsOK κ C T N ty) (hw : Cond.classLink own ix C ∈ GT) (hi : Cond.instantiable C N ∈ GT ∧ Cond.initialized C ∈ GT) (hfs : ∀ j, j < N → defaultValue (ty j) = vp_V (dfl κ) j) (hk : k + 1 ≤ rm.cells) (hn : n + N ≤ rm.slots) (d : decode cc pc = .ok (.new ix, 3)) (kk : ∀ a : Nat, a ∉ pL S → At Γ G V (k + 1) (n + N) (nwO S a κ) lv (pc + 3) (.ref a :: rest)) : At Γ G V k n S lv pc rest := fun H locs ls hP hD hS hl => by
  refine va_new hC.1 hC.2.1 hC.2.2.2.2.1 hc.2.1 ty hc.2.2.1 hC.2.2.2.1 (hC.2.2.2.2.1 _ hw) (hC.2.2.2.2.1 _ hi.1) (hC.2.2.2.2.1 _ hi.2) hC.2.2.2.2.2.1.1 hP hD hS hC.2.2.2.2.2.2.1 hc.1 hfs (by rw [hC.2.2.2.2.2.2.2.1]; exact hk) (by rw [hC.2.2.2.2.2.2.2.1]; exact hn) d (fun q H1 hP1 hD1 hS1 => ?_)
  have hf : q ∉ pL S := by
    intro hq
    obtain ⟨j, hj⟩ := pW_get (G := G) hq
    have h1 : (pW G S ++ [(q, Sum.inr (κ, dfl κ))])[j]? = some (q, pE G S q) := by rw [List.getElem?_append_left (List.getElem?_eq_some_iff.mp hj).1]; exact hj
    have h2 : (pW G S ++ [(q, (Sum.inr (κ, dfl κ) : va_E))])[(pW G S).length]? = some (q, Sum.inr (κ, dfl κ)) := by rw [List.getElem?_append_right (Nat.le_refl _)]; simp
    have h3 := hD1.1 _ _ _ _ h1 h2 rfl
    have h4 := (List.getElem?_eq_some_iff.mp hj).1
    omega
  have e := pW_push (G := G) (S := S) (S' := nwO S q κ) hf (pL_nwO S q κ) (pE_nwO hc.2.2.2.2.2) (fun b hb => pE_nwO_ne hb)
  rw [e] at hP1 hD1
  exact kk q hf H1 locs ls hP1 hD1 hS1 hl
theorem fresh_of {A : Nat → Prop} {G : Ids} {S : Ps} {q : Nat} {e : va_E} (hD1 : va_D A (pW G S ++ [(q, e)])) : q ∉ pL S := by
  intro hq
  obtain ⟨j, hj⟩ := pW_get (G := G) hq
  have h1 : (pW G S ++ [(q, e)])[j]? = some (q, pE G S q) := by rw [List.getElem?_append_left (List.getElem?_eq_some_iff.mp hj).1]; exact hj
  have h2 : (pW G S ++ [(q, e)])[(pW G S).length]? = some (q, e) := by rw [List.getElem?_append_right (Nat.le_refl _)]; simp
  have h3 := hD1.1 _ _ _ _ h1 h2 rfl
  have h4 := (List.getElem?_eq_some_iff.mp hj).1
  omega
theorem cls_of {D : va_G} {s : State} {G : Ids} {c : ClassId} {ty : FieldType} {t0 : Nat} {c0 : ClassId} (hK : va_K D vwCl (tysG G ++ [(c, ty)]) s) (h0 : (tysG G)[t0]? = some (c0, ty)) (hnm : ∀ (x : ClassId), va_RA s x ty → s.vm.findClass ("[" ++ ty.toString) = some x) : c = c0 := by
  have h1 := (hK.2 4 (c, ty) rfl).2
  have hl : t0 < (tysG G).length := (List.getElem?_eq_some_iff.mp h0).1
  have h2 := (hK.2 t0 (c0, ty) (by rw [List.getElem?_append_left hl]; exact h0)).2
  exact Option.some.inj ((hnm _ h1).symm.trans (hnm _ h2))
theorem r_newI {N : Nat} (hC : Ctx Γ G V cc own rm nL) (hN : N ≤ 100000) (hk : k + 1 ≤ rm.cells) (hn : n + N ≤ rm.slots) (d : decode cc pc = .ok (.newarray .int, 2)) (kk : ∀ a : Nat, a ∉ pL S → At Γ G V (k + 1) (n + N) (nwA S a 7 N) lv (pc + 2) (.ref a :: rest)) : At Γ G V k n S lv pc (.int (nI N) :: rest) := fun H locs ls hP hD hS hl => by
  refine va_newa (atype := .int) (ty := .int) (a0 := (N, .inl (fun _ => 0))) hC.1 hC.2.1 (hC.2.2.2.2.1 _ ka_int) rfl hC.2.2.2.2.2.1.1 hP hD hS hC.2.2.2.2.2.2.1 (fun cA => rfl) (nI_pos (by omega)) (nI_clamp (by omega)) (by show N * 4 ≤ _; omega) (by rw [hC.2.2.2.2.2.2.2.1]; exact hk) (by rw [hC.2.2.2.2.2.2.2.1]; exact hn) d (fun q cA H1 hK1 hP1 hD1 hS1 => ?_)
  have hcA : cA = G.2.1.1 := cls_of (t0 := 0) hK1 rfl (fun x h => h)
  subst hcA
  have hf := fresh_of hD1
  have e := pW_push (G := G) (S := S) (S' := nwA S q 7 N) (e := .inl (G.2.1.1, N, .inl (fun _ => 0))) hf (pL_nwA S q 7 N) (by rw [pE_I (by rw [pK_nwA, if_pos rfl]), pN_nwA, if_pos rfl, show pI (nwA S q 7 N) q = (fun _ => 0) from by funext i; rw [pI_nwA, if_pos rfl]]) (fun b hb => pE_nwA_ne hb)
  rw [e] at hP1 hD1
  exact kk q hf H1 locs ls hP1 hD1 hS1 hl
theorem r_newR {N ix : Nat} (hC : Ctx Γ G V cc own rm nL) (hw : Cond.classLink own ix "java/lang/Object" ∈ GT) (hN : N ≤ 100000) (hk : k + 1 ≤ rm.cells) (hn : n + N ≤ rm.slots) (d : decode cc pc = .ok (.anewarray ix, 3)) (kk : ∀ a : Nat, a ∉ pL S → At Γ G V (k + 1) (n + N) (nwA S a 9 N) lv (pc + 3) (.ref a :: rest)) : At Γ G V k n S lv pc (.int (nI N) :: rest) := fun H locs ls hP hD hS hl => by
  refine va_newq hC.1 hC.2.1 (C := "java/lang/Object") (N' := N) hC.2.2.2.1 (hC.2.2.2.2.1 _ hw) hC.2.2.2.2.2.1.2.2.2.2.1.2.2 hC.2.2.2.2.2.1.1 hP hD hS hC.2.2.2.2.2.2.1 (nI_pos (by omega)) (nI_clamp (by omega)) (by omega) (by rw [hC.2.2.2.2.2.2.2.1]; exact hk) (by rw [hC.2.2.2.2.2.2.2.1]; exact hn) d (fun q cA H1 hK1 hP1 hD1 hS1 => ?_)
  have hcA : cA = G.2.1.2.2.1 := cls_of (t0 := 2) hK1 rfl (fun x h => by obtain ⟨_, _, _, _, _, h4⟩ := h; exact h4)
  subst hcA
  have hf := fresh_of hD1
  have e := pW_push (G := G) (S := S) (S' := nwA S q 9 N) (e := .inl (G.2.1.2.2.1, N, .inr (.inr (.inr (.inr (fun _ => none)))))) hf (pL_nwA S q 9 N) (by rw [pE_R (by rw [pK_nwA, if_pos rfl]), pN_nwA, if_pos rfl, show pR (nwA S q 9 N) q = (fun _ => none) from by funext i; rw [pR_nwA, if_pos rfl]]) (fun b hb => pE_nwA_ne hb)
  rw [e] at hP1 hD1
  exact kk q hf H1 locs ls hP1 hD1 hS1 hl
/-- a cast of an object to its own class -/
theorem r_cast {κ ix N a : Nat} {C : String} {T : u_T} {ty : Nat → FieldType} (hC : Ctx Γ G V cc own rm nL) (hc : ClsOK κ C T N ty) (hw : Cond.classLink own ix C ∈ GT) (ha : isK S κ a) (d : decode cc pc = .ok (.checkcast ix, 3)) (kk : At Γ G V k n S lv (pc + 3) (.ref a :: rest)) : At Γ G V k n S lv pc (.ref a :: rest) := fun H locs ls hP hD hS hl => by
  obtain ⟨q, -, hq⟩ := pW_O (G := G) ha hc.2.2.2.2.2
  exact va_castS hC.1 hC.2.1 hC.2.2.2.1 (hC.2.2.2.2.1 _ hw) (hC.2.2.2.2.2.1.1.1 κ _ hc.1).2 (va_recv hC.2.2.2.2.2.1.1 hP hc.1 hq) d (kk H locs ls hP hD hS hl)
/-- Object.<init> -/
theorem r_objInit {ix a : Nat} (hC : Ctx Γ G V cc own rm nL) (hw : LkO own ix) (hs : (rest.map fun v => v.category).sum + 12 ≤ rm.locals) (hf : 1 ≤ rm.frames) (d : decode cc pc = .ok (.invokespecial ix, 3)) (kk : At Γ G V k n S lv (pc + 3) rest) : At Γ G V k n S lv pc (.ref a :: rest) := fun H locs ls hP hD hS hl => by
  refine W.objInit hC.1 hC.2.1 hC.2.2.2.1 (hC.2.2.2.2.1 _ hw.1) (hC.2.2.2.2.1 _ hw.2.1) (hC.2.2.2.2.1 _ hw.2.2) rfl (by rw [hC.2.2.1, ← hC.2.2.2.2.2.2.2.2.1]; exact hl.1) rfl d (by rw [hC.2.2.2.2.2.2.2.1]; exact hf) (by rw [hC.2.2.2.2.2.2.2.1]; show 2 * 0 + _ + 12 ≤ _; omega) ?_
  exact kk H locs ls hP hD hS hl
-- ends
variable {ret : Option FieldType} {post : Option Value → Ps → Prop} {px : String → Ps → Prop}
theorem r_iret {v : Int32} (hC : Ctx Γ G V cc own rm nL) (hR : Rt Γ G V rm (some .int) post px) (d : decode cc pc = .ok (.ireturn, 1)) (hp : post (some (.int v)) S) (hk : k ≤ rm.cells) (hn : n ≤ rm.slots) : At Γ G V k n S lv pc [.int v] := fun H locs ls hP hD hS hl => by
  obtain ⟨hr, hlocks, hQ⟩ := hR
  unfold WW
  rw [hQ]
  refine W.widen hk hn (vx_ret ?_)
  exact W.iret hC.1 hC.2.1 hr (fun t ht hW => ⟨⟨_, S, rfl, hp, by rw [ht]; exact hP, hD⟩, hS.F ht⟩) hS.2.2 d hlocks
theorem r_zret {v : Int32} (hC : Ctx Γ G V cc own rm nL) (hR : Rt Γ G V rm (some .boolean) post px) (d : decode cc pc = .ok (.ireturn, 1)) (hv : narrow .boolean (.int v) = .int v) (hp : post (some (.int v)) S) (hk : k ≤ rm.cells) (hn : n ≤ rm.slots) : At Γ G V k n S lv pc [.int v] := fun H locs ls hP hD hS hl => by
  obtain ⟨hr, hlocks, hQ⟩ := hR
  unfold WW
  rw [hQ]
  refine W.widen hk hn (vx_ret ?_)
  exact W.zret hC.1 hC.2.1 hr hv (fun t ht hW => ⟨⟨_, S, rfl, hp, by rw [ht]; exact hP, hD⟩, hS.F ht⟩) hS.2.2 d hlocks
theorem r_lret {v : Int64} (hC : Ctx Γ G V cc own rm nL) (hR : Rt Γ G V rm (some .long) post px) (d : decode cc pc = .ok (.lreturn, 1)) (hp : post (some (.long v)) S) (hk : k ≤ rm.cells) (hn : n ≤ rm.slots) : At Γ G V k n S lv pc [.long v] := fun H locs ls hP hD hS hl => by
  obtain ⟨hr, hlocks, hQ⟩ := hR
  unfold WW
  rw [hQ]
  refine W.widen hk hn (vx_ret ?_)
  exact W.lret hC.1 hC.2.1 hr (fun t ht hW => ⟨⟨_, S, rfl, hp, by rw [ht]; exact hP, hD⟩, hS.F ht⟩) hS.2.2 d hlocks
theorem r_dret {v : UInt64} (hC : Ctx Γ G V cc own rm nL) (hR : Rt Γ G V rm (some .double) post px) (d : decode cc pc = .ok (.dreturn, 1)) (hp : post (some (.double v)) S) (hk : k ≤ rm.cells) (hn : n ≤ rm.slots) : At Γ G V k n S lv pc [.double v] := fun H locs ls hP hD hS hl => by
  obtain ⟨hr, hlocks, hQ⟩ := hR
  unfold WW
  rw [hQ]
  refine W.widen hk hn (vx_ret ?_)
  exact W.dret hC.1 hC.2.1 hr (fun t ht hW => ⟨⟨_, S, rfl, hp, by rw [ht]; exact hP, hD⟩, hS.F ht⟩) hS.2.2 d hlocks
theorem r_vret (hC : Ctx Γ G V cc own rm nL) (hR : Rt Γ G V rm none post px) (d : decode cc pc = .ok (.return_, 1)) (hp : post none S) (hk : k ≤ rm.cells) (hn : n ≤ rm.slots) : At Γ G V k n S lv pc [] := fun H locs ls hP hD hS hl => by
  obtain ⟨hr, hlocks, hQ⟩ := hR
  unfold WW
  rw [hQ]
  refine W.widen hk hn (vx_ret ?_)
  exact W.vret hC.1 hC.2.1 hr (fun t ht hW => ⟨⟨_, S, rfl, hp, by rw [ht]; exact hP, hD⟩, hS.F ht⟩) hS.2.2 d hlocks
theorem r_aret {v : Value} {rt : FieldType} (hC : Ctx Γ G V cc own rm nL) (hR : Rt Γ G V rm (some rt) post px) (d : decode cc pc = .ok (.areturn, 1)) (hrt : (∃ n, rt = .object n) ∨ ∃ t, rt = .array t) (hv : v = .null ∨ ∃ a, v = .ref a) (hp : post (some v) S) (hk : k ≤ rm.cells) (hn : n ≤ rm.slots) : At Γ G V k n S lv pc [v] := fun H locs ls hP hD hS hl => by
  obtain ⟨hr, hlocks, hQ⟩ := hR
  unfold WW
  rw [hQ]
  refine W.widen hk hn (vx_ret ?_)
  exact W.aret hC.1 hC.2.1 hr hrt hv (fun t ht hW => ⟨⟨_, S, rfl, hp, by rw [ht]; exact hP, hD⟩, hS.F ht⟩) hS.2.2 d hlocks
/-- not caught here -/
theorem at_out {E : String} (hR : Rt Γ G V rm ret post px) (ht : ∀ x ∈ (cD Γ).exceptionTable.toList, False) (hp : px E S) (hk : k ≤ rm.cells) (hn : n ≤ rm.slots) : AtX Γ G V k n S lv pc rest E := fun H locs ls ce q hP hD hS hl hq hv hcl => by
  obtain ⟨hr, hlocks, hQ⟩ := hR
  unfold WX
  rw [hQ]
  exact vx_out (fun x hx => (ht x hx).elim) hlocks hq hv hcl (fun t ht hA => ⟨⟨S, hp, by rw [ht]; exact hP, hD⟩, hS.F ht⟩) hS.2.2 hk hn
-- calls
theorem r_run {mc ms : Nat} {pst : Option Value → Ps → Prop} {pxc : String → Ps → Prop} {st rest : List Value} {a : Array Value} (hC : Ctx Γ G V cc own rm nL)
    (hr : ∀ (H : Heap) (locs : List Loc) (ls : Array Slot), va_P G.1 vwCl (pW G S) H → va_D V.1 (pW G S) → va_S V.1 (cS Γ).heap H locs → lv_has ls V.2.1 lv → vx_Run Γ.1 Γ.2.1 Γ.2.2.1 Γ.2.2.2.1 (cS Γ) (cM Γ) (cA Γ) (cB Γ) (cY Γ) (cD Γ) H locs k n mc ms (F0 (cM Γ) pc ls st) rest (cQ G (pA S H.size) pst a) (cX G (pA S H.size) pxc) (pA S H.size))
    (kx : ∀ (E : String) (S' : Ps), pxc E S' → AtX Γ G V (k + mc) (n + ms) S' lv pc rest E)
    (kk : ∀ (v : Option Value) (S' : Ps), pst v S' → At Γ G V (k + mc) (n + ms) S' lv (pc + 3) (v.toList ++ rest)) : At Γ G V k n S lv pc st := fun H locs ls hP hD hS hl => by
  have hAA : ∀ q : Nat, pA S H.size q → V.1 q := fun q hq => hq.elim (fun h => pW_in hD h) (fun h => hC.2.2.2.2.2.2.1 q (Nat.le_trans hS.1 h))
  intro T hT X
  rcases hr H locs ls hP hD hS hl T hT X with ⟨v, st₀, t, T', L, h0, X', hL, e1, e2, ⟨⟨v', S', ho, hp, hP', hD'⟩, hF⟩, sg⟩ | ⟨q, st₀, t, T', L, E, ce, h0, X', hL, e1, e2, ⟨⟨S', hp, hP', hD'⟩, hF⟩, hce, hcv, hcl, sg⟩
  · cases ho
    obtain ⟨k1, k2, k3⟩ := vx_keep (T' := T') (A0 := V.1) (H0 := (cS Γ).heap) (locs := locs) h0 e1 hS (fun q _ h => hAA q h) hAA hL hF
    obtain ⟨t2, a1, b1⟩ := kk v S' hp T'.heap (locs ++ L) ls (by rw [e1]; exact hP') (hD'.weaken (fun _ _ _ h => hAA _ h)) k3 hl T' rfl X'
    exact ⟨t2, sg t2 a1, b1⟩
  · obtain ⟨k1, k2, k3⟩ := vx_keep (T' := T') (A0 := V.1) (H0 := (cS Γ).heap) (locs := locs) h0 e1 hS (fun q _ h => hAA q h) hAA hL hF
    obtain ⟨t2, a1, b1⟩ := kx E S' hp T'.heap (locs ++ L) ls ce q (by rw [e1]; exact hP') (hD'.weaken (fun _ _ _ h => hAA _ h)) k3 hl (by rw [e1]; exact hce) hcv hcl T' rfl X'
    exact ⟨t2, sg.trans a1, b1⟩
/-- the callee's premise -/
theorem pre_of {H : Heap} {locs : List Loc} {av : List Value} (hC : Ctx Γ G V cc own rm nL) (hP : va_P G.1 vwCl (pW G S) H) (hD : va_D V.1 (pW G S)) (hS : va_S V.1 (cS Γ).heap H locs) : PreS (cS Γ) H (va_Pc av (fun U => U.heap.size = H.size ∧ va_P G.1 vwCl (pW G S) U.heap ∧ va_D (fun _ => True) (pW G S) ∧ Evn G (pA S H.size) U U.heap)) av := by
  have hAA : ∀ q : Nat, pA S H.size q → V.1 q := fun q hq => hq.elim (fun h => pW_in hD h) (fun h => hC.2.2.2.2.2.2.1 q (Nat.le_trans hS.1 h))
  refine ⟨fun a U g mk q => ?_, fun U hU hW => ⟨rfl, by rw [hU], by rw [hU]; exact hP, hD.weaken (fun _ _ _ _ => trivial), ?_⟩⟩
  · obtain ⟨q0, q1, q2, q3, q4⟩ := q
    exact ⟨q0, q1, q2, q3, Evn.same (s := U) rfl q4⟩
  · rw [hU]
    exact Evn.warm hW ((hC.2.2.2.2.2.1.kept hS.2.1).narrow hAA)
theorem gt_pay {args : Array Value} {s : State} {w0 : Cond} (hts : ∀ w ∈ GT, w.before args s = true) (h0 : w0 ∈ GT) : ∀ w ∈ (w0 :: GT), ∀ (a' : Array Value) (U : State), s.WarmedH U.vm → w.before a' U = true := fun w hw a' U hW => by
  have hg : w ∈ GT := (List.mem_cons.mp hw).elim (fun e => e ▸ h0) id
  exact word_at hW (gt_good w hg) (hts w hg)
theorem r_callV {κ idx b nn maxL N : Nat} {y : MethodName} {C : String} {T : u_T} {ty : Nat → FieldType} {bytes : ByteArray} {rt : Option FieldType} {rm1 : Room} {As st rest : List Value} {pst : Option Value → Ps → Prop} {pxc : String → Ps → Prop} (hC : Ctx Γ G V cc own rm nL) (hM : Ct Γ.2.1 (Cond.code y bytes maxL rt) y rm1 G (.ref b :: As) S pst pxc) (hw : LkV own idx y C bytes maxL rt nn) (hc : ClsOK κ C T N ty) (hb : isK S κ b) (hst : st = As.reverse ++ .ref b :: rest) (hnn : As.length = nn) (hstk : (rest.map fun v => v.category).sum ≤ 8)
    (hrm : rm1.frames + 1 ≤ rm.frames ∧ 8 + (maxL + 11) + rm1.locals ≤ rm.locals ∧ k + rm1.cells ≤ rm.cells ∧ n + rm1.slots ≤ rm.slots) (d : decode cc pc = .ok (.invokevirtual idx, 3))
    (kx : ∀ (E : String) (S' : Ps), pxc E S' → AtX Γ G V (k + rm1.cells) (n + rm1.slots) S' lv pc rest E)
    (kk : ∀ (v : Option Value) (S' : Ps), pst v S' → At Γ G V (k + rm1.cells) (n + rm1.slots) S' lv (pc + 3) (v.toList ++ rest)) : At Γ G V k n S lv pc st := by
  refine r_run (a := (Value.ref b :: As).toArray) hC (fun H locs ls hP hD hS hl => ?_) kx kk
  obtain ⟨q, -, hq⟩ := pW_O (G := G) hb hc.2.2.2.2.2
  have hts := hC.2.2.2.2.1
  have hpre := pre_of (av := .ref b :: As) hC hP hD hS
  refine vx_runV (C := C) (As := As) (b := b) (rest := rest) ⟨hC.1, hC.2.1, hC.2.2.1, hC.2.2.2.1, hts⟩ (hM H.size)
    ⟨⟨rfl, rfl, by rw [hC.2.2.2.2.2.2.2.1]; exact hrm.1, by rw [hC.2.2.2.2.2.2.2.1]; exact hrm.2.1, gt_pay hts hw.2.2.2.2.1, List.mem_cons_self, hts _ hw.2.2.2.2.1, hts _ hw.2.2.2.1, hw.2.2.2.2.2.1, fun sig h => ?_, hts _ hw.1⟩, hts _ hw.2.1, hts _ hw.2.2.1⟩
    ⟨hpre.1, va_recv hC.2.2.2.2.2.1.1 hP hc.1 hq, hpre.2⟩ rfl hnn (by show ls.size = nL; rw [hl.1]; exact hC.2.2.2.2.2.2.2.2.1) hst (lv_room hstk) d ⟨by rw [hC.2.2.2.2.2.2.2.1]; exact hrm.2.2.1, by rw [hC.2.2.2.2.2.2.2.1]; exact hrm.2.2.2⟩
  have h2 := hw.2.2.2.2.2.2
  rw [h] at h2
  exact (Option.some.inj h2).symm
theorem r_callS {idx nn maxL : Nat} {y : MethodName} {bytes : ByteArray} {rt : Option FieldType} {rm1 : Room} {As st rest : List Value} {pst : Option Value → Ps → Prop} {pxc : String → Ps → Prop} (hC : Ctx Γ G V cc own rm nL) (hM : Ct Γ.2.1 (Cond.code y bytes maxL rt) y rm1 G As S pst pxc) (hw : LkS own idx y bytes maxL rt nn) (hst : st = As.reverse ++ rest) (hnn : As.length = nn) (hstk : (rest.map fun v => v.category).sum ≤ 8)
    (hrm : rm1.frames + 1 ≤ rm.frames ∧ 8 + (maxL + 11) + rm1.locals ≤ rm.locals ∧ k + rm1.cells ≤ rm.cells ∧ n + rm1.slots ≤ rm.slots) (d : decode cc pc = .ok (.invokestatic idx, 3))
    (kx : ∀ (E : String) (S' : Ps), pxc E S' → AtX Γ G V (k + rm1.cells) (n + rm1.slots) S' lv pc rest E)
    (kk : ∀ (v : Option Value) (S' : Ps), pst v S' → At Γ G V (k + rm1.cells) (n + rm1.slots) S' lv (pc + 3) (v.toList ++ rest)) : At Γ G V k n S lv pc st := by
  refine r_run (a := As.toArray) hC (fun H locs ls hP hD hS hl => ?_) kx kk
  have hts := hC.2.2.2.2.1
  refine vx_runS (As := As) (rest := rest) ⟨hC.1, hC.2.1, hC.2.2.1, hC.2.2.2.1, hts⟩ (hM H.size)
    ⟨⟨rfl, rfl, by rw [hC.2.2.2.2.2.2.2.1]; exact hrm.1, by rw [hC.2.2.2.2.2.2.2.1]; exact hrm.2.1, gt_pay hts hw.2.2.2.1, List.mem_cons_self, hts _ hw.2.2.2.1, hts _ hw.2.2.1, hw.2.2.2.2.1, fun sig h => ?_, hts _ hw.1⟩, hts _ hw.2.1⟩
    (pre_of hC hP hD hS) rfl hnn (by show ls.size = nL; rw [hl.1]; exact hC.2.2.2.2.2.2.2.2.1) hst (lv_room hstk) d ⟨by rw [hC.2.2.2.2.2.2.2.1]; exact hrm.2.2.1, by rw [hC.2.2.2.2.2.2.2.1]; exact hrm.2.2.2⟩
  have h2 := hw.2.2.2.2.2
  rw [h] at h2
  exact (Option.some.inj h2).symm
theorem r_callSW {idx nn maxL : Nat} {y : MethodName} {bytes : ByteArray} {rt : Option FieldType} {hh : List (Nat × Nat × Nat × Nat)} {rm1 : Room} {As st rest : List Value} {pst : Option Value → Ps → Prop} {pxc : String → Ps → Prop} (hC : Ctx Γ G V cc own rm nL) (hM : Ct Γ.2.1 (Cond.codeWith y bytes maxL rt hh) y rm1 G As S pst pxc) (hw : LkSW own idx y bytes maxL rt hh nn) (hst : st = As.reverse ++ rest) (hnn : As.length = nn) (hstk : (rest.map fun v => v.category).sum ≤ 8)
    (hrm : rm1.frames + 1 ≤ rm.frames ∧ 8 + (maxL + 11) + rm1.locals ≤ rm.locals ∧ k + rm1.cells ≤ rm.cells ∧ n + rm1.slots ≤ rm.slots) (d : decode cc pc = .ok (.invokestatic idx, 3))
    (kx : ∀ (E : String) (S' : Ps), pxc E S' → AtX Γ G V (k + rm1.cells) (n + rm1.slots) S' lv pc rest E)
    (kk : ∀ (v : Option Value) (S' : Ps), pst v S' → At Γ G V (k + rm1.cells) (n + rm1.slots) S' lv (pc + 3) (v.toList ++ rest)) : At Γ G V k n S lv pc st := by
  refine r_run (a := As.toArray) hC (fun H locs ls hP hD hS hl => ?_) kx kk
  have hts := hC.2.2.2.2.1
  refine vx_runSX (As := As) (rest := rest) ⟨hC.1, hC.2.1, hC.2.2.1, hC.2.2.2.1, hts⟩ (hM H.size)
    ⟨⟨rfl, rfl, by rw [hC.2.2.2.2.2.2.2.1]; exact hrm.1, by rw [hC.2.2.2.2.2.2.2.1]; exact hrm.2.1, gt_pay hts hw.2.2.2.1, List.mem_cons_self⟩, hts _ hw.2.2.2.1, hts _ hw.2.2.1, hw.2.2.2.2.1, fun sig h => ?_, hts _ hw.1, hts _ hw.2.1⟩
    (pre_of hC hP hD hS) rfl hnn (by show ls.size = nL; rw [hl.1]; exact hC.2.2.2.2.2.2.2.2.1) hst (lv_room hstk) d ⟨by rw [hC.2.2.2.2.2.2.2.1]; exact hrm.2.2.1, by rw [hC.2.2.2.2.2.2.2.1]; exact hrm.2.2.2⟩
  have h2 := hw.2.2.2.2.2
  rw [h] at h2
  exact (Option.some.inj h2).symm
theorem r_callI {idx b nn maxL : Nat} {y : MethodName} {bytes : ByteArray} {rm1 : Room} {As st rest : List Value} {pst : Option Value → Ps → Prop} {pxc : String → Ps → Prop} (hC : Ctx Γ G V cc own rm nL) (hM : Ct Γ.2.1 (Cond.code y bytes maxL none) y rm1 G (.ref b :: As) S pst pxc) (hw : LkI own idx y bytes maxL nn) (hst : st = As.reverse ++ .ref b :: rest) (hnn : As.length = nn) (hstk : (rest.map fun v => v.category).sum ≤ 8)
    (hrm : rm1.frames + 1 ≤ rm.frames ∧ 8 + (maxL + 11) + rm1.locals ≤ rm.locals ∧ k + rm1.cells ≤ rm.cells ∧ n + rm1.slots ≤ rm.slots) (d : decode cc pc = .ok (.invokespecial idx, 3))
    (kx : ∀ (E : String) (S' : Ps), pxc E S' → AtX Γ G V (k + rm1.cells) (n + rm1.slots) S' lv pc rest E)
    (kk : ∀ (v : Option Value) (S' : Ps), pst v S' → At Γ G V (k + rm1.cells) (n + rm1.slots) S' lv (pc + 3) (v.toList ++ rest)) : At Γ G V k n S lv pc st := by
  refine r_run (a := (Value.ref b :: As).toArray) hC (fun H locs ls hP hD hS hl => ?_) kx kk
  have hts := hC.2.2.2.2.1
  refine vx_runI (As := As) (b := b) (rest := rest) ⟨hC.1, hC.2.1, hC.2.2.1, hC.2.2.2.1, hts⟩ (hM H.size)
    ⟨⟨rfl, rfl, by rw [hC.2.2.2.2.2.2.2.1]; exact hrm.1, by rw [hC.2.2.2.2.2.2.2.1]; exact hrm.2.1, gt_pay hts hw.2.2.2.1, List.mem_cons_self, hts _ hw.2.2.2.1, hts _ hw.2.2.1, hw.2.2.2.2.1, fun sig h => ?_, hts _ hw.1⟩, hw.2.2.2.2.2.2, hts _ hw.2.1⟩
    (pre_of hC hP hD hS) rfl hnn (by show ls.size = nL; rw [hl.1]; exact hC.2.2.2.2.2.2.2.2.1) hst (lv_room hstk) d ⟨by rw [hC.2.2.2.2.2.2.2.1]; exact hrm.2.2.1, by rw [hC.2.2.2.2.2.2.2.1]; exact hrm.2.2.2⟩
  have h2 := hw.2.2.2.2.2.1
  rw [h] at h2
  exact (Option.some.inj h2).symm
end ROWS3
