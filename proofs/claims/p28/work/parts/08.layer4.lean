/-! MORE ROWS: throws, handlers, Math, copies, class objects, switches. -/
theorem ats_ISE : ∀ w ∈ vx_atS RX4 55 "java/lang/IllegalStateException" ["java/lang/RuntimeException", "java/lang/Exception"], w ∈ lw_tbl ∧ (goodWord w || isCD w) = true := by decide +kernel
theorem ats_IAE : ∀ w ∈ vx_atS RX4 88 "java/lang/IllegalArgumentException" ["java/lang/RuntimeException", "java/lang/Exception"], w ∈ lw_tbl ∧ (goodWord w || isCD w) = true := by decide +kernel
theorem ats_IOB : ∀ w ∈ vx_atS RX4 66 "java/lang/IndexOutOfBoundsException" ["java/lang/RuntimeException", "java/lang/Exception"], w ∈ lw_tbl ∧ (goodWord w || isCD w) = true := by decide +kernel
section ROWS4
variable {Γ : Cx} {G : Ids} {V : Vx} {cc : ByteArray} {own : String} {rm : Room} {nL k n : Nat} {S : Ps} {lv : List (Nat × Value)} {pc : Nat} {rest : List Value}
variable {ret : Option FieldType} {post : Option Value → Ps → Prop} {px : String → Ps → Prop}
/-- throw new E(text), that leaves the method -/
theorem r_throw {cls text : String} {ik is ic : Nat} (hC : Ctx Γ G V cc own rm nL) (hR : Rt Γ G V rm ret post px) (ht : ∀ x ∈ (cD Γ).exceptionTable.toList, False) (hcls : Bundle.fit cls = true) (hat : ∀ w ∈ vx_atS own ic cls ["java/lang/RuntimeException", "java/lang/Exception"], w ∈ lw_tbl ∧ (goodWord w || isCD w) = true) (hk : Cond.classLink own ik cls ∈ GT) (hini : Cond.initialized cls ∈ GT) (hstr : (own, is, text) ∈ strsG)
    (d0 : decode cc pc = .ok (.new ik, 3)) (d3 : decode cc (pc + 3) = .ok (.dup, 1)) (d4 : decode cc (pc + 4) = .ok (.ldc is, 2)) (d6 : decode cc (pc + 6) = .ok (.invokespecial ic, 3)) (d9 : decode cc (pc + 9) = .ok (.athrow, 1))
    (hRf : 5 < rm.frames) (hRl : (rest.map fun v => v.category).sum + 82 ≤ rm.locals) (hRc : k + 1 ≤ rm.cells) (hRs : n + 6 ≤ rm.slots) (hp : px cls S) : At Γ G V k n S lv pc rest := fun H locs ls hP hD hS hl => by
  obtain ⟨hr, hlocks, hQ⟩ := hR
  unfold WW
  rw [hQ]
  obtain ⟨sa, hsa⟩ := hC.2.2.2.2.2.1.2.2.2.1 _ hstr
  have hE := hC.2.2.2.2.2.1
  have hatb : ∀ w ∈ vx_atS own ic cls ["java/lang/RuntimeException", "java/lang/Exception"], w.before (cA Γ) (cS Γ) = true := by
    intro w hw
    obtain ⟨h1, h2⟩ := hat w hw
    rcases Bool.or_eq_true_iff.mp h2 with h2 | h2
    · exact hC.2.2.2.2.1 _ (in_gt h1 h2)
    · have h3 := hE.2.2.2.2.1.2.1 w (in_ng h1 h2)
      cases w with
      | castable a b => exact va_Nw.use rfl h3
      | declares x => exact va_Nw.use rfl h3
      | _ => cases h2
  have hgood : ∀ w ∈ Cond.classLink own ik cls :: Cond.initialized cls :: vx_atS own ic cls ["java/lang/RuntimeException", "java/lang/Exception"], vx_ot w = true := by
    intro w hw
    rcases List.mem_cons.mp hw with rfl | hw
    · rfl
    · rcases List.mem_cons.mp hw with rfl | hw
      · rfl
      · obtain ⟨h1, h2⟩ := hat w hw
        unfold vx_ot
        rcases Bool.or_eq_true_iff.mp h2 with h2 | h2
        · rw [h2, Bool.or_true]
        · cases w with
          | castable a b => rfl
          | declares x => rfl
          | _ => cases h2
  refine vx_throwS (names := ["java/lang/RuntimeException", "java/lang/Exception"]) (A := V.1) hC.1 hC.2.1 hC.2.2.2.2.2.2.2.2.2 hC.2.2.2.1 hcls (by decide +kernel) (hC.2.2.2.2.1 _ hk) (hC.2.2.2.2.1 _ hini) hsa hatb hgood hE.2.2.1.1 hE.2.2.1.2 hS (by rw [hl.1, hC.2.2.1]; exact hC.2.2.2.2.2.2.2.2.1) d0 d3 d4 d6 d9 (fun x hx => (ht x hx).elim)
    (by rw [hC.2.2.2.2.2.2.2.1]; exact hRf) (by rw [hC.2.2.2.2.2.2.2.1]; exact hRl) (by rw [hC.2.2.2.2.2.2.2.1]; exact hRc) (by rw [hC.2.2.2.2.2.2.2.1]; exact hRs) hlocks (fun t hA hz hq => ?_) hS.2.2 hRc hRs
  refine ⟨⟨S, hp, hP.kept (fun i q hi => hq q.1 ((hP i q hi).lt)), hD⟩, ?_⟩
  exact ⟨Nat.le_trans hS.1 hz, fun q h1 h2 => (hq q (Nat.lt_of_lt_of_le h1 hS.1)).trans (hS.2.1 q h1 h2)⟩
/-- caught by a row of this method's table -/
theorem at_catch {E nm : String} {pre suf : List ExceptionTableEntry} {x : ExceptionTableEntry} (hC : Ctx Γ G V cc own rm nL) (hsplit : (cD Γ).exceptionTable.toList = pre ++ x :: suf)
    (hpass : ∀ z ∈ pre, z.catchType ≠ 0 ∧ ∃ nm1 : String, Cond.classLink own z.catchType nm1 ∈ GT ∧ va_Nc E nm1 (cS Γ)) (hx : covers x pc = true) (h0 : x.catchType ≠ 0) (hlink : Cond.classLink own x.catchType nm ∈ GT) (hcast : Cond.castable E nm ∈ NG)
    (kk : ∀ q : Nat, At Γ G V k n S lv x.handlerPc [.ref q]) : AtX Γ G V k n S lv pc rest E := fun H locs ls ce q hP hD hS hl hq hv hcl => by
  have h3 := hC.2.2.2.2.2.1.2.2.2.2.1.2.1 _ hcast
  exact vx_catch hC.2.2.2.1 pre x suf hsplit (fun z hz => by
    obtain ⟨z0, nm1, z1, z2⟩ := hpass z hz
    exact Or.inr ⟨z0, nm1, hC.2.2.2.2.1 _ z1, z2⟩) hx h0 (hC.2.2.2.2.1 _ hlink) (va_Nw.use rfl h3) hq hv hcl (kk q H locs ls hP hD hS hl)
theorem r_mmax {ix : Nat} {x y : Int32} (hC : Ctx Γ G V cc own rm nL) (hw : Cond.methodLink own ix Lib.Math.max.name ∈ GT) (hs : (rest.map fun v => v.category).sum + 13 ≤ rm.locals) (hf : 1 ≤ rm.frames) (hk : k ≤ rm.cells) (hn : n ≤ rm.slots) (d : decode cc pc = .ok (.invokestatic ix, 3)) (kk : At Γ G V k n S lv (pc + 3) (.int (if x < y then y else x) :: rest)) : At Γ G V k n S lv pc (.int y :: .int x :: rest) := fun H locs ls hP hD hS hl => by
  refine va_mmax hC.1 hC.2.1 (by rw [hl.1, hC.2.2.1]; exact hC.2.2.2.2.2.2.2.2.1.symm) hC.2.2.2.1 (hC.2.2.2.2.1 _ hw) (hC.2.2.2.2.1 _ wk_max.1) (hC.2.2.2.2.1 _ wk_max.2.1) (hC.2.2.2.2.1 _ wk_max.2.2) (by rw [hC.2.2.2.2.2.2.2.1]; exact hf) (by rw [hC.2.2.2.2.2.2.2.1]; exact hs) (by rw [hC.2.2.2.2.2.2.2.1]; exact hk) (by rw [hC.2.2.2.2.2.2.2.1]; exact hn) d (kk H locs ls hP hD hS hl)
theorem r_mmin {ix : Nat} {x y : Int32} (hC : Ctx Γ G V cc own rm nL) (hw : Cond.methodLink own ix Lib.Math.min.name ∈ GT) (hs : (rest.map fun v => v.category).sum + 13 ≤ rm.locals) (hf : 1 ≤ rm.frames) (hk : k ≤ rm.cells) (hn : n ≤ rm.slots) (d : decode cc pc = .ok (.invokestatic ix, 3)) (kk : At Γ G V k n S lv (pc + 3) (.int (if y < x then y else x) :: rest)) : At Γ G V k n S lv pc (.int y :: .int x :: rest) := fun H locs ls hP hD hS hl => by
  refine va_mmin hC.1 hC.2.1 (by rw [hl.1, hC.2.2.1]; exact hC.2.2.2.2.2.2.2.2.1.symm) hC.2.2.2.1 (hC.2.2.2.2.1 _ hw) (hC.2.2.2.2.1 _ wk_min.1) (hC.2.2.2.2.1 _ wk_min.2.1) (hC.2.2.2.2.1 _ wk_min.2.2) (by rw [hC.2.2.2.2.2.2.2.1]; exact hf) (by rw [hC.2.2.2.2.2.2.2.1]; exact hs) (by rw [hC.2.2.2.2.2.2.2.1]; exact hk) (by rw [hC.2.2.2.2.2.2.2.1]; exact hn) d (kk H locs ls hP hD hS hl)
/-- System.arraycopy of the first n ints of a0 to the head of a -/
theorem r_copyI {ix a a0 m : Nat} (hC : Ctx Γ G V cc own rm nL) (hw : Cond.methodLink own ix arraycopyName ∈ GT) (h0 : isK S 7 a0) (h1 : isK S 7 a) (hm0 : m ≤ pN S a0) (hm1 : m ≤ pN S a) (hm : m < 2 ^ 31) (hs : (rest.map fun v => v.category).sum + (nativeFrameWords "java/lang/System" "arraycopy" 5 + 11) ≤ rm.locals) (hf : 1 ≤ rm.frames) (d : decode cc pc = .ok (.invokestatic ix, 3))
    (kk : At Γ G V k n (sIs S a (va_cpy (pI S a0) (pI S a) 0 0 m)) lv (pc + 3) rest) : At Γ G V k n S lv pc (.int (nI m) :: .int (nI 0) :: .ref a :: .int (nI 0) :: .ref a0 :: rest) := fun H locs ls hP hD hS hl => by
  obtain ⟨q, -, hq⟩ := pW_I (G := G) h0
  obtain ⟨q1, hq10, hq1⟩ := pW_I (G := G) h1
  have e0 : (nI 0).toNatClampNeg = 0 := nI_clamp (by decide)
  have em : (nI m).toNatClampNeg = m := nI_clamp hm
  refine va_copyi (ty := .int) hC.1 hC.2.1 (by rw [hl.1, hC.2.2.1]; exact hC.2.2.2.2.2.2.2.2.1.symm) hC.2.2.2.1 (hC.2.2.2.2.1 _ hw) (hC.2.2.2.2.1 _ wk_copy.1) (hC.2.2.2.2.1 _ wk_copy.2.1) (hC.2.2.2.2.1 _ wk_copy.2.2) hC.2.2.2.2.2.1.1 hP hD hS q q1 0 0 hq hq1 rfl rfl rfl (nI_pos (by decide)) (nI_pos (by decide)) (nI_pos hm) (by rw [e0, em]; omega) (by rw [e0, em]; omega) (fun _ _ => rfl) (by rw [hC.2.2.2.2.2.2.2.1]; exact hf) (by rw [hC.2.2.2.2.2.2.2.1]; exact hs) d (fun H1 locs1 hP1 hD1 hS1 => ?_)
  rw [e0, em] at hP1 hD1
  have e1 : va_cpy (pI S a0) (pI S a) 0 0 m = pI (sIs S a (va_cpy (pI S a0) (pI S a) 0 0 m)) a := by rw [pI_sIs, if_pos rfl]
  have e := pW_set (G := G) (S := S) (S' := sIs S a (va_cpy (pI S a0) (pI S a) 0 0 m)) hD h1.1 hq10 rfl (pE_I (S := sIs S a (va_cpy (pI S a0) (pI S a) 0 0 m)) h1.2) (fun b hb => pE_sIs_ne hb)
  rw [← e1] at e
  rw [show pN S a = pN (sIs S a (va_cpy (pI S a0) (pI S a) 0 0 m)) a from rfl, e] at hP1 hD1
  exact kk H1 locs1 ls hP1 hD1 hS1 hl
/-- .. of the first n references, objects of one class -/
theorem r_copyR {ix a a0 m κ N : Nat} {C : String} {T : u_T} {ty : Nat → FieldType} (hC : Ctx Γ G V cc own rm nL) (hw : Cond.methodLink own ix arraycopyName ∈ GT) (h0 : isK S 9 a0) (h1 : isK S 9 a) (hm0 : m ≤ pN S a0) (hm1 : m ≤ pN S a) (hm : m < 2 ^ 31) (hc : ClsOK κ C T N ty) (hcast : Cond.castable C "java/lang/Object" ∈ NG) (hel : ∀ i, i < m → ∀ y, pR S a0 i = some y → isK S κ y) (hs : (rest.map fun v => v.category).sum + (nativeFrameWords "java/lang/System" "arraycopy" 5 + 11) ≤ rm.locals) (hf : 1 ≤ rm.frames) (d : decode cc pc = .ok (.invokestatic ix, 3))
    (kk : At Γ G V k n (sRs S a (va_cpy (pR S a0) (pR S a) 0 0 m)) lv (pc + 3) rest) : At Γ G V k n S lv pc (.int (nI m) :: .int (nI 0) :: .ref a :: .int (nI 0) :: .ref a0 :: rest) := fun H locs ls hP hD hS hl => by
  obtain ⟨q, -, hq⟩ := pW_R (G := G) h0
  obtain ⟨q1, hq10, hq1⟩ := pW_R (G := G) h1
  have e0 : (nI 0).toNatClampNeg = 0 := nI_clamp (by decide)
  have em : (nI m).toNatClampNeg = m := nI_clamp hm
  have hE := hC.2.2.2.2.2.1
  refine va_copyq (C := C) (E0 := "java/lang/Object") (E1 := "java/lang/Object") hC.1 hC.2.1 (by rw [hl.1, hC.2.2.1]; exact hC.2.2.2.2.2.2.2.2.1.symm) hC.2.2.2.1 (hC.2.2.2.2.1 _ hw) (hC.2.2.2.2.1 _ wk_copy.1) (hC.2.2.2.2.1 _ wk_copy.2.1) (hC.2.2.2.2.1 _ wk_copy.2.2) hE.1 hP hD hS q q1 2 2 hq hq1 rfl rfl (nI_pos (by decide)) (nI_pos (by decide)) (nI_pos hm) (by rw [e0, em]; omega) (by rw [e0, em]; omega) (fun i hi y hy => ?_) (fun comp c0 h8 h9 => ?_) (by rw [hC.2.2.2.2.2.2.2.1]; exact hf) (by rw [hC.2.2.2.2.2.2.2.1]; exact hs) d (fun H1 locs1 hP1 hD1 hS1 => ?_)
  · rw [em] at hi
    rw [e0, Nat.zero_add] at hy
    obtain ⟨qk, -, hqk⟩ := pW_O (G := G) (hel i hi y hy) hc.2.2.2.2.2
    exact va_recv hE.1 hP hc.1 hqk
  · obtain ⟨c1, t1, f1, f2, f3⟩ := Cond.castable_spec (va_Nw.use (A := #[]) rfl (hE.2.2.2.2.1.2.1 _ hcast))
    cases h9.symm.trans f1
    cases h8.symm.trans f2
    exact f3
  · rw [e0, em] at hP1 hD1
    have e1 : va_cpy (pR S a0) (pR S a) 0 0 m = pR (sRs S a (va_cpy (pR S a0) (pR S a) 0 0 m)) a := by rw [pR_sRs, if_pos rfl]
    have e := pW_set (G := G) (S := S) (S' := sRs S a (va_cpy (pR S a0) (pR S a) 0 0 m)) hD h1.1 hq10 rfl (pE_R (S := sRs S a (va_cpy (pR S a0) (pR S a) 0 0 m)) h1.2) (fun b hb => pE_sRs_ne hb)
    rw [← e1] at e
    rw [show pN S a = pN (sRs S a (va_cpy (pR S a0) (pR S a) 0 0 m)) a from rfl, e] at hP1 hD1
    exact kk H1 locs1 ls hP1 hD1 hS1 hl
/-- getClass() of a row of references -/
theorem r_getClass {ix a : Nat} (hC : Ctx Γ G V cc own rm nL) (hw : Cond.methodLink own ix ⟨"java/lang/Object", "getClass", "()Ljava/lang/Class;"⟩ ∈ GT) (ha : isK S 9 a) (hs : (rest.map fun v => v.category).sum + 14 ≤ rm.locals) (hf : 1 ≤ rm.frames) (d : decode cc pc = .ok (.invokevirtual ix, 3)) (kk : At Γ G V k n S lv (pc + 3) (.ref G.2.2.2 :: rest)) : At Γ G V k n S lv pc (.ref a :: rest) := fun H locs ls hP hD hS hl => by
  have hE := hC.2.2.2.2.2.1
  obtain ⟨q, -, hq⟩ := pW_R (G := G) ha
  have hcell := hP q _ hq
  refine va_getC (C := "[Ljava/lang/Object;") hC.1 hC.2.1 (by rw [hl.1, hC.2.2.1]; exact hC.2.2.2.2.2.2.2.2.1.symm) hC.2.2.2.1 (hC.2.2.2.2.1 _ hw) (va_Nw.use rfl (hE.2.2.2.2.1.2.1 _ wk_getC.1)) (hC.2.2.2.2.1 _ wk_getC.2.1) (hC.2.2.2.2.1 _ wk_getC.2.2.1) (hC.2.2.2.2.1 _ wk_getC.2.2.2) hE.2.2.2.2.1.1 ⟨_, hcell, rfl, ?_⟩ (by rw [hC.2.2.2.2.2.2.2.1]; exact hf) (by rw [hC.2.2.2.2.2.2.2.1]; exact hs) d (kk H locs ls hP hD hS hl)
  have h4 := (hE.1.2 2 _ rfl).2
  obtain ⟨_, _, _, _, _, h4⟩ := h4
  exact h4
theorem r_ldcC {ix : Nat} (hC : Ctx Γ G V cc own rm nL) (hw : Cond.classLink own ix "[Ljava/lang/Object;" ∈ GT) (d : decode cc pc = .ok (.ldc ix, 2)) (kk : At Γ G V k n S lv (pc + 2) (.ref G.2.2.2 :: rest)) : At Γ G V k n S lv pc rest := fun H locs ls hP hD hS hl => va_ldcM hC.1 hC.2.1 hC.2.2.2.1 (hC.2.2.2.2.1 _ hw) hC.2.2.2.2.2.1.2.2.2.2.1.1 d (kk H locs ls hP hD hS hl)
theorem r_tableIn {x : Int32} {dflt lo hi : Int} {offs : Array Int} {len : Nat} {off : Int} {tgt : Nat} (hC : Ctx Γ G V cc own rm nL) (d : decode cc pc = .ok (.tableswitch dflt lo hi offs, len)) (h1 : ¬ x.toInt < lo) (h2 : ¬ hi < x.toInt) (ho : offs[(x.toInt - lo).toNat]? = some off) (ht : (pc : Int) + off = (tgt : Int)) (kk : At Γ G V k n S lv tgt rest) : At Γ G V k n S lv pc (.int x :: rest) := fun H locs ls hP hD hS hl => lv_tableIn hC.1 hC.2.1 d h1 h2 ho ht (kk H locs ls hP hD hS hl)
theorem r_tableOut {x : Int32} {dflt lo hi : Int} {offs : Array Int} {len : Nat} {tgt : Nat} (hC : Ctx Γ G V cc own rm nL) (d : decode cc pc = .ok (.tableswitch dflt lo hi offs, len)) (h : x.toInt < lo ∨ hi < x.toInt) (ht : (pc : Int) + dflt = (tgt : Int)) (kk : At Γ G V k n S lv tgt rest) : At Γ G V k n S lv pc (.int x :: rest) := fun H locs ls hP hD hS hl => lv_tableOut hC.1 hC.2.1 d h ht (kk H locs ls hP hD hS hl)
end ROWS4
