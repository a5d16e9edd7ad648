/-! THE SCRIPT, AND CALLS OF METHODS THAT READ IT: contracts that rest on the script too. -/
def ScX (Γ : Cx) (V : Vx) (b L : Nat) (xs : Nat → Int32) : Prop := va_X b L xs (cS Γ) (cS Γ).heap ∧ b < (cS Γ).heap.size ∧ ¬ V.1 b
/-- a contract, from pool to pool, where the script of L ints xs lies at b, in no pool -/
def CtX (l : Launch) (w0 : Cond) (y : MethodName) (rm : Room) (G : Ids) (b L : Nat) (xs : Nat → Int32) (av : List Value) (S : Ps) (post : Option Value → Ps → Prop) (px : String → Ps → Prop) : Prop :=
  ∀ sz : Nat, vx_Met l y (w0 :: GT) rm (va_Pc av (fun U => (U.heap.size = sz ∧ va_P G.1 vwCl (pW G S) U.heap ∧ va_D (fun _ => True) (pW G S) ∧ Evn G (pA S sz) U U.heap) ∧ va_X b L xs U U.heap ∧ b < U.heap.size ∧ ¬ pA S sz b)) (cQ G (pA S sz) post) (cX G (pA S sz) px) rm.cells rm.slots (pA S sz)
theorem CtX.of {l : Launch} {y : MethodName} {bytes : ByteArray} {maxL : Nat} {ret : Option FieldType} {rm : Room} {G : Ids} {b L : Nat} {xs : Nat → Int32} {av : List Value} {S : Ps} {post : Option Value → Ps → Prop} {px : String → Ps → Prop} (hfl : l.stackTraces = false) (hy : plainName y.cls = true) (hav : (lg_sl av).length ≤ maxL)
    (body : ∀ (Γ : Cx) (V : Vx), Ctx Γ G V bytes y.cls rm maxL → Rt Γ G V rm ret post px → ScX Γ V b L xs → At Γ G V 0 0 S (lv_args 0 av) 0 []) : CtX l (Cond.code y bytes maxL ret) y rm G b L xs av S post px := by
  intro sz
  refine vx_ofW (cc := bytes) (maxL := maxL) (ret := ret) hy rfl ?_
  intro p e s m args below meth c s₁ B hml ht hv
  obtain ⟨rfl, ⟨hsz, hP, hD, hE⟩, hx1, hx2, hx3⟩ := hv
  have hts := atoms_spec (ws := Cond.code y bytes maxL ret :: GT) B.pre
  have hl := lv_entry av (n := maxL) hav
  rw [lg_entry_eq]
  exact body (p, l, e, rm, s, m, av.toArray, below, meth, c) (pA S sz, maxL, vx_MQ below (cQ G (pA S sz) post) (cX G (pA S sz) px) av.toArray s rm.cells rm.slots (pA S sz))
    ⟨B.exec, B.bytes, hml, findClass_of_methodNamed B.named, fun w h => hts w (List.mem_cons_of_mem _ h), hE, fun q h => Or.inr (by rw [← hsz]; exact h), rfl, rfl, hfl⟩ ⟨B.returns, B.notSynchronized, rfl⟩ ⟨hx1, hx2, hx3⟩ s.heap [] _ hP (pW_self hD) va_S.rf hl
/-- what is promised may be said more weakly -/
theorem Ct.imp {l : Launch} {w0 : Cond} {y : MethodName} {rm : Room} {G : Ids} {av : List Value} {S : Ps} {post post' : Option Value → Ps → Prop} {px px' : String → Ps → Prop} (h : Ct l w0 y rm G av S post px) (hp : ∀ v S', post v S' → post' v S') (hx : ∀ E S', px E S' → px' E S') : Ct l w0 y rm G av S post' px' := fun sz => by
  refine MetFree.mono (h sz) (fun _ _ q => q) (fun _ _ _ _ _ q => q) (fun a s o s' _ q => ?_)
  rcases q with ⟨⟨⟨v, S', h1, h2, h3⟩, h4⟩, h5⟩ | ⟨q, h1, E, ce, L, ⟨⟨S', h2, h3⟩, h4⟩, h5⟩
  · exact Or.inl ⟨⟨⟨v, S', h1, hp _ _ h2, h3⟩, h4⟩, h5⟩
  · exact Or.inr ⟨q, h1, E, ce, L, ⟨⟨S', hx _ _ h2, h3⟩, h4⟩, h5⟩
section SCR
variable {Γ : Cx} {G : Ids} {V : Vx} {cc : ByteArray} {own : String} {rm : Room} {nL k n k' n' : Nat} {S : Ps} {lv : List (Nat × Value)} {pc : Nat} {rest : List Value} {b L j : Nat} {xs : Nat → Int32}
theorem r_sld (hC : Ctx Γ G V cc own rm nL) (hX : ScX Γ V b L xs) (hL : L ≤ 260) (hj : j < L) (d : decode cc pc = .ok (.iaload, 1)) (kk : At Γ G V k n S lv (pc + 1) (.int (xs j) :: rest)) : At Γ G V k n S lv pc (.int (nI j) :: .ref b :: rest) := fun H locs ls hP hD hS hl => by
  have e : (nI j).toNatClampNeg = j := nI_clamp (by omega)
  refine va_sld hC.1 hC.2.1 hX.1 hX.2.1 hX.2.2 hS (fun q => q.elim (nI_pos (by omega)) (fun h => ?_)) d ?_
  · rw [e] at h; omega
  · rw [e]; exact kk H locs ls hP hD hS hl
theorem r_slen (hC : Ctx Γ G V cc own rm nL) (hX : ScX Γ V b L xs) (d : decode cc pc = .ok (.arraylength, 1)) (kk : At Γ G V k n S lv (pc + 1) (.int (nI L) :: rest)) : At Γ G V k n S lv pc (.ref b :: rest) := fun H locs ls hP hD hS hl => va_slen hC.1 hC.2.1 hX.1 hX.2.1 hX.2.2 hS d (kk H locs ls hP hD hS hl)
theorem rn_idiv {a b : Nat} (hC : Ctx Γ G V cc own rm nL) (d : decode cc pc = .ok (.idiv, 1)) (ha : a < 2 ^ 31) (h0 : 0 < b) (hb : b < 2 ^ 31) (kk : At Γ G V k n S lv (pc + 1) (.int (nI (a / b)) :: rest)) : At Γ G V k n S lv pc (.int (nI b) :: .int (nI a) :: rest) := fun H locs ls hP hD hS hl => lv_idiv hC.1 hC.2.1 d (nI_ne0 h0 hb) (by rw [pk_div ha h0 hb]; exact kk H locs ls hP hD hS hl)
/-- the callee's premise, with the script -/
theorem pre_ofX {H : Heap} {locs : List Loc} {av : List Value} (hC : Ctx Γ G V cc own rm nL) (hX : ScX Γ V b L xs) (hP : va_P G.1 vwCl (pW G S) H) (hD : va_D V.1 (pW G S)) (hS : va_S V.1 (cS Γ).heap H locs) : PreS (cS Γ) H (va_Pc av (fun U => (U.heap.size = H.size ∧ va_P G.1 vwCl (pW G S) U.heap ∧ va_D (fun _ => True) (pW G S) ∧ Evn G (pA S H.size) U U.heap) ∧ va_X b L xs U U.heap ∧ b < U.heap.size ∧ ¬ pA S H.size b)) av := by
  have h0 := pre_of (av := av) hC hP hD hS
  refine ⟨fun a U g mk q => ?_, fun U hU hW => ⟨rfl, (h0.2 U hU hW).2, ?_, ?_, ?_⟩⟩
  · obtain ⟨q0, ⟨q1, q2, q3, q4⟩, q5, q6, q7⟩ := q
    exact ⟨q0, ⟨q1, q2, q3, Evn.same (s := U) rfl q4⟩, va_X.moved (u := U) (Vm.Alike.refl _) q5, q6, q7⟩
  · rw [hU]
    exact (va_X.moved hW.alike hX.1).kept (hS.2.1 b hX.2.1 hX.2.2)
  · rw [hU]; exact Nat.lt_of_lt_of_le hX.2.1 hS.1
  · intro q
    rcases q with q | q
    · exact hX.2.2 (pW_in hD q)
    · exact absurd (Nat.lt_of_lt_of_le hX.2.1 hS.1) (Nat.not_lt.mpr q)
theorem q_callSX {idx nn maxL : Nat} {y : MethodName} {bytes : ByteArray} {rt : Option FieldType} {rm1 : Room} {As st rest : List Value} {pst : Option Value → Ps → Prop} {pxc : String → Ps → Prop} (hC : Ctx Γ G V cc own rm nL) (hX : ScX Γ V b L xs) (hM : CtX Γ.2.1 (Cond.code y bytes maxL rt) y rm1 G b L xs As S pst pxc) (hw : LkS own idx y bytes maxL rt nn) (hst : st = As.reverse ++ rest) (hnn : As.length = nn) (hstk : (rest.map fun v => v.category).sum ≤ 8)
    (hrm : rm1.frames + 1 ≤ rm.frames ∧ 8 + (maxL + 11) + rm1.locals ≤ rm.locals) (hk1 : k + rm1.cells ≤ k') (hk2 : k' ≤ rm.cells) (hn1 : n + rm1.slots ≤ n') (hn2 : n' ≤ rm.slots) (d : decode cc pc = .ok (.invokestatic idx, 3))
    (kx : ∀ (E : String) (S' : Ps), pxc E S' → False)
    (kk : ∀ (v : Option Value) (S' : Ps), pst v S' → At Γ G V k' n' S' lv (pc + 3) (v.toList ++ rest)) : At Γ G V k n S lv pc st := by
  refine r_run (a := As.toArray) hC (fun H locs ls hP hD hS hl => ?_) (fun E S' h => (kx E S' h).elim) (fun v S' h => at_widen hk1 hn1 (kk v S' h))
  have hts := hC.2.2.2.2.1
  refine vx_runS (As := As) (rest := rest) ⟨hC.1, hC.2.1, hC.2.2.1, hC.2.2.2.1, hts⟩ (hM H.size)
    ⟨⟨rfl, rfl, by rw [hC.2.2.2.2.2.2.2.1]; exact hrm.1, by rw [hC.2.2.2.2.2.2.2.1]; exact hrm.2, gt_pay hts hw.2.2.2.1, List.mem_cons_self, hts _ hw.2.2.2.1, hts _ hw.2.2.1, hw.2.2.2.2.1, fun sig h => ?_, hts _ hw.1⟩, hts _ hw.2.1⟩
    (pre_ofX hC hX hP hD hS) rfl hnn (by show ls.size = nL; rw [hl.1]; exact hC.2.2.2.2.2.2.2.2.1) hst (lv_room hstk) d ⟨by rw [hC.2.2.2.2.2.2.2.1]; exact Nat.le_trans hk1 hk2, by rw [hC.2.2.2.2.2.2.2.1]; exact Nat.le_trans hn1 hn2⟩
  have h2 := hw.2.2.2.2.2
  rw [h] at h2
  exact (Option.some.inj h2).symm
theorem q_callS {idx nn maxL : Nat} {y : MethodName} {bytes : ByteArray} {rt : Option FieldType} {rm1 : Room} {As st rest : List Value} {pst : Option Value → Ps → Prop} {pxc : String → Ps → Prop} (hC : Ctx Γ G V cc own rm nL) (hM : Ct Γ.2.1 (Cond.code y bytes maxL rt) y rm1 G As S pst pxc) (hw : LkS own idx y bytes maxL rt nn) (hst : st = As.reverse ++ rest) (hnn : As.length = nn) (hstk : (rest.map fun v => v.category).sum ≤ 8)
    (hrm : rm1.frames + 1 ≤ rm.frames ∧ 8 + (maxL + 11) + rm1.locals ≤ rm.locals) (hk1 : k + rm1.cells ≤ k') (hk2 : k' ≤ rm.cells) (hn1 : n + rm1.slots ≤ n') (hn2 : n' ≤ rm.slots) (d : decode cc pc = .ok (.invokestatic idx, 3))
    (kx : ∀ (E : String) (S' : Ps), pxc E S' → False)
    (kk : ∀ (v : Option Value) (S' : Ps), pst v S' → At Γ G V k' n' S' lv (pc + 3) (v.toList ++ rest)) : At Γ G V k n S lv pc st :=
  r_callS hC hM hw hst hnn hstk ⟨hrm.1, hrm.2, Nat.le_trans hk1 hk2, Nat.le_trans hn1 hn2⟩ d (fun E S' h => (kx E S' h).elim) (fun v S' h => at_widen hk1 hn1 (kk v S' h))
theorem q_callV {κ idx b nn maxL N : Nat} {y : MethodName} {C : String} {T : u_T} {ty : Nat → FieldType} {bytes : ByteArray} {rt : Option FieldType} {rm1 : Room} {As st rest : List Value} {pst : Option Value → Ps → Prop} {pxc : String → Ps → Prop} (hC : Ctx Γ G V cc own rm nL) (hM : Ct Γ.2.1 (Cond.code y bytes maxL rt) y rm1 G (.ref b :: As) S pst pxc) (hw : LkV own idx y C bytes maxL rt nn) (hc : ClsOK κ C T N ty) (hb : isK S κ b) (hst : st = As.reverse ++ .ref b :: rest) (hnn : As.length = nn) (hstk : (rest.map fun v => v.category).sum ≤ 8)
    (hrm : rm1.frames + 1 ≤ rm.frames ∧ 8 + (maxL + 11) + rm1.locals ≤ rm.locals) (hk1 : k + rm1.cells ≤ k') (hk2 : k' ≤ rm.cells) (hn1 : n + rm1.slots ≤ n') (hn2 : n' ≤ rm.slots) (d : decode cc pc = .ok (.invokevirtual idx, 3))
    (kx : ∀ (E : String) (S' : Ps), pxc E S' → False)
    (kk : ∀ (v : Option Value) (S' : Ps), pst v S' → At Γ G V k' n' S' lv (pc + 3) (v.toList ++ rest)) : At Γ G V k n S lv pc st :=
  r_callV hC hM hw hc hb hst hnn hstk ⟨hrm.1, hrm.2, Nat.le_trans hk1 hk2, Nat.le_trans hn1 hn2⟩ d (fun E S' h => (kx E S' h).elim) (fun v S' h => at_widen hk1 hn1 (kk v S' h))
end SCR
-- the class's calls, where nothing is thrown
section CN
variable {l : Launch} {G : Ids} {S : Ps} {Y : Lay} {σ : Sg} {x n z d b w m : Nat}
theorem inZ_t (hJ : Inv σ n) (hz : z < nz σ) : inZ σ (nI z) = true ∧ iN (nI z) = z := by
  have hn := hJ.1.n
  have e : (nI z).toInt = z := nI_toInt (by omega)
  exact ⟨decide_eq_true (by rw [e]; omega), iN_nI (by omega)⟩
theorem inD_t (hJ : Inv σ n) (hd : d < nd σ) : inD σ (nI d) = true ∧ iN (nI d) = d := by
  have hn := hJ.1.n
  have e : (nI d).toInt = d := nI_toInt (by omega)
  exact ⟨decide_eq_true (by rw [e]; omega), iN_nI (by omega)⟩
theorem inB_t (hJ : Inv σ n) (hb : b < nb σ) : inB σ (nI b) = true ∧ iN (nI b) = b := by
  have hn := hJ.1.n
  have e : (nI b).toInt = b := nI_toInt (by omega)
  exact ⟨decide_eq_true (by rw [e]; omega), iN_nI (by omega)⟩
theorem wi_t {p q : Nat} {w : Nat} (hw : w < 2 ^ 31) (h1 : p ≤ w) (h2 : w ≤ q) : wi p q (nI w) = true := decide_eq_true (by rw [nI_toInt hw]; omega)
theorem cn_inside (hfl : l.stackTraces = false) (hZ : RC G S Y σ x) (hJ : Inv σ n) (hn5 : n ≤ 511) (hz : z < nz σ) : Ct l (Cond.code yX4_inside cX4_inside 2 (some .int)) yX4_inside rm_X4_inside G [.ref x, .int (nI z)] S (fun v S9 => v = some (.int (nI (insB σ z))) ∧ CO G S S9 σ x) (fun _ _ => False) := by
  obtain ⟨e1, e2⟩ := inZ_t hJ hz
  refine (cp_inside (p := nI z) hfl hZ hJ hn5).imp (fun v S9 h => ?_) (fun E S9 h => ?_)
  · rw [e2] at h; exact h.2
  · rw [e1] at h; simp at h
theorem cn_openFor (hfl : l.stackTraces = false) (hZ : RC G S Y σ x) (hJ : Inv σ n) (hn5 : n ≤ 511) (hd : d < nd σ) : Ct l (Cond.code yX4_openFor cX4_openFor 2 (some .int)) yX4_openFor rm_X4_openFor G [.ref x, .int (nI d)] S (fun v S9 => v = some (.int (nI (lft σ d))) ∧ CO G S S9 σ x) (fun _ _ => False) := by
  obtain ⟨e1, e2⟩ := inD_t hJ hd
  refine (cp_openFor (p := nI d) hfl hZ hJ hn5).imp (fun v S9 h => ?_) (fun E S9 h => ?_)
  · rw [e2] at h; exact h.2
  · rw [e1] at h; simp at h
theorem cn_badge (hfl : l.stackTraces = false) (hZ : RC G S Y σ x) (hJ : Inv σ n) (hn5 : n ≤ 511) (hb : b < nb σ) (hw : w ≤ 4) : Ct l (Cond.code yX4_badge cX4_badge 4 (some .int)) yX4_badge rm_X4_badge G [.ref x, .int (nI b), .int (nI w)] S (fun v S9 => v = some (.int (tel σ b w)) ∧ CO G S S9 σ x) (fun _ _ => False) := by
  obtain ⟨e1, e2⟩ := inB_t hJ hb
  have e3 : wi 0 4 (nI w) = true := wi_t (p := 0) (q := 4) (by omega) (by omega) hw
  have e4 : iN (nI w) = w := iN_nI (by omega)
  refine (cp_badge (p := nI b) (q := nI w) hfl hZ hJ hn5).imp (fun v S9 h => ?_) (fun E S9 h => ?_)
  · rw [e2, e4] at h; exact h.2.2
  · rw [e1, e3] at h; simp at h
theorem cn_minutesIn (hfl : l.stackTraces = false) (hZ : RC G S Y σ x) (hJ : Inv σ n) (hn5 : n ≤ 511) (hb : b < nb σ) (hz : z < nz σ) : Ct l (Cond.code yX4_minutesIn cX4_minutesIn 4 (some .int)) yX4_minutesIn rm_X4_minutesIn G [.ref x, .int (nI b), .int (nI z)] S (fun v S9 => v = some (.int (nI (minZ σ b z))) ∧ CO G S S9 σ x) (fun _ _ => False) := by
  obtain ⟨e1, e2⟩ := inB_t hJ hb
  obtain ⟨e3, e4⟩ := inZ_t hJ hz
  refine (cp_minutesIn (p := nI b) (q := nI z) hfl hZ hJ hn5).imp (fun v S9 h => ?_) (fun E S9 h => ?_)
  · rw [e2, e4] at h; exact h.2.2
  · rw [e1, e3] at h; simp at h
theorem cn_wasIn (hfl : l.stackTraces = false) (hZ : RC G S Y σ x) (hJ : Inv σ n) (hn5 : n ≤ 511) (hb : b < nb σ) : Ct l (Cond.code yX4_wasIn cX4_wasIn 4 (some .int)) yX4_wasIn rm_X4_wasIn G [.ref x, .int (nI b), .int (nI (mi σ))] S (fun v S9 => v = some (.int (nI (lkL σ b (mi σ) (mv σ)))) ∧ CO G S S9 σ x) (fun _ _ => False) := by
  have hn := hJ.1.n
  obtain ⟨e1, e2⟩ := inB_t hJ hb
  have e3 : wi 0 (mi σ) (nI (mi σ)) = true := wi_t (p := 0) (q := mi σ) (by omega) (by omega) (by omega)
  have e4 : iN (nI (mi σ)) = mi σ := iN_nI (by omega)
  refine (cp_wasIn (p := nI b) (q := nI (mi σ)) hfl hZ hJ hn5).imp (fun v S9 h => ?_) (fun E S9 h => ?_)
  · rw [e2, e4] at h; exact h.2.2
  · rw [e1, e3] at h; simp at h
theorem cn_tick (hfl : l.stackTraces = false) (hZ : RC G S Y σ x) (hJ : Inv σ n) (hn5 : n ≤ 511) (h1 : 1 ≤ m) (h2 : m ≤ 2000) (h3 : m + mi σ ≤ 99999) : Ct l (Cond.code yX4_tick cX4_tick 2 (some .int)) yX4_tick rm_X4_tick G [.ref x, .int (nI m)] S (fun v S9 => v = some (.int (nI (mi σ + m))) ∧ CO G S S9 (up σ 1 0 (mi σ + m)) x) (fun _ _ => False) := by
  have e1 : wi 1 2000 (nI m) = true := wi_t (p := 1) (q := 2000) (by omega) h1 h2
  have e2 : decide ((nI m).toInt + mi σ ≤ 99999) = true := decide_eq_true (by rw [nI_toInt (by omega)]; omega)
  have e3 : iN (nI m) = m := iN_nI (by omega)
  refine (cp_tick (p := nI m) hfl hZ hJ hn5).imp (fun v S9 h => ?_) (fun E S9 h => ?_)
  · rw [e3] at h; exact h.2.2
  · rw [e1, e2] at h; simp at h
theorem cn_block (hfl : l.stackTraces = false) (hZ : RC G S Y σ x) (hJ : Inv σ n) (hn5 : n ≤ 511) (hb : b < nb σ) : Ct l (Cond.code yX4_block cX4_block 5 (some .boolean)) yX4_block rm_X4_block G [.ref x, .int (nI b), .int (nI 0)] S (fun v S9 => (∃ q : Bool, v = some (.int (b2i q))) ∧ CO G S S9 (blS σ b 0) x) (fun _ _ => False) := by
  obtain ⟨e1, e2⟩ := inB_t hJ hb
  refine (cp_block (p := nI b) (q := false) hfl hZ hJ hn5).imp (fun v S9 h => ?_) (fun E S9 h => ?_)
  · rw [e2] at h; exact ⟨⟨_, h.2.1⟩, h.2.2⟩
  · rw [e1] at h; simp at h
theorem cn_alarm (q : Bool) (hfl : l.stackTraces = false) (hZ : RC G S Y σ x) (hJ : Inv σ n) (hn5 : n ≤ 511) : Ct l (Cond.code yX4_alarm cX4_alarm 3 (some .boolean)) yX4_alarm rm_X4_alarm G [.ref x, .int (nI (bN q))] S (fun v S9 => (∃ q : Bool, v = some (.int (b2i q))) ∧ CO G S S9 (up σ 1 1 (bN q)) x) (fun _ _ => False) := by
  rw [nI_bN]
  exact (cp_alarm (q := q) hfl hZ hJ hn5).imp (fun v S9 h => ⟨⟨_, h.1⟩, h.2⟩) (fun E S9 h => h)
theorem cn_request (hfl : l.stackTraces = false) (hZ : RC G S Y σ x) (hJ : Inv σ n) (hn5 : n ≤ 511) (hb : b < nb σ) (hd : d < nd σ) : Ct l (Cond.code yX4_request cX4_request 6 (some .int)) yX4_request rm_X4_request G [.ref x, .int (nI b), .int (nI d)] S (fun v S9 => v = some (.int (nI (ans σ b d))) ∧ CO G S S9 (rqS σ b d) x) (fun _ _ => False) := by
  obtain ⟨e1, e2⟩ := inB_t hJ hb
  obtain ⟨e3, e4⟩ := inD_t hJ hd
  refine (cp_request (p := nI b) (q := nI d) hfl hZ hJ hn5).imp (fun v S9 h => ?_) (fun E S9 h => ?_)
  · rw [e2, e4] at h; exact h.2.2
  · rw [e1, e3] at h; simp at h
theorem cn_addZone {p q r : Nat} (hfl : l.stackTraces = false) (hZ : RC G S Y σ x) (hJ : Inv σ n) (hn5 : n ≤ 511) (h8 : nz σ < 8) (hp : 1 ≤ p ∧ p ≤ 20) (hq : q ≤ 1439) (hr : r ≤ 1440) (hqr : q ≠ r) : Ct l (Cond.code yX4_addZone cX4_addZone 5 (some .int)) yX4_addZone rm_X4_addZone G [.ref x, .int (nI p), .int (nI q), .int (nI r)] S (fun v S9 => v = some (.int (nI (nz σ))) ∧ CO G S S9 (adZ σ p q r) x) (fun _ _ => False) := by
  have e1 : inH (nI p) (nI q) (nI r) = true := decide_eq_true (by rw [nI_toInt (by omega), nI_toInt (by omega), nI_toInt (by omega)]; omega)
  have e2 : decide (nz σ < 8) = true := decide_eq_true h8
  refine (cp_addZone (p := nI p) (q := nI q) (r := nI r) hfl hZ hJ hn5).imp (fun v S9 h => ?_) (fun E S9 h => ?_)
  · rw [iN_nI (by omega), iN_nI (by omega), iN_nI (by omega)] at h; exact h.2.2
  · rw [e1, e2] at h; simp at h
theorem cn_addDoor {p q r t : Nat} (hfl : l.stackTraces = false) (hZ : RC G S Y σ x) (hJ : Inv σ n) (hn5 : n ≤ 511) (h12 : nd σ < 12) (hp : p < nz σ) (hq : q < nz σ) (hpq : p ≠ q) (hr : r ≤ 9) (ht : t ≤ 3) : Ct l (Cond.code yX4_addDoor cX4_addDoor 8 (some .int)) yX4_addDoor rm_X4_addDoor G [.ref x, .int (nI p), .int (nI q), .int (nI r), .int (nI t)] S (fun v S9 => v = some (.int (nI (nd σ))) ∧ CO G S S9 (adD σ p q r t) x) (fun _ _ => False) := by
  have hn := hJ.1.n
  obtain ⟨e1, e2⟩ := inZ_t hJ hp
  obtain ⟨e3, e4⟩ := inZ_t hJ hq
  have e5 : inE (nI p) (nI q) (nI r) (nI t) = true := decide_eq_true (by rw [nI_toInt (by omega), nI_toInt (by omega), nI_toInt (by omega), nI_toInt (by omega)]; omega)
  have e6 : decide (nd σ < 12) = true := decide_eq_true h12
  refine (cp_addDoor (p := nI p) (q := nI q) (r := nI r) (s := nI t) hfl hZ hJ hn5).imp (fun v S9 h => ?_) (fun E S9 h => ?_)
  · rw [e2, e4, iN_nI (show r < 2 ^ 31 by omega), iN_nI (show t < 2 ^ 31 by omega)] at h; exact h.2.2.2.2
  · rw [e1, e3, e5, e6] at h; simp at h
theorem cn_addBadge {p : Nat} (hfl : l.stackTraces = false) (hZ : RC G S Y σ x) (hJ : Inv σ n) (hn5 : n ≤ 511) (h10 : nb σ < 10) (hp : p ≤ 255) : Ct l (Cond.code yX4_addBadge cX4_addBadge 2 (some .int)) yX4_addBadge rm_X4_addBadge G [.ref x, .int (nI p)] S (fun v S9 => v = some (.int (nI (nb σ))) ∧ CO G S S9 (adB σ 0 p) x) (fun _ _ => False) := by
  have e1 : wi 0 255 (nI p) = true := wi_t (p := 0) (q := 255) (by omega) (by omega) hp
  have e2 : decide (nb σ < 10) = true := decide_eq_true h10
  refine (cp_addBadge (p := nI p) hfl hZ hJ hn5).imp (fun v S9 h => ?_) (fun E S9 h => ?_)
  · rw [iN_nI (by omega)] at h; exact h.2.2
  · rw [e1, e2] at h; simp at h
theorem cn_addVisitor {p : Nat} (hfl : l.stackTraces = false) (hZ : RC G S Y σ x) (hJ : Inv σ n) (hn5 : n ≤ 511) (h10 : nb σ < 10) (hp : p < nb σ) (h0 : hst σ p = 0) : Ct l (Cond.code yX4_addVisitor cX4_addVisitor 3 (some .int)) yX4_addVisitor rm_X4_addVisitor G [.ref x, .int (nI p)] S (fun v S9 => v = some (.int (nI (nb σ))) ∧ CO G S S9 (adB σ (p + 1) 0) x) (fun _ _ => False) := by
  obtain ⟨e1, e2⟩ := inB_t hJ hp
  have e3 : decide (hst σ p = 0) = true := decide_eq_true h0
  have e4 : decide (nb σ < 10) = true := decide_eq_true h10
  refine (cp_addVisitor (p := nI p) hfl hZ hJ hn5).imp (fun v S9 h => ?_) (fun E S9 h => ?_)
  · rw [e2] at h; exact h.2.2.2
  · rw [e2, e1, e3, e4] at h; simp at h
end CN
