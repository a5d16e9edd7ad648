/-! what a method may rest on beside the pool, and the judgement -/
/-- the texts of the exceptions: class, pool entry, text -/
def strsG : List (String × Nat × String) := [("BadgeZones", 53, "no more zones"), ("BadgeZones", 86, "not a door: sides, hold or lock"), ("BadgeZones", 89, "no more doors"), ("BadgeZones", 132, "a visitor cannot be a host"), ("BadgeZones", 145, "what is not 0 to 4"), ("BadgeZones", 150, "minutes are not 1 to 2000"), ("BadgeZones", 153, "later than the last minute"), ("BadgeZones", 177, "not a minute up to now"), ("BadgeZones", 211, "no such zone"), ("BadgeZones", 213, "no such door"), ("BadgeZones", 215, "no such badge"), ("BadgeZones", 217, "capacity is not 1 to 20"), ("BadgeZones", 219, "not hours of a day"), ("BadgeZones", 221, "rights are not 0 to 255"), ("BadgeZones", 223, "no more badges")]
theorem ng_warm {s U : State} (hW : s.WarmedH U.vm) (h : ∀ w ∈ NG, va_Nw w s) : ∀ w ∈ NG, va_Nw w U := by
  intro w hw
  have h1 := h w hw
  have h2 := (List.mem_filter.mp hw).2
  cases w with
  | castable a b => exact va_Nw.warmC hW h1
  | declares x => exact va_Nw.warmD hW h1
  | _ => cases h2
theorem ng_same {s U : State} (e : U.vm = s.vm) (h : ∀ w ∈ NG, va_Nw w s) : ∀ w ∈ NG, va_Nw w U := by
  intro w hw
  have h1 := h w hw
  have h2 := (List.mem_filter.mp hw).2
  cases w with
  | castable a b => exact va_Nw.same rfl e.symm h1
  | declares x => exact va_Nw.same rfl e.symm h1
  | _ => cases h2
def Evn (G : Ids) (A : Nat → Prop) (U : State) (H : Heap) : Prop :=
  va_K G.1 vwCl (tysG G) U ∧ (va_Z "java/util/ArrayList" "DEFAULTCAPACITY_EMPTY_ELEMENTDATA" "[Ljava/lang/Object;" (.ref G.2.2.1) A U H ∧ va_T (.object "java/lang/Object") G.2.2.1 0 (fun _ => .null) A U H) ∧ (vx_Zq Bundle.tN "UNASSIGNED_STACK" Bundle.steD A U H ∧ vx_Zq Bundle.tN "SUPPRESSED_SENTINEL" Bundle.listD A U H) ∧ (∀ q ∈ strsG, ∃ sa, vk_R q.1 q.2.1 q.2.2 sa U) ∧ (va_Mi "[Ljava/lang/Object;" G.2.2.2 U ∧ (∀ w ∈ NG, va_Nw w U) ∧ va_AO "java/lang/Object" U) ∧ True
theorem Evn.warm {G : Ids} {A : Nat → Prop} {s U : State} {H : Heap} (hW : s.WarmedH U.vm) (h : Evn G A s H) : Evn G A U H := by
  obtain ⟨h1, ⟨h2, h3⟩, ⟨h4, h5⟩, h6, ⟨h7, h8, h9⟩, n1⟩ := h
  have hv := hW.alike
  exact ⟨va_K.moved hv h1, ⟨va_Z.moved hv h2, va_T.moved hv h3⟩, ⟨vx_Zq.moved hv h4, vx_Zq.moved hv h5⟩, fun q hq => (h6 q hq).imp fun sa h => vk_R.warm hW h, ⟨va_Mi.moved hv h7, ng_warm hW h8, va_AO.moved hv h9⟩, n1⟩
theorem Evn.same {G : Ids} {A : Nat → Prop} {s U : State} {H : Heap} (e : U.vm = s.vm) (h : Evn G A s H) : Evn G A U H := by
  obtain ⟨h1, ⟨h2, h3⟩, ⟨h4, h5⟩, h6, ⟨h7, h8, h9⟩, n1⟩ := h
  have hv : s.vm.Alike U.vm := by rw [e]; exact Vm.Alike.refl s.vm
  exact ⟨va_K.moved hv h1, ⟨va_Z.moved hv h2, va_T.moved hv h3⟩, ⟨vx_Zq.moved hv h4, vx_Zq.moved hv h5⟩, fun q hq => (h6 q hq).imp fun sa h => vk_R.same e h, ⟨va_Mi.moved hv h7, ng_same e h8, va_AO.moved hv h9⟩, n1⟩
theorem Evn.kept {G : Ids} {A : Nat → Prop} {U : State} {H H1 : Heap} (h : Evn G A U H) (hq : ∀ a : Nat, a < H.size → ¬ A a → H1[a]? = H[a]?) : Evn G A U H1 := by
  obtain ⟨h1, ⟨h2, h3⟩, ⟨h4, h5⟩, h6, h7⟩ := h
  exact ⟨h1, ⟨h2.kept hq, h3.kept hq⟩, ⟨h4.kept hq, h5.kept hq⟩, h6, h7⟩
theorem Evn.narrow {G : Ids} {A B : Nat → Prop} {U : State} {H : Heap} (h : Evn G A U H) (hAB : ∀ q, B q → A q) : Evn G B U H := by
  obtain ⟨h1, ⟨h2, h3⟩, ⟨h4, h5⟩, h6, h7⟩ := h
  exact ⟨h1, ⟨h2.narrow hAB, h3.narrow hAB⟩, ⟨h4.narrow hAB, h5.narrow hAB⟩, h6, h7⟩
abbrev Cx : Type := Program × Launch × Jvm.Env × Room × State × MethodId × Array Value × List Frame × Method × Code
abbrev Vx : Type := (Nat → Prop) × Nat × (State → Prop)
abbrev cS (Γ : Cx) : State := Γ.2.2.2.2.1
abbrev cM (Γ : Cx) : MethodId := Γ.2.2.2.2.2.1
abbrev cA (Γ : Cx) : Array Value := Γ.2.2.2.2.2.2.1
abbrev cB (Γ : Cx) : List Frame := Γ.2.2.2.2.2.2.2.1
abbrev cY (Γ : Cx) : Method := Γ.2.2.2.2.2.2.2.2.1
abbrev cD (Γ : Cx) : Code := Γ.2.2.2.2.2.2.2.2.2
abbrev WW (Γ : Cx) (H : Heap) (locs : List Loc) (k n : Nat) (Q : State → Prop) (g : JFrame) : Prop := W Γ.1 Γ.2.1 Γ.2.2.1 Γ.2.2.2.1 (cS Γ) (cM Γ) (cA Γ) (cB Γ) (cY Γ) (cD Γ) H locs k n Q g
abbrev WX (Γ : Cx) (H : Heap) (locs : List Loc) (k n : Nat) (Q : State → Prop) (g : JFrame) (q : Addr) : Prop := vx_W Γ.1 Γ.2.1 Γ.2.2.1 Γ.2.2.2.1 (cS Γ) (cM Γ) (cA Γ) (cB Γ) (cY Γ) (cD Γ) H locs k n Q g q
/-- at pc, over the pool S, with these locals and this stack, the walk comes to its end -/
def At (Γ : Cx) (G : Ids) (V : Vx) (k n : Nat) (S : Ps) (lv : List (Nat × Value)) (pc : Nat) (st : List Value) : Prop :=
  ∀ (H : Heap) (locs : List Loc) (ls : Array Slot), va_P G.1 vwCl (pW G S) H → va_D V.1 (pW G S) → va_S V.1 (cS Γ).heap H locs → lv_has ls V.2.1 lv → WW Γ H locs k n V.2.2 (F0 (cM Γ) pc ls st)
/-- an exception of class E is thrown over the frame at pc -/
def AtX (Γ : Cx) (G : Ids) (V : Vx) (k n : Nat) (S : Ps) (lv : List (Nat × Value)) (pc : Nat) (rest : List Value) (E : String) : Prop :=
  ∀ (H : Heap) (locs : List Loc) (ls : Array Slot) (ce : Cell) (q : Nat), va_P G.1 vwCl (pW G S) H → va_D V.1 (pW G S) → va_S V.1 (cS Γ).heap H locs → lv_has ls V.2.1 lv → H[q]? = some ce → ce.vm = .none → (cS Γ).vm.findClass E = some ce.cls → WX Γ H locs k n V.2.2 (F0 (cM Γ) pc ls rest) q
def Ctx (Γ : Cx) (G : Ids) (V : Vx) (cc : ByteArray) (own : String) (rm : Room) (nL : Nat) : Prop :=
  Γ.1.tables.exec = Jvm.exec ∧ (cD Γ).code = cc ∧ (cD Γ).maxLocals = nL ∧ (cS Γ).vm.findClass own = some (cM Γ).cls ∧ (∀ w ∈ GT, w.before (cA Γ) (cS Γ) = true) ∧ Evn G V.1 (cS Γ) (cS Γ).heap ∧ (∀ q : Nat, (cS Γ).heap.size ≤ q → V.1 q) ∧ Γ.2.2.2.1 = rm ∧ V.2.1 = nL ∧ Γ.2.1.stackTraces = false
def cQ (G : Ids) (A : Nat → Prop) (post : Option Value → Ps → Prop) : Array Value → State → Outcome → State → Prop := fun _ st o t => (∃ (v : Option Value) (S' : Ps), o = .returned v ∧ post v S' ∧ va_P G.1 vwCl (pW G S') t.heap ∧ va_D A (pW G S')) ∧ va_F A st t
def cX (G : Ids) (A : Nat → Prop) (px : String → Ps → Prop) : String → State → State → Prop := fun E st t => (∃ S' : Ps, px E S' ∧ va_P G.1 vwCl (pW G S') t.heap ∧ va_D A (pW G S')) ∧ va_F A st t
/-- which cells a method may change -/
def pA (S : Ps) (sz : Nat) : Nat → Prop := fun q => q ∈ pL S ∨ sz ≤ q
/-- what the end of a method owes -/
def Rt (Γ : Cx) (G : Ids) (V : Vx) (rm : Room) (ret : Option FieldType) (post : Option Value → Ps → Prop) (px : String → Ps → Prop) : Prop :=
  (cY Γ).sig.returnType = ret ∧ (cY Γ).locks = false ∧ V.2.2 = vx_MQ (cB Γ) (cQ G V.1 post) (cX G V.1 px) (cA Γ) (cS Γ) rm.cells rm.slots V.1
/-- a contract, from pool to pool -/
def Ct (l : Launch) (w0 : Cond) (y : MethodName) (rm : Room) (G : Ids) (av : List Value) (S : Ps) (post : Option Value → Ps → Prop) (px : String → Ps → Prop) : Prop :=
  ∀ sz : Nat, vx_Met l y (w0 :: GT) rm (va_Pc av (fun U => U.heap.size = sz ∧ va_P G.1 vwCl (pW G S) U.heap ∧ va_D (fun _ => True) (pW G S) ∧ Evn G (pA S sz) U U.heap)) (cQ G (pA S sz) post) (cX G (pA S sz) px) rm.cells rm.slots (pA S sz)
theorem pW_in {A : Nat → Prop} {G : Ids} {S : Ps} {q : Nat} (hD : va_D A (pW G S)) (h : q ∈ pL S) : A q := by
  obtain ⟨k, hk⟩ := pW_get (G := G) h
  exact hD.2 k _ hk
theorem pW_of {G : Ids} {S : Ps} {k : Nat} {q : Nat × va_E} (h : (pW G S)[k]? = some q) : q.1 ∈ pL S ∧ q.2 = pE G S q.1 := by
  have h1 : q ∈ pW G S := List.mem_of_getElem? h
  unfold pW va_pl at h1
  obtain ⟨a, ha, rfl⟩ := List.mem_map.mp h1
  exact ⟨ha, rfl⟩
theorem pW_self {A : Nat → Prop} {G : Ids} {S : Ps} {sz : Nat} (hD : va_D A (pW G S)) : va_D (pA S sz) (pW G S) := hD.weaken (fun _ _ hk _ => Or.inl (pW_of hk).1)
/-- the entry of a contract's proof -/
theorem Ct.of {l : Launch} {y : MethodName} {bytes : ByteArray} {maxL : Nat} {ret : Option FieldType} {rm : Room} {G : Ids} {av : List Value} {S : Ps} {post : Option Value → Ps → Prop} {px : String → Ps → Prop} (hfl : l.stackTraces = false) (hy : plainName y.cls = true) (hav : (lg_sl av).length ≤ maxL)
    (body : ∀ (Γ : Cx) (V : Vx), Ctx Γ G V bytes y.cls rm maxL → Rt Γ G V rm ret post px → (∀ x ∈ (cD Γ).exceptionTable.toList, False) → (cY Γ).name = y.name → At Γ G V 0 0 S (lv_args 0 av) 0 []) : Ct l (Cond.code y bytes maxL ret) y rm G av S post px := by
  intro sz
  refine vx_ofW (cc := bytes) (maxL := maxL) (ret := ret) hy rfl ?_
  intro p e s m args below meth c s₁ B hml ht hv
  obtain ⟨rfl, hsz, hP, hD, hE⟩ := hv
  have hts := atoms_spec (ws := Cond.code y bytes maxL ret :: GT) B.pre
  have hl := lv_entry av (n := maxL) hav
  rw [lg_entry_eq]
  exact body (p, l, e, rm, s, m, av.toArray, below, meth, c) (pA S sz, maxL, vx_MQ below (cQ G (pA S sz) post) (cX G (pA S sz) px) av.toArray s rm.cells rm.slots (pA S sz))
    ⟨B.exec, B.bytes, hml, findClass_of_methodNamed B.named, fun w h => hts w (List.mem_cons_of_mem _ h), hE, fun q h => Or.inr (by rw [← hsz]; exact h), rfl, rfl, hfl⟩ ⟨B.returns, B.notSynchronized, rfl⟩ ht (name_of_methodNamed B.named B.method).1 s.heap [] _ hP (pW_self hD) va_S.rf hl
/-- the same for a body with a table of handlers -/
theorem Ct.ofH {l : Launch} {y : MethodName} {bytes : ByteArray} {maxL : Nat} {ret : Option FieldType} {hh : List (Nat × Nat × Nat × Nat)} {rm : Room} {G : Ids} {av : List Value} {S : Ps} {post : Option Value → Ps → Prop} {px : String → Ps → Prop} (hfl : l.stackTraces = false) (hy : plainName y.cls = true) (hav : (lg_sl av).length ≤ maxL)
    (body : ∀ (Γ : Cx) (V : Vx), Ctx Γ G V bytes y.cls rm maxL → Rt Γ G V rm ret post px → (cD Γ).exceptionTable.toList = tableOf hh → (cY Γ).name = y.name → At Γ G V 0 0 S (lv_args 0 av) 0 []) : Ct l (Cond.codeWith y bytes maxL ret hh) y rm G av S post px := by
  intro sz
  refine vx_ofWH (cc := bytes) (maxL := maxL) (ret := ret) (hh := hh) hy rfl ?_
  intro p e s m args below meth c s₁ B hml hv
  obtain ⟨rfl, hsz, hP, hD, hE⟩ := hv
  have hts := atoms_spec (ws := Cond.codeWith y bytes maxL ret hh :: GT) B.pre
  have hl := lv_entry av (n := maxL) hav
  rw [lg_entry_eq]
  exact body (p, l, e, rm, s, m, av.toArray, below, meth, c) (pA S sz, maxL, vx_MQ below (cQ G (pA S sz) post) (cX G (pA S sz) px) av.toArray s rm.cells rm.slots (pA S sz))
    ⟨B.exec, B.bytes, hml, findClass_of_methodNamed B.named, fun w h => hts w (List.mem_cons_of_mem _ h), hE, fun q h => Or.inr (by rw [← hsz]; exact h), rfl, rfl, hfl⟩ ⟨B.returns, B.notSynchronized, rfl⟩ (vx_table (x := y) B (hts _ List.mem_cons_self)) (name_of_methodNamed B.named B.method).1 s.heap [] _ hP (pW_self hD) va_S.rf hl
-- locals
def lvG : List (Nat × Value) → Nat → Option Value
  | [], _ => none
  | (j, v) :: t, i => bif Nat.beq j i then some v else lvG t i
def lvS1 (lv : List (Nat × Value)) (i : Nat) (v : Value) : List (Nat × Value) := (i, v) :: lv.filter (fun q => !(q.1 == i) && !(q.1 + 1 == i && q.2.category == 2))
def lvS2 (lv : List (Nat × Value)) (i : Nat) (v : Value) : List (Nat × Value) := (i, v) :: lv.filter (fun q => !(q.1 == i) && (!(q.1 == i + 1) && !(q.1 + 1 == i && q.2.category == 2)))
theorem lvG_mem {lv : List (Nat × Value)} {i : Nat} {v : Value} (h : lvG lv i = some v) : (i, v) ∈ lv := by
  induction lv with
  | nil => cases h
  | cons q t ih =>
    obtain ⟨j, w⟩ := q
    unfold lvG at h
    cases hb : Nat.beq j i with
    | true =>
      rw [hb] at h
      cases Nat.eq_of_beq_eq_true hb
      cases h
      exact List.mem_cons_self
    | false =>
      rw [hb] at h
      exact List.mem_cons_of_mem _ (ih h)
theorem lvG_at {ls : Array Slot} {nL : Nat} {lv : List (Nat × Value)} {i : Nat} {v : Value} (hl : lv_has ls nL lv) (h : lvG lv i = some v) : ls[i]? = some (.val v) := hl.2.2 (i, v) (lvG_mem h)
def lvLe : List (Nat × Value) → List (Nat × Value) → Prop
  | [], _ => True
  | (i, v) :: t, lv => lvG lv i = some v ∧ lvLe t lv
theorem lvLe_has {ls : Array Slot} {nL : Nat} {lv lv' : List (Nat × Value)} (h : lvLe lv' lv) (hl : lv_has ls nL lv) : lv_has ls nL lv' := by
  refine ⟨hl.1, hl.2.1, ?_⟩
  induction lv' with
  | nil => exact fun q hq => by cases hq
  | cons q t ih =>
    obtain ⟨j, w⟩ := q
    intro x hx
    rcases List.mem_cons.mp hx with rfl | hx
    · exact lvG_at hl h.1
    · exact ih h.2 x hx
section ROWS
variable {Γ : Cx} {G : Ids} {V : Vx} {cc : ByteArray} {own : String} {rm : Room} {nL k n : Nat} {S : Ps} {lv : List (Nat × Value)} {pc : Nat} {rest : List Value}
/-- fewer locals -/
theorem at_lv {lv' : List (Nat × Value)} {st : List Value} (h : lvLe lv' lv) (kk : At Γ G V k n S lv' pc st) : At Γ G V k n S lv pc st := fun H locs ls hP hD hS hl => kk H locs ls hP hD hS (lvLe_has h hl)
theorem at_widen {st : List Value} {k' n' : Nat} (h1 : k ≤ k') (h2 : n ≤ n') (kk : At Γ G V k' n' S lv pc st) : At Γ G V k n S lv pc st := fun H locs ls hP hD hS hl => W.widen h1 h2 (kk H locs ls hP hD hS hl)
theorem at_know {st : List Value} (hC : Ctx Γ G V cc own rm nL) (kk : G.2.2.1 ∉ pL S → At Γ G V k n S lv pc st) : At Γ G V k n S lv pc st := fun H locs ls hP hD hS hl => kk (fun h => hC.2.2.2.2.2.1.2.1.2.out (pW_in hD h)) H locs ls hP hD hS hl
theorem at_st {st st' : List Value} (h : st = st') (kk : At Γ G V k n S lv pc st') : At Γ G V k n S lv pc st := h ▸ kk
theorem at_S {st : List Value} {S' : Ps} (h : S = S') (kk : At Γ G V k n S' lv pc st) : At Γ G V k n S lv pc st := h ▸ kk
theorem r_iadd {x y : Int32} (hC : Ctx Γ G V cc own rm nL) (d : decode cc pc = .ok (.iadd, 1)) (kk : At Γ G V k n S lv (pc + 1) (.int (x + y) :: rest)) : At Γ G V k n S lv pc (.int y :: .int x :: rest) := fun H locs ls hP hD hS hl => lv_iadd hC.1 hC.2.1 d (kk H locs ls hP hD hS hl)
theorem r_isub {x y : Int32} (hC : Ctx Γ G V cc own rm nL) (d : decode cc pc = .ok (.isub, 1)) (kk : At Γ G V k n S lv (pc + 1) (.int (x - y) :: rest)) : At Γ G V k n S lv pc (.int y :: .int x :: rest) := fun H locs ls hP hD hS hl => lv_isub hC.1 hC.2.1 d (kk H locs ls hP hD hS hl)
theorem r_imul {x y : Int32} (hC : Ctx Γ G V cc own rm nL) (d : decode cc pc = .ok (.imul, 1)) (kk : At Γ G V k n S lv (pc + 1) (.int (x * y) :: rest)) : At Γ G V k n S lv pc (.int y :: .int x :: rest) := fun H locs ls hP hD hS hl => lv_imul hC.1 hC.2.1 d (kk H locs ls hP hD hS hl)
theorem r_iand {x y : Int32} (hC : Ctx Γ G V cc own rm nL) (d : decode cc pc = .ok (.iand, 1)) (kk : At Γ G V k n S lv (pc + 1) (.int (x &&& y) :: rest)) : At Γ G V k n S lv pc (.int y :: .int x :: rest) := fun H locs ls hP hD hS hl => lv_iand hC.1 hC.2.1 d (kk H locs ls hP hD hS hl)
theorem r_ior {x y : Int32} (hC : Ctx Γ G V cc own rm nL) (d : decode cc pc = .ok (.ior, 1)) (kk : At Γ G V k n S lv (pc + 1) (.int (x ||| y) :: rest)) : At Γ G V k n S lv pc (.int y :: .int x :: rest) := fun H locs ls hP hD hS hl => lv_ior hC.1 hC.2.1 d (kk H locs ls hP hD hS hl)
theorem rn_iadd {a b : Nat} (hC : Ctx Γ G V cc own rm nL) (d : decode cc pc = .ok (.iadd, 1)) (kk : At Γ G V k n S lv (pc + 1) (.int (nI (a + b)) :: rest)) : At Γ G V k n S lv pc (.int (nI b) :: .int (nI a) :: rest) := r_iadd hC d (by rw [nI_add]; exact kk)
theorem rn_imul {a b : Nat} (hC : Ctx Γ G V cc own rm nL) (d : decode cc pc = .ok (.imul, 1)) (kk : At Γ G V k n S lv (pc + 1) (.int (nI (a * b)) :: rest)) : At Γ G V k n S lv pc (.int (nI b) :: .int (nI a) :: rest) := r_imul hC d (by rw [pk_mul]; exact kk)
theorem rn_isub {a b : Nat} (hC : Ctx Γ G V cc own rm nL) (d : decode cc pc = .ok (.isub, 1)) (h : b ≤ a) (kk : At Γ G V k n S lv (pc + 1) (.int (nI (a - b)) :: rest)) : At Γ G V k n S lv pc (.int (nI b) :: .int (nI a) :: rest) := r_isub hC d (by rw [pk_sub h]; exact kk)
theorem r_ladd {x y : Int64} (hC : Ctx Γ G V cc own rm nL) (d : decode cc pc = .ok (.ladd, 1)) (kk : At Γ G V k n S lv (pc + 1) (.long (x + y) :: rest)) : At Γ G V k n S lv pc (.long y :: .long x :: rest) := fun H locs ls hP hD hS hl => lv_ladd hC.1 hC.2.1 d (kk H locs ls hP hD hS hl)
theorem r_lmul {x y : Int64} (hC : Ctx Γ G V cc own rm nL) (d : decode cc pc = .ok (.lmul, 1)) (kk : At Γ G V k n S lv (pc + 1) (.long (x * y) :: rest)) : At Γ G V k n S lv pc (.long y :: .long x :: rest) := fun H locs ls hP hD hS hl => lv_lmul hC.1 hC.2.1 d (kk H locs ls hP hD hS hl)
theorem r_ishl {x y : Int32} (hC : Ctx Γ G V cc own rm nL) (d : decode cc pc = .ok (.ishl, 1)) (kk : At Γ G V k n S lv (pc + 1) (.int (x <<< (y &&& 31)) :: rest)) : At Γ G V k n S lv pc (.int y :: .int x :: rest) := fun H locs ls hP hD hS hl => lv_ishl hC.1 hC.2.1 d (kk H locs ls hP hD hS hl)
theorem r_ishr {x y : Int32} (hC : Ctx Γ G V cc own rm nL) (d : decode cc pc = .ok (.ishr, 1)) (kk : At Γ G V k n S lv (pc + 1) (.int (x >>> (y &&& 31)) :: rest)) : At Γ G V k n S lv pc (.int y :: .int x :: rest) := fun H locs ls hP hD hS hl => lv_ishr hC.1 hC.2.1 d (kk H locs ls hP hD hS hl)
theorem rn_irem {a b : Nat} (hC : Ctx Γ G V cc own rm nL) (d : decode cc pc = .ok (.irem, 1)) (ha : a < 2 ^ 31) (h0 : 0 < b) (hb : b < 2 ^ 31) (kk : At Γ G V k n S lv (pc + 1) (.int (nI (a % b)) :: rest)) : At Γ G V k n S lv pc (.int (nI b) :: .int (nI a) :: rest) := fun H locs ls hP hD hS hl => lv_irem hC.1 hC.2.1 d (nI_ne0 h0 hb) (by rw [pk_rem ha h0 hb]; exact kk H locs ls hP hD hS hl)
theorem r_lcmp {x y : Int64} (hC : Ctx Γ G V cc own rm nL) (d : decode cc pc = .ok (.lcmp, 1)) (kk : At Γ G V k n S lv (pc + 1) (.int (lg_cmp x y) :: rest)) : At Γ G V k n S lv pc (.long y :: .long x :: rest) := fun H locs ls hP hD hS hl => W.lcmp hC.1 hC.2.1 d (kk H locs ls hP hD hS hl)
theorem r_dcmp {x y : UInt64} {op : CmpOp} (hC : Ctx Γ G V cc own rm nL) (d : decode cc pc = .ok (.dcmp op, 1)) (kk : At Γ G V k n S lv (pc + 1) (.int (Op.cmpValue (FP.dcmp x y) op) :: rest)) : At Γ G V k n S lv pc (.double y :: .double x :: rest) := fun H locs ls hP hD hS hl => lv_dcmp hC.1 hC.2.1 d (kk H locs ls hP hD hS hl)
theorem r_ddiv {x y : UInt64} (hC : Ctx Γ G V cc own rm nL) (d : decode cc pc = .ok (.ddiv, 1)) (hne : vf_n64 (FP.ddiv x y)) (kk : At Γ G V k n S lv (pc + 1) (.double (FP.ddiv x y) :: rest)) : At Γ G V k n S lv pc (.double y :: .double x :: rest) := fun H locs ls hP hD hS hl => lv_ddiv hC.1 hC.2.1 d hne (kk H locs ls hP hD hS hl)
theorem r_i2d {x : Int32} (hC : Ctx Γ G V cc own rm nL) (d : decode cc pc = .ok (.i2d, 1)) (kk : At Γ G V k n S lv (pc + 1) (.double (FP.i2d x) :: rest)) : At Γ G V k n S lv pc (.int x :: rest) := fun H locs ls hP hD hS hl => lv_i2d hC.1 hC.2.1 d (kk H locs ls hP hD hS hl)
theorem r_i2l {x : Int32} (hC : Ctx Γ G V cc own rm nL) (d : decode cc pc = .ok (.i2l, 1)) (kk : At Γ G V k n S lv (pc + 1) (.long x.toInt64 :: rest)) : At Γ G V k n S lv pc (.int x :: rest) := fun H locs ls hP hD hS hl => lv_i2l hC.1 hC.2.1 d rfl (kk H locs ls hP hD hS hl)
theorem r_dconst0  (hC : Ctx Γ G V cc own rm nL) (d : decode cc pc = .ok (.dconst 0, 1)) (kk : At Γ G V k n S lv (pc + 1) (.double 0 :: rest)) : At Γ G V k n S lv pc (rest) := fun H locs ls hP hD hS hl => lv_dconst0 hC.1 hC.2.1 d (kk H locs ls hP hD hS hl)
theorem r_dup {va : Value} (hC : Ctx Γ G V cc own rm nL) (d : decode cc pc = .ok (.dup, 1)) (hva : va.category = 1) (kk : At Γ G V k n S lv (pc + 1) (va :: va :: rest)) : At Γ G V k n S lv pc (va :: rest) := fun H locs ls hP hD hS hl => lv_dup hC.1 hC.2.1 d hva (kk H locs ls hP hD hS hl)
theorem r_pop {va : Value} (hC : Ctx Γ G V cc own rm nL) (d : decode cc pc = .ok (.pop, 1)) (hva : va.category = 1) (kk : At Γ G V k n S lv (pc + 1) rest) : At Γ G V k n S lv pc (va :: rest) := fun H locs ls hP hD hS hl => lv_pop hC.1 hC.2.1 d hva (kk H locs ls hP hD hS hl)
theorem r_dup_x1 {va vb : Value} (hC : Ctx Γ G V cc own rm nL) (d : decode cc pc = .ok (.dup_x1, 1)) (hva : va.category = 1) (hvb : vb.category = 1) (kk : At Γ G V k n S lv (pc + 1) (va :: vb :: va :: rest)) : At Γ G V k n S lv pc (va :: vb :: rest) := fun H locs ls hP hD hS hl => lv_dup_x1 hC.1 hC.2.1 d hva hvb (kk H locs ls hP hD hS hl)
theorem r_dup2 {va vb : Value} (hC : Ctx Γ G V cc own rm nL) (d : decode cc pc = .ok (.dup2, 1)) (hva : va.category = 1) (hvb : vb.category = 1) (kk : At Γ G V k n S lv (pc + 1) (va :: vb :: va :: vb :: rest)) : At Γ G V k n S lv pc (va :: vb :: rest) := fun H locs ls hP hD hS hl => lv_dup2_11 hC.1 hC.2.1 d hva hvb (kk H locs ls hP hD hS hl)
theorem r_iconst {z : Int} (v : Int32) (hC : Ctx Γ G V cc own rm nL) (d : decode cc pc = .ok (.iconst z, 1)) (hv : Int32.ofInt z = v) (kk : At Γ G V k n S lv (pc + 1) (.int v :: rest)) : At Γ G V k n S lv pc rest := fun H locs ls hP hD hS hl => lv_iconst hC.1 hC.2.1 d hv (kk H locs ls hP hD hS hl)
theorem r_bipush {z : Int} (v : Int32) (hC : Ctx Γ G V cc own rm nL) (d : decode cc pc = .ok (.bipush z, 2)) (hv : (Int8.ofInt z).toInt32 = v) (kk : At Γ G V k n S lv (pc + 2) (.int v :: rest)) : At Γ G V k n S lv pc rest := fun H locs ls hP hD hS hl => lv_bipush hC.1 hC.2.1 d hv (kk H locs ls hP hD hS hl)
theorem r_sipush {z : Int} (v : Int32) (hC : Ctx Γ G V cc own rm nL) (d : decode cc pc = .ok (.sipush z, 3)) (hv : (Int16.ofInt z).toInt32 = v) (kk : At Γ G V k n S lv (pc + 3) (.int v :: rest)) : At Γ G V k n S lv pc rest := fun H locs ls hP hD hS hl => lv_sipush hC.1 hC.2.1 d hv (kk H locs ls hP hD hS hl)
theorem r_lconst {z : Fin 2} (v : Int64) (hC : Ctx Γ G V cc own rm nL) (d : decode cc pc = .ok (.lconst z, 1)) (hv : Int64.ofNat (z : Nat) = v) (kk : At Γ G V k n S lv (pc + 1) (.long v :: rest)) : At Γ G V k n S lv pc rest := fun H locs ls hP hD hS hl => lv_lconst hC.1 hC.2.1 d hv (kk H locs ls hP hD hS hl)
theorem r_ldc {ix : Nat} {v : Int32} (hC : Ctx Γ G V cc own rm nL) (d : decode cc pc = .ok (.ldc ix, 2)) (hw : Cond.constant own ix v ∈ GT) (kk : At Γ G V k n S lv (pc + 2) (.int v :: rest)) : At Γ G V k n S lv pc rest := fun H locs ls hP hD hS hl => lv_ldc hC.1 hC.2.1 hC.2.2.2.1 (hC.2.2.2.2.1 _ hw) d (kk H locs ls hP hD hS hl)
theorem r_ldc2 {ix : Nat} {v : Int64} (hC : Ctx Γ G V cc own rm nL) (d : decode cc pc = .ok (.ldc2_w ix, 3)) (hw : Cond.constantLong own ix v ∈ GT) (kk : At Γ G V k n S lv (pc + 3) (.long v :: rest)) : At Γ G V k n S lv pc rest := fun H locs ls hP hD hS hl => lv_ldc2 hC.1 hC.2.1 hC.2.2.2.1 (hC.2.2.2.2.1 _ hw) d (kk H locs ls hP hD hS hl)
theorem r_null (hC : Ctx Γ G V cc own rm nL) (d : decode cc pc = .ok (.aconst_null, 1)) (kk : At Γ G V k n S lv (pc + 1) (.null :: rest)) : At Γ G V k n S lv pc rest := fun H locs ls hP hD hS hl => lv_null hC.1 hC.2.1 d (kk H locs ls hP hD hS hl)
theorem r_iload_n {z : Fin 4} {x : Int32} (hC : Ctx Γ G V cc own rm nL) (d : decode cc pc = .ok (.iload_n z, 1)) (h : lvG lv (z : Nat) = some (.int x)) (kk : At Γ G V k n S lv (pc + 1) (.int x :: rest)) : At Γ G V k n S lv pc rest := fun H locs ls hP hD hS hl => lv_iload_n hC.1 hC.2.1 d rfl (lvG_at hl h) (kk H locs ls hP hD hS hl)
theorem r_iload {z : Nat} {x : Int32} (hC : Ctx Γ G V cc own rm nL) (d : decode cc pc = .ok (.iload z, 2)) (h : lvG lv z = some (.int x)) (kk : At Γ G V k n S lv (pc + 2) (.int x :: rest)) : At Γ G V k n S lv pc rest := fun H locs ls hP hD hS hl => lv_iload hC.1 hC.2.1 d (lvG_at hl h) (kk H locs ls hP hD hS hl)
theorem r_lload_n {z : Fin 4} {x : Int64} (hC : Ctx Γ G V cc own rm nL) (d : decode cc pc = .ok (.lload_n z, 1)) (h : lvG lv (z : Nat) = some (.long x)) (kk : At Γ G V k n S lv (pc + 1) (.long x :: rest)) : At Γ G V k n S lv pc rest := fun H locs ls hP hD hS hl => lv_lload_n hC.1 hC.2.1 d rfl (lvG_at hl h) (kk H locs ls hP hD hS hl)
theorem r_lload {z : Nat} {x : Int64} (hC : Ctx Γ G V cc own rm nL) (d : decode cc pc = .ok (.lload z, 2)) (h : lvG lv z = some (.long x)) (kk : At Γ G V k n S lv (pc + 2) (.long x :: rest)) : At Γ G V k n S lv pc rest := fun H locs ls hP hD hS hl => lv_lload hC.1 hC.2.1 d (lvG_at hl h) (kk H locs ls hP hD hS hl)
theorem r_aload_n {z : Fin 4} {x : Nat} (hC : Ctx Γ G V cc own rm nL) (d : decode cc pc = .ok (.aload_n z, 1)) (h : lvG lv (z : Nat) = some (.ref x)) (kk : At Γ G V k n S lv (pc + 1) (.ref x :: rest)) : At Γ G V k n S lv pc rest := fun H locs ls hP hD hS hl => lv_aload_n hC.1 hC.2.1 d rfl (lvG_at hl h) (kk H locs ls hP hD hS hl)
theorem r_aload {z : Nat} {x : Nat} (hC : Ctx Γ G V cc own rm nL) (d : decode cc pc = .ok (.aload z, 2)) (h : lvG lv z = some (.ref x)) (kk : At Γ G V k n S lv (pc + 2) (.ref x :: rest)) : At Γ G V k n S lv pc rest := fun H locs ls hP hD hS hl => lv_aload hC.1 hC.2.1 d (lvG_at hl h) (kk H locs ls hP hD hS hl)
theorem r_dload_n {z : Fin 4} {x : UInt64} (hC : Ctx Γ G V cc own rm nL) (d : decode cc pc = .ok (.dload_n z, 1)) (h : lvG lv (z : Nat) = some (.double x)) (kk : At Γ G V k n S lv (pc + 1) (.double x :: rest)) : At Γ G V k n S lv pc rest := fun H locs ls hP hD hS hl => lv_dload_n hC.1 hC.2.1 d rfl (lvG_at hl h) (kk H locs ls hP hD hS hl)
theorem r_dload {z : Nat} {x : UInt64} (hC : Ctx Γ G V cc own rm nL) (d : decode cc pc = .ok (.dload z, 2)) (h : lvG lv z = some (.double x)) (kk : At Γ G V k n S lv (pc + 2) (.double x :: rest)) : At Γ G V k n S lv pc rest := fun H locs ls hP hD hS hl => lv_dload hC.1 hC.2.1 d (lvG_at hl h) (kk H locs ls hP hD hS hl)
theorem r_aload_nN {z : Fin 4} (hC : Ctx Γ G V cc own rm nL) (d : decode cc pc = .ok (.aload_n z, 1)) (h : lvG lv (z : Nat) = some .null) (kk : At Γ G V k n S lv (pc + 1) (.null :: rest)) : At Γ G V k n S lv pc rest := fun H locs ls hP hD hS hl => lv_aload_nN hC.1 hC.2.1 d rfl (lvG_at hl h) (kk H locs ls hP hD hS hl)
theorem r_aloadN {z : Nat} (hC : Ctx Γ G V cc own rm nL) (d : decode cc pc = .ok (.aload z, 2)) (h : lvG lv z = some .null) (kk : At Γ G V k n S lv (pc + 2) (.null :: rest)) : At Γ G V k n S lv pc rest := fun H locs ls hP hD hS hl => lv_aloadN hC.1 hC.2.1 d (lvG_at hl h) (kk H locs ls hP hD hS hl)
theorem r_istore_n {z : Fin 4} {x : Int32} (hC : Ctx Γ G V cc own rm nL) (d : decode cc pc = .ok (.istore_n z, 1)) (hn : (z : Nat) < nL) (kk : At Γ G V k n S (lvS1 lv (z : Nat) (.int x)) (pc + 1) rest) : At Γ G V k n S lv pc (.int x :: rest) := fun H locs ls hP hD hS hl => lv_istore_n hC.1 hC.2.1 d rfl hl (by rw [hC.2.2.2.2.2.2.2.2.1]; exact hn) rfl (fun ls1 hl1 => kk H locs ls1 hP hD hS hl1)
theorem r_istore {z : Nat} {x : Int32} (hC : Ctx Γ G V cc own rm nL) (d : decode cc pc = .ok (.istore z, 2)) (hn : z < nL) (kk : At Γ G V k n S (lvS1 lv z (.int x)) (pc + 2) rest) : At Γ G V k n S lv pc (.int x :: rest) := fun H locs ls hP hD hS hl => lv_istore hC.1 hC.2.1 d hl (by rw [hC.2.2.2.2.2.2.2.2.1]; exact hn) rfl (fun ls1 hl1 => kk H locs ls1 hP hD hS hl1)
theorem r_astore_n {z : Fin 4} {x : Nat} (hC : Ctx Γ G V cc own rm nL) (d : decode cc pc = .ok (.astore_n z, 1)) (hn : (z : Nat) < nL) (kk : At Γ G V k n S (lvS1 lv (z : Nat) (.ref x)) (pc + 1) rest) : At Γ G V k n S lv pc (.ref x :: rest) := fun H locs ls hP hD hS hl => lv_astore_n hC.1 hC.2.1 d rfl hl (by rw [hC.2.2.2.2.2.2.2.2.1]; exact hn) rfl (fun ls1 hl1 => kk H locs ls1 hP hD hS hl1)
theorem r_astore {z : Nat} {x : Nat} (hC : Ctx Γ G V cc own rm nL) (d : decode cc pc = .ok (.astore z, 2)) (hn : z < nL) (kk : At Γ G V k n S (lvS1 lv z (.ref x)) (pc + 2) rest) : At Γ G V k n S lv pc (.ref x :: rest) := fun H locs ls hP hD hS hl => lv_astore hC.1 hC.2.1 d hl (by rw [hC.2.2.2.2.2.2.2.2.1]; exact hn) rfl (fun ls1 hl1 => kk H locs ls1 hP hD hS hl1)
theorem r_lstore_n {z : Fin 4} {x : Int64} (hC : Ctx Γ G V cc own rm nL) (d : decode cc pc = .ok (.lstore_n z, 1)) (hn : (z : Nat) + 1 < nL) (kk : At Γ G V k n S (lvS2 lv (z : Nat) (.long x)) (pc + 1) rest) : At Γ G V k n S lv pc (.long x :: rest) := fun H locs ls hP hD hS hl => lv_lstore_n hC.1 hC.2.1 d rfl hl (by rw [hC.2.2.2.2.2.2.2.2.1]; exact hn) rfl (fun ls1 hl1 => kk H locs ls1 hP hD hS hl1)
theorem r_lstore {z : Nat} {x : Int64} (hC : Ctx Γ G V cc own rm nL) (d : decode cc pc = .ok (.lstore z, 2)) (hn : z + 1 < nL) (kk : At Γ G V k n S (lvS2 lv z (.long x)) (pc + 2) rest) : At Γ G V k n S lv pc (.long x :: rest) := fun H locs ls hP hD hS hl => lv_lstore hC.1 hC.2.1 d hl (by rw [hC.2.2.2.2.2.2.2.2.1]; exact hn) rfl (fun ls1 hl1 => kk H locs ls1 hP hD hS hl1)
theorem r_dstore_n {z : Fin 4} {x : UInt64} (hC : Ctx Γ G V cc own rm nL) (d : decode cc pc = .ok (.dstore_n z, 1)) (hn : (z : Nat) + 1 < nL) (kk : At Γ G V k n S (lvS2 lv (z : Nat) (.double x)) (pc + 1) rest) : At Γ G V k n S lv pc (.double x :: rest) := fun H locs ls hP hD hS hl => lv_dstore_n hC.1 hC.2.1 d rfl hl (by rw [hC.2.2.2.2.2.2.2.2.1]; exact hn) rfl (fun ls1 hl1 => kk H locs ls1 hP hD hS hl1)
theorem r_dstore {z : Nat} {x : UInt64} (hC : Ctx Γ G V cc own rm nL) (d : decode cc pc = .ok (.dstore z, 2)) (hn : z + 1 < nL) (kk : At Γ G V k n S (lvS2 lv z (.double x)) (pc + 2) rest) : At Γ G V k n S lv pc (.double x :: rest) := fun H locs ls hP hD hS hl => lv_dstore hC.1 hC.2.1 d hl (by rw [hC.2.2.2.2.2.2.2.2.1]; exact hn) rfl (fun ls1 hl1 => kk H locs ls1 hP hD hS hl1)
theorem r_astore_nN {z : Fin 4} (hC : Ctx Γ G V cc own rm nL) (d : decode cc pc = .ok (.astore_n z, 1)) (hn : (z : Nat) < nL) (kk : At Γ G V k n S (lvS1 lv (z : Nat) .null) (pc + 1) rest) : At Γ G V k n S lv pc (.null :: rest) := fun H locs ls hP hD hS hl => lv_astore_nN hC.1 hC.2.1 d rfl hl (by rw [hC.2.2.2.2.2.2.2.2.1]; exact hn) rfl (fun ls1 hl1 => kk H locs ls1 hP hD hS hl1)
theorem r_astoreN {z : Nat} (hC : Ctx Γ G V cc own rm nL) (d : decode cc pc = .ok (.astore z, 2)) (hn : z < nL) (kk : At Γ G V k n S (lvS1 lv z .null) (pc + 2) rest) : At Γ G V k n S lv pc (.null :: rest) := fun H locs ls hP hD hS hl => lv_astoreN hC.1 hC.2.1 d hl (by rw [hC.2.2.2.2.2.2.2.2.1]; exact hn) rfl (fun ls1 hl1 => kk H locs ls1 hP hD hS hl1)
theorem lvG_place {lv : List (Nat × Value)} {i : Nat} {v : Value} (h : lvG lv i = some v) : ∃ j : Nat, lv[j]? = some (i, v) := List.getElem?_of_mem (lvG_mem h)
theorem r_iinc {z : Nat} {q : Int} {x : Int32} (v : Int32) (hC : Ctx Γ G V cc own rm nL) (d : decode cc pc = .ok (.iinc z q, 3)) (h : lvG lv z = some (.int x)) (hv : x + Int32.ofInt q = v) (hn : z < nL) (kk : At Γ G V k n S (lvS1 lv z (.int v)) (pc + 3) rest) : At Γ G V k n S lv pc rest := fun H locs ls hP hD hS hl => by
  obtain ⟨j, hj⟩ := lvG_place h
  exact lv_iinc hC.1 hC.2.1 d hl hj hv (by rw [hC.2.2.2.2.2.2.2.2.1]; exact hn) rfl (fun ls1 hl1 => kk H locs ls1 hP hD hS hl1)
theorem rn_iinc {z a q : Nat} (hC : Ctx Γ G V cc own rm nL) (d : decode cc pc = .ok (.iinc z (q : Int), 3)) (h : lvG lv z = some (.int (nI a))) (hn : z < nL) (kk : At Γ G V k n S (lvS1 lv z (.int (nI (a + q)))) (pc + 3) rest) : At Γ G V k n S lv pc rest := r_iinc (nI (a + q)) hC d h (by rw [← nI_add]; rfl) hn kk
def b2i (b : Bool) : Int32 := if b then 1 else 0
theorem b2i_t : b2i true = 1 := rfl
theorem b2i_f : b2i false = 0 := rfl
theorem nI_tI {a : Nat} (h : a < 2 ^ 31) : (nI a).toInt = (a : Int) := nI_toInt h
theorem i_eq {x y : Int32} : x = y ↔ x.toInt = y.toInt := Int32.toInt_inj.symm
theorem i_lt {x y : Int32} : x < y ↔ x.toInt < y.toInt := Int32.lt_iff_toInt_lt
theorem i_le {x y : Int32} : x ≤ y ↔ x.toInt ≤ y.toInt := Int32.le_iff_toInt_le
theorem i_0 : (0 : Int32).toInt = 0 := rfl
theorem r_icmp_eq {x y : Int32} {off : Int} {tgt : Nat} (hC : Ctx Γ G V cc own rm nL) (d : decode cc pc = .ok (.if_icmp .eq off, 3)) (ht : (pc : Int) + off = (tgt : Int)) (kt : x = y → At Γ G V k n S lv tgt rest) (kf : ¬ x = y → At Γ G V k n S lv (pc + 3) rest) : At Γ G V k n S lv pc (.int y :: .int x :: rest) := fun H locs ls hP hD hS hl => lv_icmp_eq hC.1 hC.2.1 d ht (fun h => kt h H locs ls hP hD hS hl) (fun h => kf h H locs ls hP hD hS hl)
theorem ri_icmp_eq {x y : Int32} {off : Int} {tgt : Nat} (hC : Ctx Γ G V cc own rm nL) (d : decode cc pc = .ok (.if_icmp .eq off, 3)) (ht : (pc : Int) + off = (tgt : Int)) (kt : x.toInt = y.toInt → At Γ G V k n S lv tgt rest) (kf : ¬ x.toInt = y.toInt → At Γ G V k n S lv (pc + 3) rest) : At Γ G V k n S lv pc (.int y :: .int x :: rest) := r_icmp_eq hC d ht (fun h => kt ((i_eq).mp h)) (fun h => kf (fun q => h (i_eq.mpr q)))
theorem rn_icmp_eq {a b : Nat} {off : Int} {tgt : Nat} (hC : Ctx Γ G V cc own rm nL) (d : decode cc pc = .ok (.if_icmp .eq off, 3)) (ht : (pc : Int) + off = (tgt : Int)) (ha : a < 2 ^ 31) (hb : b < 2 ^ 31) (kt : a = b → At Γ G V k n S lv tgt rest) (kf : ¬ a = b → At Γ G V k n S lv (pc + 3) rest) : At Γ G V k n S lv pc (.int (nI b) :: .int (nI a) :: rest) := r_icmp_eq hC d ht (fun h => kt ((nI_eq ha hb).mp h)) (fun h => kf (fun q => h ((nI_eq ha hb).mpr q)))
theorem r_if_eq {x : Int32} {off : Int} {tgt : Nat} (hC : Ctx Γ G V cc own rm nL) (d : decode cc pc = .ok (.ifCond .eq off, 3)) (ht : (pc : Int) + off = (tgt : Int)) (kt : x = 0 → At Γ G V k n S lv tgt rest) (kf : ¬ x = 0 → At Γ G V k n S lv (pc + 3) rest) : At Γ G V k n S lv pc (.int x :: rest) := fun H locs ls hP hD hS hl => lv_if_eq hC.1 hC.2.1 d ht (fun h => kt h H locs ls hP hD hS hl) (fun h => kf h H locs ls hP hD hS hl)
theorem ri_if_eq {x : Int32} {off : Int} {tgt : Nat} (hC : Ctx Γ G V cc own rm nL) (d : decode cc pc = .ok (.ifCond .eq off, 3)) (ht : (pc : Int) + off = (tgt : Int)) (kt : x.toInt = 0 → At Γ G V k n S lv tgt rest) (kf : ¬ x.toInt = 0 → At Γ G V k n S lv (pc + 3) rest) : At Γ G V k n S lv pc (.int x :: rest) := r_if_eq hC d ht (fun h => kt ((i_eq).mp h)) (fun h => kf (fun q => h (i_eq.mpr q)))
theorem rn_if_eq {a : Nat} {off : Int} {tgt : Nat} (hC : Ctx Γ G V cc own rm nL) (d : decode cc pc = .ok (.ifCond .eq off, 3)) (ht : (pc : Int) + off = (tgt : Int)) (ha : a < 2 ^ 31) (kt : a = 0 → At Γ G V k n S lv tgt rest) (kf : ¬ a = 0 → At Γ G V k n S lv (pc + 3) rest) : At Γ G V k n S lv pc (.int (nI a) :: rest) := ri_if_eq hC d ht (fun h => kt (by rw [nI_toInt ha] at h; omega)) (fun h => kf (by rw [nI_toInt ha] at h; omega))
theorem rb_if_eq {b : Bool} {off : Int} {tgt : Nat} (hC : Ctx Γ G V cc own rm nL) (d : decode cc pc = .ok (.ifCond .eq off, 3)) (ht : (pc : Int) + off = (tgt : Int)) (kt : b = false → At Γ G V k n S lv tgt rest) (kf : b = true → At Γ G V k n S lv (pc + 3) rest) : At Γ G V k n S lv pc (.int (b2i b) :: rest) := r_if_eq hC d ht (fun h => kt (by cases b <;> first | rfl | exact absurd h (by decide))) (fun h => kf (by cases b <;> first | rfl | exact absurd h (by decide)))
theorem r_icmp_ne {x y : Int32} {off : Int} {tgt : Nat} (hC : Ctx Γ G V cc own rm nL) (d : decode cc pc = .ok (.if_icmp .ne off, 3)) (ht : (pc : Int) + off = (tgt : Int)) (kt : ¬ x = y → At Γ G V k n S lv tgt rest) (kf : x = y → At Γ G V k n S lv (pc + 3) rest) : At Γ G V k n S lv pc (.int y :: .int x :: rest) := fun H locs ls hP hD hS hl => lv_icmp_ne hC.1 hC.2.1 d ht (fun h => kt h H locs ls hP hD hS hl) (fun h => kf h H locs ls hP hD hS hl)
theorem ri_icmp_ne {x y : Int32} {off : Int} {tgt : Nat} (hC : Ctx Γ G V cc own rm nL) (d : decode cc pc = .ok (.if_icmp .ne off, 3)) (ht : (pc : Int) + off = (tgt : Int)) (kt : ¬ x.toInt = y.toInt → At Γ G V k n S lv tgt rest) (kf : x.toInt = y.toInt → At Γ G V k n S lv (pc + 3) rest) : At Γ G V k n S lv pc (.int y :: .int x :: rest) := r_icmp_ne hC d ht (fun h => kt ((not_congr (i_eq)).mp h)) (fun h => kf (i_eq.mp h))
theorem rn_icmp_ne {a b : Nat} {off : Int} {tgt : Nat} (hC : Ctx Γ G V cc own rm nL) (d : decode cc pc = .ok (.if_icmp .ne off, 3)) (ht : (pc : Int) + off = (tgt : Int)) (ha : a < 2 ^ 31) (hb : b < 2 ^ 31) (kt : ¬ a = b → At Γ G V k n S lv tgt rest) (kf : a = b → At Γ G V k n S lv (pc + 3) rest) : At Γ G V k n S lv pc (.int (nI b) :: .int (nI a) :: rest) := r_icmp_ne hC d ht (fun h => kt ((not_congr (nI_eq ha hb)).mp h)) (fun h => kf ((nI_eq ha hb).mp h))
theorem r_if_ne {x : Int32} {off : Int} {tgt : Nat} (hC : Ctx Γ G V cc own rm nL) (d : decode cc pc = .ok (.ifCond .ne off, 3)) (ht : (pc : Int) + off = (tgt : Int)) (kt : ¬ x = 0 → At Γ G V k n S lv tgt rest) (kf : x = 0 → At Γ G V k n S lv (pc + 3) rest) : At Γ G V k n S lv pc (.int x :: rest) := fun H locs ls hP hD hS hl => lv_if_ne hC.1 hC.2.1 d ht (fun h => kt h H locs ls hP hD hS hl) (fun h => kf h H locs ls hP hD hS hl)
theorem ri_if_ne {x : Int32} {off : Int} {tgt : Nat} (hC : Ctx Γ G V cc own rm nL) (d : decode cc pc = .ok (.ifCond .ne off, 3)) (ht : (pc : Int) + off = (tgt : Int)) (kt : ¬ x.toInt = 0 → At Γ G V k n S lv tgt rest) (kf : x.toInt = 0 → At Γ G V k n S lv (pc + 3) rest) : At Γ G V k n S lv pc (.int x :: rest) := r_if_ne hC d ht (fun h => kt ((not_congr (i_eq)).mp h)) (fun h => kf (i_eq.mp h))
theorem rn_if_ne {a : Nat} {off : Int} {tgt : Nat} (hC : Ctx Γ G V cc own rm nL) (d : decode cc pc = .ok (.ifCond .ne off, 3)) (ht : (pc : Int) + off = (tgt : Int)) (ha : a < 2 ^ 31) (kt : ¬ a = 0 → At Γ G V k n S lv tgt rest) (kf : a = 0 → At Γ G V k n S lv (pc + 3) rest) : At Γ G V k n S lv pc (.int (nI a) :: rest) := ri_if_ne hC d ht (fun h => kt (by rw [nI_toInt ha] at h; omega)) (fun h => kf (by rw [nI_toInt ha] at h; omega))
theorem rb_if_ne {b : Bool} {off : Int} {tgt : Nat} (hC : Ctx Γ G V cc own rm nL) (d : decode cc pc = .ok (.ifCond .ne off, 3)) (ht : (pc : Int) + off = (tgt : Int)) (kt : b = true → At Γ G V k n S lv tgt rest) (kf : b = false → At Γ G V k n S lv (pc + 3) rest) : At Γ G V k n S lv pc (.int (b2i b) :: rest) := r_if_ne hC d ht (fun h => kt (by cases b <;> first | rfl | exact absurd h (by decide))) (fun h => kf (by cases b <;> first | rfl | exact absurd h (by decide)))
theorem r_icmp_lt {x y : Int32} {off : Int} {tgt : Nat} (hC : Ctx Γ G V cc own rm nL) (d : decode cc pc = .ok (.if_icmp .lt off, 3)) (ht : (pc : Int) + off = (tgt : Int)) (kt : x < y → At Γ G V k n S lv tgt rest) (kf : ¬ x < y → At Γ G V k n S lv (pc + 3) rest) : At Γ G V k n S lv pc (.int y :: .int x :: rest) := fun H locs ls hP hD hS hl => lv_icmp_lt hC.1 hC.2.1 d ht (fun h => kt h H locs ls hP hD hS hl) (fun h => kf h H locs ls hP hD hS hl)
theorem ri_icmp_lt {x y : Int32} {off : Int} {tgt : Nat} (hC : Ctx Γ G V cc own rm nL) (d : decode cc pc = .ok (.if_icmp .lt off, 3)) (ht : (pc : Int) + off = (tgt : Int)) (kt : x.toInt < y.toInt → At Γ G V k n S lv tgt rest) (kf : ¬ x.toInt < y.toInt → At Γ G V k n S lv (pc + 3) rest) : At Γ G V k n S lv pc (.int y :: .int x :: rest) := r_icmp_lt hC d ht (fun h => kt ((i_lt).mp h)) (fun h => kf (fun q => h (i_lt.mpr q)))
theorem rn_icmp_lt {a b : Nat} {off : Int} {tgt : Nat} (hC : Ctx Γ G V cc own rm nL) (d : decode cc pc = .ok (.if_icmp .lt off, 3)) (ht : (pc : Int) + off = (tgt : Int)) (ha : a < 2 ^ 31) (hb : b < 2 ^ 31) (kt : a < b → At Γ G V k n S lv tgt rest) (kf : ¬ a < b → At Γ G V k n S lv (pc + 3) rest) : At Γ G V k n S lv pc (.int (nI b) :: .int (nI a) :: rest) := r_icmp_lt hC d ht (fun h => kt ((nI_ltI ha hb).mp h)) (fun h => kf (fun q => h ((nI_ltI ha hb).mpr q)))
theorem r_if_lt {x : Int32} {off : Int} {tgt : Nat} (hC : Ctx Γ G V cc own rm nL) (d : decode cc pc = .ok (.ifCond .lt off, 3)) (ht : (pc : Int) + off = (tgt : Int)) (kt : x < 0 → At Γ G V k n S lv tgt rest) (kf : ¬ x < 0 → At Γ G V k n S lv (pc + 3) rest) : At Γ G V k n S lv pc (.int x :: rest) := fun H locs ls hP hD hS hl => lv_if_lt hC.1 hC.2.1 d ht (fun h => kt h H locs ls hP hD hS hl) (fun h => kf h H locs ls hP hD hS hl)
theorem ri_if_lt {x : Int32} {off : Int} {tgt : Nat} (hC : Ctx Γ G V cc own rm nL) (d : decode cc pc = .ok (.ifCond .lt off, 3)) (ht : (pc : Int) + off = (tgt : Int)) (kt : x.toInt < 0 → At Γ G V k n S lv tgt rest) (kf : ¬ x.toInt < 0 → At Γ G V k n S lv (pc + 3) rest) : At Γ G V k n S lv pc (.int x :: rest) := r_if_lt hC d ht (fun h => kt ((i_lt).mp h)) (fun h => kf (fun q => h (i_lt.mpr q)))
theorem rn_if_lt {a : Nat} {off : Int} {tgt : Nat} (hC : Ctx Γ G V cc own rm nL) (d : decode cc pc = .ok (.ifCond .lt off, 3)) (ht : (pc : Int) + off = (tgt : Int)) (ha : a < 2 ^ 31) (kf : At Γ G V k n S lv (pc + 3) rest) : At Γ G V k n S lv pc (.int (nI a) :: rest) := ri_if_lt hC d ht (fun h => absurd h (by rw [nI_toInt ha]; omega)) (fun _ => kf)
theorem r_icmp_ge {x y : Int32} {off : Int} {tgt : Nat} (hC : Ctx Γ G V cc own rm nL) (d : decode cc pc = .ok (.if_icmp .ge off, 3)) (ht : (pc : Int) + off = (tgt : Int)) (kt : y ≤ x → At Γ G V k n S lv tgt rest) (kf : ¬ y ≤ x → At Γ G V k n S lv (pc + 3) rest) : At Γ G V k n S lv pc (.int y :: .int x :: rest) := fun H locs ls hP hD hS hl => lv_icmp_ge hC.1 hC.2.1 d ht (fun h => kt h H locs ls hP hD hS hl) (fun h => kf h H locs ls hP hD hS hl)
theorem ri_icmp_ge {x y : Int32} {off : Int} {tgt : Nat} (hC : Ctx Γ G V cc own rm nL) (d : decode cc pc = .ok (.if_icmp .ge off, 3)) (ht : (pc : Int) + off = (tgt : Int)) (kt : y.toInt ≤ x.toInt → At Γ G V k n S lv tgt rest) (kf : ¬ y.toInt ≤ x.toInt → At Γ G V k n S lv (pc + 3) rest) : At Γ G V k n S lv pc (.int y :: .int x :: rest) := r_icmp_ge hC d ht (fun h => kt ((i_le).mp h)) (fun h => kf (fun q => h (i_le.mpr q)))
theorem rn_icmp_ge {a b : Nat} {off : Int} {tgt : Nat} (hC : Ctx Γ G V cc own rm nL) (d : decode cc pc = .ok (.if_icmp .ge off, 3)) (ht : (pc : Int) + off = (tgt : Int)) (ha : a < 2 ^ 31) (hb : b < 2 ^ 31) (kt : b ≤ a → At Γ G V k n S lv tgt rest) (kf : ¬ b ≤ a → At Γ G V k n S lv (pc + 3) rest) : At Γ G V k n S lv pc (.int (nI b) :: .int (nI a) :: rest) := r_icmp_ge hC d ht (fun h => kt ((nI_leI hb ha).mp h)) (fun h => kf (fun q => h ((nI_leI hb ha).mpr q)))
theorem r_if_ge {x : Int32} {off : Int} {tgt : Nat} (hC : Ctx Γ G V cc own rm nL) (d : decode cc pc = .ok (.ifCond .ge off, 3)) (ht : (pc : Int) + off = (tgt : Int)) (kt : 0 ≤ x → At Γ G V k n S lv tgt rest) (kf : ¬ 0 ≤ x → At Γ G V k n S lv (pc + 3) rest) : At Γ G V k n S lv pc (.int x :: rest) := fun H locs ls hP hD hS hl => lv_if_ge hC.1 hC.2.1 d ht (fun h => kt h H locs ls hP hD hS hl) (fun h => kf h H locs ls hP hD hS hl)
theorem ri_if_ge {x : Int32} {off : Int} {tgt : Nat} (hC : Ctx Γ G V cc own rm nL) (d : decode cc pc = .ok (.ifCond .ge off, 3)) (ht : (pc : Int) + off = (tgt : Int)) (kt : 0 ≤ x.toInt → At Γ G V k n S lv tgt rest) (kf : ¬ 0 ≤ x.toInt → At Γ G V k n S lv (pc + 3) rest) : At Γ G V k n S lv pc (.int x :: rest) := r_if_ge hC d ht (fun h => kt ((i_le).mp h)) (fun h => kf (fun q => h (i_le.mpr q)))
theorem r_icmp_gt {x y : Int32} {off : Int} {tgt : Nat} (hC : Ctx Γ G V cc own rm nL) (d : decode cc pc = .ok (.if_icmp .gt off, 3)) (ht : (pc : Int) + off = (tgt : Int)) (kt : y < x → At Γ G V k n S lv tgt rest) (kf : ¬ y < x → At Γ G V k n S lv (pc + 3) rest) : At Γ G V k n S lv pc (.int y :: .int x :: rest) := fun H locs ls hP hD hS hl => lv_icmp_gt hC.1 hC.2.1 d ht (fun h => kt h H locs ls hP hD hS hl) (fun h => kf h H locs ls hP hD hS hl)
theorem ri_icmp_gt {x y : Int32} {off : Int} {tgt : Nat} (hC : Ctx Γ G V cc own rm nL) (d : decode cc pc = .ok (.if_icmp .gt off, 3)) (ht : (pc : Int) + off = (tgt : Int)) (kt : y.toInt < x.toInt → At Γ G V k n S lv tgt rest) (kf : ¬ y.toInt < x.toInt → At Γ G V k n S lv (pc + 3) rest) : At Γ G V k n S lv pc (.int y :: .int x :: rest) := r_icmp_gt hC d ht (fun h => kt ((i_lt).mp h)) (fun h => kf (fun q => h (i_lt.mpr q)))
theorem rn_icmp_gt {a b : Nat} {off : Int} {tgt : Nat} (hC : Ctx Γ G V cc own rm nL) (d : decode cc pc = .ok (.if_icmp .gt off, 3)) (ht : (pc : Int) + off = (tgt : Int)) (ha : a < 2 ^ 31) (hb : b < 2 ^ 31) (kt : b < a → At Γ G V k n S lv tgt rest) (kf : ¬ b < a → At Γ G V k n S lv (pc + 3) rest) : At Γ G V k n S lv pc (.int (nI b) :: .int (nI a) :: rest) := r_icmp_gt hC d ht (fun h => kt ((nI_ltI hb ha).mp h)) (fun h => kf (fun q => h ((nI_ltI hb ha).mpr q)))
theorem r_if_gt {x : Int32} {off : Int} {tgt : Nat} (hC : Ctx Γ G V cc own rm nL) (d : decode cc pc = .ok (.ifCond .gt off, 3)) (ht : (pc : Int) + off = (tgt : Int)) (kt : 0 < x → At Γ G V k n S lv tgt rest) (kf : ¬ 0 < x → At Γ G V k n S lv (pc + 3) rest) : At Γ G V k n S lv pc (.int x :: rest) := fun H locs ls hP hD hS hl => lv_if_gt hC.1 hC.2.1 d ht (fun h => kt h H locs ls hP hD hS hl) (fun h => kf h H locs ls hP hD hS hl)
theorem ri_if_gt {x : Int32} {off : Int} {tgt : Nat} (hC : Ctx Γ G V cc own rm nL) (d : decode cc pc = .ok (.ifCond .gt off, 3)) (ht : (pc : Int) + off = (tgt : Int)) (kt : 0 < x.toInt → At Γ G V k n S lv tgt rest) (kf : ¬ 0 < x.toInt → At Γ G V k n S lv (pc + 3) rest) : At Γ G V k n S lv pc (.int x :: rest) := r_if_gt hC d ht (fun h => kt ((i_lt).mp h)) (fun h => kf (fun q => h (i_lt.mpr q)))
theorem rn_if_gt {a : Nat} {off : Int} {tgt : Nat} (hC : Ctx Γ G V cc own rm nL) (d : decode cc pc = .ok (.ifCond .gt off, 3)) (ht : (pc : Int) + off = (tgt : Int)) (ha : a < 2 ^ 31) (kt : 0 < a → At Γ G V k n S lv tgt rest) (kf : ¬ 0 < a → At Γ G V k n S lv (pc + 3) rest) : At Γ G V k n S lv pc (.int (nI a) :: rest) := ri_if_gt hC d ht (fun h => kt (by rw [nI_toInt ha] at h; omega)) (fun h => kf (by rw [nI_toInt ha] at h; omega))
theorem r_icmp_le {x y : Int32} {off : Int} {tgt : Nat} (hC : Ctx Γ G V cc own rm nL) (d : decode cc pc = .ok (.if_icmp .le off, 3)) (ht : (pc : Int) + off = (tgt : Int)) (kt : x ≤ y → At Γ G V k n S lv tgt rest) (kf : ¬ x ≤ y → At Γ G V k n S lv (pc + 3) rest) : At Γ G V k n S lv pc (.int y :: .int x :: rest) := fun H locs ls hP hD hS hl => lv_icmp_le hC.1 hC.2.1 d ht (fun h => kt h H locs ls hP hD hS hl) (fun h => kf h H locs ls hP hD hS hl)
theorem ri_icmp_le {x y : Int32} {off : Int} {tgt : Nat} (hC : Ctx Γ G V cc own rm nL) (d : decode cc pc = .ok (.if_icmp .le off, 3)) (ht : (pc : Int) + off = (tgt : Int)) (kt : x.toInt ≤ y.toInt → At Γ G V k n S lv tgt rest) (kf : ¬ x.toInt ≤ y.toInt → At Γ G V k n S lv (pc + 3) rest) : At Γ G V k n S lv pc (.int y :: .int x :: rest) := r_icmp_le hC d ht (fun h => kt ((i_le).mp h)) (fun h => kf (fun q => h (i_le.mpr q)))
theorem rn_icmp_le {a b : Nat} {off : Int} {tgt : Nat} (hC : Ctx Γ G V cc own rm nL) (d : decode cc pc = .ok (.if_icmp .le off, 3)) (ht : (pc : Int) + off = (tgt : Int)) (ha : a < 2 ^ 31) (hb : b < 2 ^ 31) (kt : a ≤ b → At Γ G V k n S lv tgt rest) (kf : ¬ a ≤ b → At Γ G V k n S lv (pc + 3) rest) : At Γ G V k n S lv pc (.int (nI b) :: .int (nI a) :: rest) := r_icmp_le hC d ht (fun h => kt ((nI_leI ha hb).mp h)) (fun h => kf (fun q => h ((nI_leI ha hb).mpr q)))
theorem r_if_le {x : Int32} {off : Int} {tgt : Nat} (hC : Ctx Γ G V cc own rm nL) (d : decode cc pc = .ok (.ifCond .le off, 3)) (ht : (pc : Int) + off = (tgt : Int)) (kt : x ≤ 0 → At Γ G V k n S lv tgt rest) (kf : ¬ x ≤ 0 → At Γ G V k n S lv (pc + 3) rest) : At Γ G V k n S lv pc (.int x :: rest) := fun H locs ls hP hD hS hl => lv_if_le hC.1 hC.2.1 d ht (fun h => kt h H locs ls hP hD hS hl) (fun h => kf h H locs ls hP hD hS hl)
theorem ri_if_le {x : Int32} {off : Int} {tgt : Nat} (hC : Ctx Γ G V cc own rm nL) (d : decode cc pc = .ok (.ifCond .le off, 3)) (ht : (pc : Int) + off = (tgt : Int)) (kt : x.toInt ≤ 0 → At Γ G V k n S lv tgt rest) (kf : ¬ x.toInt ≤ 0 → At Γ G V k n S lv (pc + 3) rest) : At Γ G V k n S lv pc (.int x :: rest) := r_if_le hC d ht (fun h => kt ((i_le).mp h)) (fun h => kf (fun q => h (i_le.mpr q)))
theorem rn_if_le {a : Nat} {off : Int} {tgt : Nat} (hC : Ctx Γ G V cc own rm nL) (d : decode cc pc = .ok (.ifCond .le off, 3)) (ht : (pc : Int) + off = (tgt : Int)) (ha : a < 2 ^ 31) (kt : a = 0 → At Γ G V k n S lv tgt rest) (kf : ¬ a = 0 → At Γ G V k n S lv (pc + 3) rest) : At Γ G V k n S lv pc (.int (nI a) :: rest) := ri_if_le hC d ht (fun h => kt (by rw [nI_toInt ha] at h; omega)) (fun h => kf (by rw [nI_toInt ha] at h; omega))
theorem r_goto {off : Int} {tgt : Nat} (hC : Ctx Γ G V cc own rm nL) (d : decode cc pc = .ok (.goto off, 3)) (ht : (pc : Int) + off = (tgt : Int)) (kk : At Γ G V k n S lv tgt rest) : At Γ G V k n S lv pc rest := fun H locs ls hP hD hS hl => lv_goto hC.1 hC.2.1 d ht (kk H locs ls hP hD hS hl)
theorem r_acmp_eq {x y : Nat} {off : Int} {tgt : Nat} (hC : Ctx Γ G V cc own rm nL) (d : decode cc pc = .ok (.if_acmp .eq off, 3)) (ht : (pc : Int) + off = (tgt : Int)) (kt : x = y → At Γ G V k n S lv tgt rest) (kf : ¬ x = y → At Γ G V k n S lv (pc + 3) rest) : At Γ G V k n S lv pc (.ref y :: .ref x :: rest) := fun H locs ls hP hD hS hl => lv_acmp_eq (rx := some x) (ry := some y) hC.1 hC.2.1 d ht (fun h => kt (by simpa using h) H locs ls hP hD hS hl) (fun h => kf (by simpa using h) H locs ls hP hD hS hl)
theorem r_acmp_eqN {y : Nat} {off : Int} {tgt : Nat} (hC : Ctx Γ G V cc own rm nL) (d : decode cc pc = .ok (.if_acmp .eq off, 3)) (ht : (pc : Int) + off = (tgt : Int)) (kk : At Γ G V k n S lv (pc + 3) rest) : At Γ G V k n S lv pc (.ref y :: .null :: rest) := fun H locs ls hP hD hS hl => lv_acmp_eq (rx := none) (ry := some y) hC.1 hC.2.1 d ht (fun h => absurd h (by simp)) (fun _ => kk H locs ls hP hD hS hl)
theorem r_acmp_ne {x y : Nat} {off : Int} {tgt : Nat} (hC : Ctx Γ G V cc own rm nL) (d : decode cc pc = .ok (.if_acmp .ne off, 3)) (ht : (pc : Int) + off = (tgt : Int)) (kt : ¬ x = y → At Γ G V k n S lv tgt rest) (kf : x = y → At Γ G V k n S lv (pc + 3) rest) : At Γ G V k n S lv pc (.ref y :: .ref x :: rest) := fun H locs ls hP hD hS hl => lv_acmp_ne (rx := some x) (ry := some y) hC.1 hC.2.1 d ht (fun h => kt (by simpa using h) H locs ls hP hD hS hl) (fun h => kf (by simpa using h) H locs ls hP hD hS hl)
theorem r_acmp_neN {y : Nat} {off : Int} {tgt : Nat} (hC : Ctx Γ G V cc own rm nL) (d : decode cc pc = .ok (.if_acmp .ne off, 3)) (ht : (pc : Int) + off = (tgt : Int)) (kk : At Γ G V k n S lv tgt rest) : At Γ G V k n S lv pc (.ref y :: .null :: rest) := fun H locs ls hP hD hS hl => lv_acmp_ne (rx := none) (ry := some y) hC.1 hC.2.1 d ht (fun _ => kk H locs ls hP hD hS hl) (fun h => absurd h (by simp))
theorem r_ifnull {x : Nat} {off : Int} (hC : Ctx Γ G V cc own rm nL) (d : decode cc pc = .ok (.ifnull off, 3)) (kk : At Γ G V k n S lv (pc + 3) rest) : At Γ G V k n S lv pc (.ref x :: rest) := fun H locs ls hP hD hS hl => lv_ifnull hC.1 hC.2.1 d (kk H locs ls hP hD hS hl)
theorem r_ifnullN {off : Int} {tgt : Nat} (hC : Ctx Γ G V cc own rm nL) (d : decode cc pc = .ok (.ifnull off, 3)) (ht : (pc : Int) + off = (tgt : Int)) (kk : At Γ G V k n S lv tgt rest) : At Γ G V k n S lv pc (.null :: rest) := fun H locs ls hP hD hS hl => lv_ifnullN hC.1 hC.2.1 d ht (kk H locs ls hP hD hS hl)
theorem r_ifnonnull {x : Nat} {off : Int} {tgt : Nat} (hC : Ctx Γ G V cc own rm nL) (d : decode cc pc = .ok (.ifnonnull off, 3)) (ht : (pc : Int) + off = (tgt : Int)) (kk : At Γ G V k n S lv tgt rest) : At Γ G V k n S lv pc (.ref x :: rest) := fun H locs ls hP hD hS hl => lv_ifnonnull hC.1 hC.2.1 d ht (kk H locs ls hP hD hS hl)
theorem r_ifnonnullN {off : Int} (hC : Ctx Γ G V cc own rm nL) (d : decode cc pc = .ok (.ifnonnull off, 3)) (kk : At Γ G V k n S lv (pc + 3) rest) : At Γ G V k n S lv pc (.null :: rest) := fun H locs ls hP hD hS hl => lv_ifnonnullN hC.1 hC.2.1 d (kk H locs ls hP hD hS hl)
end ROWS
