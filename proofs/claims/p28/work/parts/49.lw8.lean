/-! THE CLAIM OUT OF ONE WALK OF THE LAW'S BODY. Your part is whole_start (and what it stands on); all else here is the same for every law, but numbers. -/
def R_law : String := "BadgeZonesLaw"
def lw_P (b : Addr) (xs : List Int32) (args : Array Value) (s : State) : Prop := args = #[.ref b] ∧ s.IntsAt b xs ∧ xs.length ≤ 260 ∧ (Jvm.Cond.and given_1 narrow_1).before args s = true
def lw_Q (_ : Array Value) (s : State) (o : Outcome) (t : State) : Prop := o = .returned (some (.int 1)) ∧ Framed s o t [] 600104 7301314
def lw_Z (below : List Frame) (a : Array Value) (s : State) : State → Prop := fun t => ∃ o, t.status = .running ∧ Ended t below o ∧ lw_Q a s o t
/-- the law's own end, with 1 on the stack, nothing written that was there before, its room as the claim has it -/
theorem lw_ret {p : Program} {l : Launch} {e : Env} {s : State} {m : MethodId} {below : List Frame} {meth : Method} {c : Code} {b : Nat} (hx : p.tables.exec = Jvm.exec) (hb : c.code = code) (hr : meth.sig.returnType = ret) (hlocks : meth.locks = false) {pc : Nat} {H : Heap} {ls : Array Slot} (hdg : decode code pc = .ok (.ireturn, 1)) : W p l e room_1 s m #[Value.ref b] below meth c H [] 600104 7301314 (lw_Z below #[Value.ref b] s) (F0 m pc ls [.int 1]) := by
  intro T hT X
  obtain ⟨fs, hret, hrun, hended, hW, hframe⟩ := X.leave (v := some (.int 1)) (hlocks := hlocks) (fun h => by rw [hr] at h; cases h)
  have hmeth' : T.vm.method? m = some meth := X.method'
  refine ⟨T.setFrames fs, ?_, .returned (some (.int 1)), hrun, hended, rfl, ⟨_, rfl⟩, hW, hframe⟩
  jvm_step X.here [X.here.top, hx, hb, hdg, hmeth', hr, ret, narrow_b1]
  (try refine ⟨rfl, ?_⟩); (try refine ⟨rfl, ?_⟩)
  first | (intro acts; rw [hret _ acts rfl rfl rfl]) | rw [hret _ _ rfl rfl rfl]
  exact Steps.refl _
/-- what holds at the law's entry: the machine, the code, the tables' words (any of lw_tbl by 'hts w (by decide +kernel)'), the script of L ints xs at the cell b, what the Statement gives of the start (any of its parts by flat_of_before) -/
def lw_At (p : Program) (s : State) (m : MethodId) (meth : Method) (c : Code) (b L : Nat) (xs : Nat → Int32) : Prop :=
  p.tables.exec = Jvm.exec ∧ c.code = code ∧ meth.sig.returnType = ret ∧ c.maxLocals = 15 ∧ s.vm.findClass R_law = some m.cls ∧ (∀ w ∈ lw_tbl, w.before #[Value.ref b] s = true) ∧ va_X b L xs s s.heap ∧ b < s.heap.size ∧ meth.locks = false ∧ (Jvm.Cond.and given_1 narrow_1).before #[Value.ref b] s = true
set_option maxHeartbeats 4000000 in
set_option maxRecDepth 100000 in
theorem start_walk28 {Γ : Cx} {G : Ids} {V : Vx} {b L : Nat} {xs : Nat → Int32} {S : Ps} (hC : Ctx Γ G V code RL room_1 15) (hX : ScX Γ V b L xs) (hL : L ≤ 260) (hE : ∀ (k s : Nat) (S : Ps) (lv : List (Nat × Value)), k ≤ 600104 → s ≤ 7301314 → At Γ G V k s S lv 521 []) : At Γ G V 0 0 S [(0, .ref b)] 0 [] := by
  refine r_new (pc := 0) hC cls5 kc_L_20 kn_X4 (by decide) (Nat.le_of_ble_eq_true rfl) (Nat.le_of_ble_eq_true rfl) dL_law_0 (fun a0 hf0 => ?_)
  refine r_dup (pc := 3) hC dL_law_3 rfl ?_
  refine r_callI (pc := 4) hC (ct_start hC.fl (isK_nwO' (k := 5))) ki_L_49 rfl rfl (Nat.le_of_ble_eq_true rfl) ⟨by decide, by decide, (Nat.le_of_ble_eq_true rfl), (Nat.le_of_ble_eq_true rfl)⟩ dL_law_4 (fun _ _ h => h.elim) (fun v4 S4 h4 => ?_)
  obtain ⟨rfl, ⟨Y4, hZ4⟩, hF4⟩ := h4
  refine at_widen (k' := 10) (n' := 1000) (Nat.le_of_ble_eq_true rfl) (Nat.le_of_ble_eq_true rfl) ?_
  first | refine r_astore_n (pc := 7) hC dL_law_7 (by decide) ?_ | refine r_astore_nN (pc := 7) hC dL_law_7 (by decide) ?_
  refine r_iconst (pc := 8) (nI 3) hC dL_law_8 (by decide) ?_
  refine r_newI (pc := 9) hC (by decide) (Nat.le_of_ble_eq_true rfl) (Nat.le_of_ble_eq_true rfl) dL_law_9 (fun a9 hf9 => ?_)
  have F9 := Fr.nwA (P := fun _ => False) (k := 7) (n := 3) hf9
  have K9 : isK (nwA S4 a9 7 3) 7 a9 ∧ pN (nwA S4 a9 7 3) a9 = 3 := ⟨isK_nwA', if_pos rfl⟩
  have Z9 := hZ4.frM F9 (fun _ _ h => h.elim)
  generalize nwA S4 a9 7 3 = S9 at *
  first | refine r_astore_n (pc := 11) hC dL_law_11 (by decide) ?_ | refine r_astore_nN (pc := 11) hC dL_law_11 (by decide) ?_
  refine r_bipush (pc := 12) (nI 24) hC dL_law_12 (by decide) ?_
  refine r_newI (pc := 14) hC (by decide) (Nat.le_of_ble_eq_true rfl) (Nat.le_of_ble_eq_true rfl) dL_law_14 (fun a14 hf14 => ?_)
  have F14 := Fr.nwA (P := fun _ => False) (k := 7) (n := 24) hf14
  have K14 : isK (nwA S9 a14 7 24) 7 a14 ∧ pN (nwA S9 a14 7 24) a14 = 24 := ⟨isK_nwA', if_pos rfl⟩
  have Z14 := Z9.frM F14 (fun _ _ h => h.elim)
  have M9_14 : a9 ≠ a14 := fun q => hf14 (q ▸ K9.1.1)
  replace K9 := (⟨F14.K K9.1, (F14.N K9.1 (fun h => h)).trans K9.2⟩ : isK (nwA S9 a14 7 24) 7 a9 ∧ pN (nwA S9 a14 7 24) a9 = 3)
  generalize nwA S9 a14 7 24 = S14 at *
  first | refine r_astore_n (pc := 16) hC dL_law_16 (by decide) ?_ | refine r_astore_nN (pc := 16) hC dL_law_16 (by decide) ?_
  refine r_bipush (pc := 17) (nI 48) hC dL_law_17 (by decide) ?_
  refine r_newI (pc := 19) hC (by decide) (Nat.le_of_ble_eq_true rfl) (Nat.le_of_ble_eq_true rfl) dL_law_19 (fun a19 hf19 => ?_)
  have F19 := Fr.nwA (P := fun _ => False) (k := 7) (n := 48) hf19
  have K19 : isK (nwA S14 a19 7 48) 7 a19 ∧ pN (nwA S14 a19 7 48) a19 = 48 := ⟨isK_nwA', if_pos rfl⟩
  have Z19 := Z14.frM F19 (fun _ _ h => h.elim)
  have M9_19 : a9 ≠ a19 := fun q => hf19 (q ▸ K9.1.1)
  replace K9 := (⟨F19.K K9.1, (F19.N K9.1 (fun h => h)).trans K9.2⟩ : isK (nwA S14 a19 7 48) 7 a9 ∧ pN (nwA S14 a19 7 48) a9 = 3)
  have M14_19 : a14 ≠ a19 := fun q => hf19 (q ▸ K14.1.1)
  replace K14 := (⟨F19.K K14.1, (F19.N K14.1 (fun h => h)).trans K14.2⟩ : isK (nwA S14 a19 7 48) 7 a14 ∧ pN (nwA S14 a19 7 48) a14 = 24)
  generalize nwA S14 a19 7 48 = S19 at *
  first | refine r_astore (pc := 21) hC dL_law_21 (by decide) ?_ | refine r_astoreN (pc := 21) hC dL_law_21 (by decide) ?_
  refine r_bipush (pc := 23) (nI 20) hC dL_law_23 (by decide) ?_
  refine r_newI (pc := 25) hC (by decide) (Nat.le_of_ble_eq_true rfl) (Nat.le_of_ble_eq_true rfl) dL_law_25 (fun a25 hf25 => ?_)
  have F25 := Fr.nwA (P := fun _ => False) (k := 7) (n := 20) hf25
  have K25 : isK (nwA S19 a25 7 20) 7 a25 ∧ pN (nwA S19 a25 7 20) a25 = 20 := ⟨isK_nwA', if_pos rfl⟩
  have Z25 := Z19.frM F25 (fun _ _ h => h.elim)
  have M9_25 : a9 ≠ a25 := fun q => hf25 (q ▸ K9.1.1)
  replace K9 := (⟨F25.K K9.1, (F25.N K9.1 (fun h => h)).trans K9.2⟩ : isK (nwA S19 a25 7 20) 7 a9 ∧ pN (nwA S19 a25 7 20) a9 = 3)
  have M14_25 : a14 ≠ a25 := fun q => hf25 (q ▸ K14.1.1)
  replace K14 := (⟨F25.K K14.1, (F25.N K14.1 (fun h => h)).trans K14.2⟩ : isK (nwA S19 a25 7 20) 7 a14 ∧ pN (nwA S19 a25 7 20) a14 = 24)
  have M19_25 : a19 ≠ a25 := fun q => hf25 (q ▸ K19.1.1)
  replace K19 := (⟨F25.K K19.1, (F25.N K19.1 (fun h => h)).trans K19.2⟩ : isK (nwA S19 a25 7 20) 7 a19 ∧ pN (nwA S19 a25 7 20) a19 = 48)
  generalize nwA S19 a25 7 20 = S25 at *
  first | refine r_astore (pc := 27) hC dL_law_27 (by decide) ?_ | refine r_astoreN (pc := 27) hC dL_law_27 (by decide) ?_
  first | refine r_aload_n (pc := 29) hC dL_law_29 rfl ?_ | refine r_aload_nN (pc := 29) hC dL_law_29 rfl ?_
  first | refine r_aload_n (pc := 30) hC dL_law_30 rfl ?_ | refine r_aload_nN (pc := 30) hC dL_law_30 rfl ?_
  refine r_iconst (pc := 31) (nI 0) hC dL_law_31 (by decide) ?_
  first | refine r_aload_n (pc := 32) hC dL_law_32 rfl ?_ | refine r_aload_nN (pc := 32) hC dL_law_32 rfl ?_
  first | refine r_aload_n (pc := 33) hC dL_law_33 rfl ?_ | refine r_aload_nN (pc := 33) hC dL_law_33 rfl ?_
  first | refine r_aload (pc := 34) hC dL_law_34 rfl ?_ | refine r_aloadN (pc := 34) hC dL_law_34 rfl ?_
  first | refine r_aload (pc := 36) hC dL_law_36 rfl ?_ | refine r_aloadN (pc := 36) hC dL_law_36 rfl ?_
  refine q_callSX (pc := 38) (k' := 300) (n' := 40000) hC hX (ct_build hC.fl hL Z25 ⟨K9, K14, K19, K25⟩ ⟨M9_14, M9_19, M9_25, M14_19, M14_25, M19_25⟩) ks_L_50 rfl rfl (Nat.le_of_ble_eq_true rfl) ⟨by decide, by decide⟩ (Nat.le_of_ble_eq_true rfl) (Nat.le_of_ble_eq_true rfl) (Nat.le_of_ble_eq_true rfl) (Nat.le_of_ble_eq_true rfl) dL_law_38 (fun _ _ h => h) (fun v38 S38 h38 => ?_)
  obtain ⟨rfl, σ, hZ, hJ, hB, hP, hm⟩ := h38
  refine rn_if_ne (pc := 41) (tgt := 46) hC dL_law_41 (by decide) (by omega) (fun _ => ?_) (fun q => absurd q (by decide))
  refine r_iconst (pc := 46) (nI 0) hC dL_law_46 (by decide) ?_
  refine r_istore (pc := 47) hC dL_law_47 (by decide) ?_
  refine r_iconst (pc := 49) (nI 0) hC dL_law_49 (by decide) ?_
  refine r_istore (pc := 50) hC dL_law_50 (by decide) ?_
  refine at_lv (lv' := [(0, .ref b), (1, .ref a0), (2, .ref a9), (3, .ref a14), (4, .ref a19), (6, .int (nI (bN false))), (7, .int (nI 0))]) ⟨rfl, rfl, rfl, rfl, rfl, rfl, rfl, trivial⟩ ?_
  exact law_loop28 hC hX hL hE 40 0 300 40000 false σ S38 (by decide) (by decide) (by decide) hZ hJ hB (fun _ => hP) (by omega)
set_option maxHeartbeats 4000000 in
theorem whole_start {p : Program} {e : Env} {s : State} {m : MethodId} {below : List Frame} {meth : Method} {c : Code} (l : Launch) (hflags : l.flags = flags0) {b L : Nat} {xs : Nat → Int32} (hL : L ≤ 260) (C0 : lw_At p s m meth c b L xs) : W p l e room_1 s m #[Value.ref b] below meth c s.heap [] 0 0 (lw_Z below #[Value.ref b] s) (entryFrame m ([Value.ref b] : List Value).toArray 15) := by
  obtain ⟨hx, hb, hr, hml, hown, hts, hX, hbl, hlocks, hgv⟩ := id C0
  have hfl : l.stackTraces = false := by unfold Launch.stackTraces; rw [hflags]; decide +kernel
  obtain ⟨G, hEv⟩ := evn_start hts hgv
  have hC : Ctx (p, l, e, room_1, s, m, #[Value.ref b], below, meth, c) G ((fun q : Nat => s.heap.size ≤ q), 15, lw_Z below #[Value.ref b] s) code RL room_1 15 := ⟨hx, hb, hml, hown, fun w h => hts w (gt_tbl w h), hEv, fun q h => h, rfl, rfl, hfl⟩
  have hX9 : ScX (p, l, e, room_1, s, m, #[Value.ref b], below, meth, c) ((fun q : Nat => s.heap.size ≤ q), 15, lw_Z below #[Value.ref b] s) b L xs := ⟨hX, hbl, Nat.not_le.mpr hbl⟩
  have hE : ∀ (k s9 : Nat) (S : Ps) (lv : List (Nat × Value)), k ≤ 600104 → s9 ≤ 7301314 → At (p, l, e, room_1, s, m, #[Value.ref b], below, meth, c) G ((fun q : Nat => s.heap.size ≤ q), 15, lw_Z below #[Value.ref b] s) k s9 S lv 521 [] := fun k s9 S lv hk hs => by
    refine r_iconst (pc := 521) (nI 1) hC dL_law_521 (by decide) ?_
    exact fun H locs ls hP hD hS hl => va_forget (fun q hq => hS.2.2 q hq) (W.widen hk hs (lw_ret hx hb hr hlocks dL_law_522))
  have hl := lv_entry ([.ref b]) (n := 15) (Nat.le_of_ble_eq_true rfl)
  rw [lg_entry_eq]
  exact start_walk28 (S := (([] : List Nat), (fun _ => 0), (fun _ _ => .null), (fun _ => 0), (fun _ _ => 0), (fun _ _ => none), (fun _ _ => 0))) hC hX9 hL hE s.heap [] _ (fun k q h => by simp [pW, pL, va_pl] at h) ⟨fun i j p q h => by simp [pW, pL, va_pl] at h, fun k q h => by simp [pW, pL, va_pl] at h⟩ va_S.rf hl
set_option maxHeartbeats 4000000 in
theorem lw_walk (l : Launch) (hflags : l.flags = flags0) (b : Addr) (xs : List Int32) : MetFree l x (headSpec (Jvm.Cond.code x code maxLocals ret :: tables_1) room_1) (lw_P b xs) (fun _ _ _ _ _ => True) lw_Q := by
  refine MetFree.of_bodyS (code := code) (maxLocals := maxLocals) (ret := ret) (by decide) ?_ ?_
  · intro args s m h hn
    obtain ⟨meth, c, h1, h2, h3, h4, h5, h6, -, -⟩ := Cond.code_spec hn (atoms_spec (ws := Jvm.Cond.code x code maxLocals ret :: tables_1) h _ List.mem_cons_self)
    exact ⟨meth, c, h1, h2, h3, h4, h5, h6⟩
  · intro p e s m args below meth c s₁ B hml0 hP _
    obtain ⟨rfl, hx, hbd, hgv⟩ := hP
    obtain ⟨scr, harrAt, hlist, hof, hsmall⟩ := hx
    obtain ⟨hcb, hkn, -, -⟩ := State.arrayAt?_spec harrAt
    have hown : s.vm.findClass R_law = some m.cls := findClass_of_methodNamed B.named
    have hts0 : ∀ c ∈ (Jvm.Cond.code x code maxLocals ret :: tables_1), c.before #[Value.ref b] s = true := atoms_spec (ws := Jvm.Cond.code x code maxLocals ret :: tables_1) B.pre
    have hts : ∀ w ∈ lw_tbl, w.before #[Value.ref b] s = true := k2_hts_sels lw_privs (fun w hw => hts0 w (List.mem_cons_of_mem _ hw)) lw_privs_ok
    have hml : c.maxLocals = 15 := B.maxLocals_eq (hts0 _ List.mem_cons_self)
    have X₀ : Stand p l e room_1 s m #[Value.ref b] below meth c s₁ [] 0 0 := Stand.of_body B
    have hh0 : s₁.heap = s.heap := by rw [B.state]; rfl
    have hsz : scr.slots.size = xs.length := by rw [← Array.length_toList, hlist, List.length_map]
    have hval : ∀ j : Nat, j < xs.length → scr.slots[j]? = some (.int (xs.getD j 0)) := fun j hj => by
      rw [← Array.getElem?_toList, hlist]
      simp [hj]
    have hbl : b < s.heap.size := (Array.getElem?_eq_some_iff.mp hcb).1
    have hX : va_X b xs.length (fun j => xs.getD j 0) s s.heap := ⟨scr, hcb, hof, hkn, hsz, hval⟩
    have K : W p l e room_1 s m #[Value.ref b] below meth c s₁.heap [] 0 0 (lw_Z below #[Value.ref b] s) (entryFrame m ([Value.ref b] : List Value).toArray 15) := by
      rw [hh0]
      exact whole_start l hflags hbd ⟨B.exec, B.bytes, B.returns, hml, hown, hts, hX, hbl, B.notSynchronized, hgv⟩
    obtain ⟨t, a1, o, b1, b2, b3⟩ := K s₁ rfl X₀
    exact ⟨t, o, a1, b1, b2, b3⟩
theorem lw_pre_spec {args : Array Value} {s : State} (h : (Jvm.Cond.and given_1 narrow_1).before args s = true) (hr : rest_1_c.before args s = true) : ∃ (b : Addr) (xs : List Int32), lw_P b xs args s := by
  have hs := flat_of_before _ h
  have hq := flat_of_before _ hr
  have hc : (Cond.count 1).before args s = true := hs _ (by decide +kernel)
  have harr : (Cond.arrayOf (.arg 0) .int).before args s = true := hs _ (by decide +kernel)
  have hle : (Cond.le (.length (.arg 0)) (.int 260)).before args s = true := hs _ (by decide +kernel)
  have hlen : (Cond.isInt (.length (.arg 0))).before args s = true := hq _ (by decide +kernel)
  have hall : (Cond.all (.arg 0) (.isInt (.elem (.arg 0) (.index 0)))).before args s = true := hq _ (by decide +kernel)
  obtain ⟨b, xs, hb, hx⟩ := State.ints_of_pre rfl harr hlen hall
  have hsm : xs.length < 2 ^ 31 := hx.choose_spec.2.2.2
  have hev : (Term.length (.arg 0)).eval args s none [] s = some (.int xs.length.toInt32) := hx.length_eval hb
  have hv := Cond.le_ints hev (show (Term.int 260).eval args s none [] s = some (.int 260) from rfl)
  have hd : xs.length.toInt32 ≤ 260 := by
    simpa [Cond.before, Cond.holds, hv] using hle
  have hN : xs.length ≤ 260 := (Int32.ofNat_le_ofNat hsm (by decide)).mp (show Int32.ofNat xs.length ≤ Int32.ofNat 260 from hd)
  exact ⟨b, xs, Cond.one_arg hc (show args[0]? = some (.ref b) from hb), hx, hN, h⟩
theorem lw_comes (l : Launch) (hflags : l.flags = flags0) : Comes l x (Jvm.Cond.code x code maxLocals ret :: tables_1) room_1 (fun tb e args s => Calls_1 tb e args s ∧ rest_1 tb e args s ∧ Pre_1 tb e args s)
    (fun _ _ args s o t => lw_Q args s o t) := by
  intro p e ha hc hk s m args below hf hfit hheap happ hpre
  obtain ⟨b, xs, hP⟩ := lw_pre_spec hpre.2.2 hpre.2.1
  obtain ⟨k, o, h1, h2, h3, hQ⟩ := lw_walk l hflags b xs p e ha hc hk s m args below hf ((Spec.applies_iff_loose hf).mp happ).1 hP trivial
  exact ⟨k, o, h1, h2, h3, hQ⟩
theorem lw_frame {s t : State} {o : Outcome} {args : Array Value} (h : Framed s o t [] 600104 7301314) :
    Framed s o t (fieldLocs frame_1_writes args s ++ arrayLocs frame_1_arrays args s ++ staticLocs frame_1_statics s) 600104 7301314 := h
theorem lw_limb (L : Cond) (hL : ∀ (args : Array Value) (s t : State), L.after args s (.returned (some (.int 1))) t = true) :
    ArmFor flags0 classFile x code maxLocals ret World_1 tables_1 room_1 Calls_1 rest_1 Pre_1
      (fun tb e a s o t => postC L tb e a s o t ∧ Framed s o t (fieldLocs frame_1_writes a s ++ arrayLocs frame_1_arrays a s ++ staticLocs frame_1_statics s) 600104 7301314) := by
  intro l hflags _ _ p e ha hc hk s m args below hf hfit hheap happ hpre
  obtain ⟨k, o, h1, h2, h3, rfl, hF⟩ := lw_comes l hflags p e ha hc hk s m args below hf hfit hheap happ hpre
  exact ⟨k, _, h1, h2, h3, hL args s _, lw_frame hF⟩
theorem i_vc : Claimed_1_1 ∧ Claimed_1_2 := ⟨lw_limb limb_1_1 (fun args s t => by simp [limb_1_1, Cond.after, Cond.holds, Cond.value]), lw_limb limb_1_2 (fun args s t => Cond.after_iff.mpr (by
  first | (rw [show limb_1_2 = Cond.eq .result (.int 1) from rfl, Cond.eq_ints (x := 1) (y := 1) rfl rfl]; simp; done) | (simp [limb_1_2, Cond.value, Term.eval]; done)))⟩
