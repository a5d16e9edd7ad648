/-! WHAT THE START GIVES of classes, texts and statics. -/
theorem nw_arr : Cond.arrayOf (.static "java/util/ArrayList" "DEFAULTCAPACITY_EMPTY_ELEMENTDATA" "[Ljava/lang/Object;") (.object "java/lang/Object") ∈ flatC (Jvm.Cond.and given_1 narrow_1) := by decide +kernel
theorem nw_len : Cond.eq (.length (.static "java/util/ArrayList" "DEFAULTCAPACITY_EMPTY_ELEMENTDATA" "[Ljava/lang/Object;")) (.int 0) ∈ flatC (Jvm.Cond.and given_1 narrow_1) := by decide +kernel
theorem nw_us : Cond.isRef (.static "java/lang/Throwable" "UNASSIGNED_STACK" "[Ljava/lang/StackTraceElement;") ∈ flatC (Jvm.Cond.and given_1 narrow_1) := by decide +kernel
theorem nw_ss : Cond.isRef (.static "java/lang/Throwable" "SUPPRESSED_SENTINEL" "Ljava/util/List;") ∈ flatC (Jvm.Cond.and given_1 narrow_1) := by decide +kernel
theorem nw_mi : Cond.isRef (.mirror "[Ljava/lang/Object;") ∈ flatC (Jvm.Cond.and given_1 narrow_1) := by decide +kernel
theorem tw_lA : Cond.laysStatic "java/util/ArrayList" "DEFAULTCAPACITY_EMPTY_ELEMENTDATA" "[Ljava/lang/Object;" ∈ lw_tbl := in_t1 (List.mem_of_getElem? (i := 75) rfl)
theorem tw_lU : Cond.laysStatic "java/lang/Throwable" "UNASSIGNED_STACK" "[Ljava/lang/StackTraceElement;" ∈ lw_tbl := in_t1 (List.mem_of_getElem? (i := 202) rfl)
theorem tw_lS : Cond.laysStatic "java/lang/Throwable" "SUPPRESSED_SENTINEL" "Ljava/util/List;" ∈ lw_tbl := in_t1 (List.mem_of_getElem? (i := 204) rfl)
theorem tw_iA : Cond.initialized "java/util/ArrayList" ∈ lw_tbl := in_t1 (List.mem_of_getElem? (i := 5) rfl)
theorem tw_iT : Cond.initialized "java/lang/Throwable" ∈ lw_tbl := in_t1 (List.mem_of_getElem? (i := 10) rfl)
theorem tw_ao : Cond.arrayOver (.object "java/lang/Object") ∈ lw_tbl := in_t1 (List.mem_of_getElem? (i := 134) rfl)
theorem tw_s53 : Cond.stringRef "BadgeZones" 53 "no more zones" ∈ lw_tbl := in_t3 (List.mem_of_getElem? (i := 8) rfl)
theorem tw_s86 : Cond.stringRef "BadgeZones" 86 "not a door: sides, hold or lock" ∈ lw_tbl := in_t3 (List.mem_of_getElem? (i := 13) rfl)
theorem tw_s89 : Cond.stringRef "BadgeZones" 89 "no more doors" ∈ lw_tbl := in_t3 (List.mem_of_getElem? (i := 14) rfl)
theorem tw_s132 : Cond.stringRef "BadgeZones" 132 "a visitor cannot be a host" ∈ lw_tbl := in_t3 (List.mem_of_getElem? (i := 40) rfl)
theorem tw_s145 : Cond.stringRef "BadgeZones" 145 "what is not 0 to 4" ∈ lw_tbl := in_t2 (List.mem_of_getElem? (i := 40) rfl)
theorem tw_s150 : Cond.stringRef "BadgeZones" 150 "minutes are not 1 to 2000" ∈ lw_tbl := in_t2 (List.mem_of_getElem? (i := 62) rfl)
theorem tw_s153 : Cond.stringRef "BadgeZones" 153 "later than the last minute" ∈ lw_tbl := in_t2 (List.mem_of_getElem? (i := 79) rfl)
theorem tw_s177 : Cond.stringRef "BadgeZones" 177 "not a minute up to now" ∈ lw_tbl := in_t2 (List.mem_of_getElem? (i := 214) rfl)
theorem tw_s211 : Cond.stringRef "BadgeZones" 211 "no such zone" ∈ lw_tbl := in_t2 (List.mem_of_getElem? (i := 209) rfl)
theorem tw_s213 : Cond.stringRef "BadgeZones" 213 "no such door" ∈ lw_tbl := in_t1 (List.mem_of_getElem? (i := 216) rfl)
theorem tw_s215 : Cond.stringRef "BadgeZones" 215 "no such badge" ∈ lw_tbl := in_t2 (List.mem_of_getElem? (i := 31) rfl)
theorem tw_s217 : Cond.stringRef "BadgeZones" 217 "capacity is not 1 to 20" ∈ lw_tbl := in_t3 (List.mem_of_getElem? (i := 6) rfl)
theorem tw_s219 : Cond.stringRef "BadgeZones" 219 "not hours of a day" ∈ lw_tbl := in_t3 (List.mem_of_getElem? (i := 7) rfl)
theorem tw_s221 : Cond.stringRef "BadgeZones" 221 "rights are not 0 to 255" ∈ lw_tbl := in_t3 (List.mem_of_getElem? (i := 86) rfl)
theorem tw_s223 : Cond.stringRef "BadgeZones" 223 "no more badges" ∈ lw_tbl := in_t3 (List.mem_of_getElem? (i := 45) rfl)
set_option maxRecDepth 100000 in
theorem strsG_w : ∀ q ∈ strsG, q.1 = "BadgeZones" ∧ Cond.stringRef q.1 q.2.1 q.2.2 ∈ lw_tbl := by
  intro q hq
  simp only [strsG, List.mem_cons, List.not_mem_nil, or_false] at hq
  rcases hq with rfl | rfl | rfl | rfl | rfl | rfl | rfl | rfl | rfl | rfl | rfl | rfl | rfl | rfl | rfl
  · exact ⟨rfl, tw_s53⟩
  · exact ⟨rfl, tw_s86⟩
  · exact ⟨rfl, tw_s89⟩
  · exact ⟨rfl, tw_s132⟩
  · exact ⟨rfl, tw_s145⟩
  · exact ⟨rfl, tw_s150⟩
  · exact ⟨rfl, tw_s153⟩
  · exact ⟨rfl, tw_s177⟩
  · exact ⟨rfl, tw_s211⟩
  · exact ⟨rfl, tw_s213⟩
  · exact ⟨rfl, tw_s215⟩
  · exact ⟨rfl, tw_s217⟩
  · exact ⟨rfl, tw_s219⟩
  · exact ⟨rfl, tw_s221⟩
  · exact ⟨rfl, tw_s223⟩
theorem arr_of {args : Array Value} {s : State} {ty : FieldType} (h : (Cond.arrayClass ty).before args s = true) : ∃ c : ClassId, ArrOfT s c ty ∧ s.vm.findClass ("[" ++ ty.toString) = some c := by
  obtain ⟨c, k, comp, h1, h2, h3⟩ := Cond.arrayClass_spec h
  exact ⟨c, fun n z => ⟨fun k h => (by cases h), k, h2, comp, h3⟩, h1⟩
theorem arr_ofO {args : Array Value} {s : State} {C : String} (h : (Cond.arrayOver (.object C)).before args s = true) : ∃ c : ClassId, ArrOfT s c (.object C) ∧ va_RA s c (.object C) := by
  obtain ⟨comp, c, k, h1, -, h3, h4, h5⟩ := Cond.arrayOver_spec h
  exact ⟨c, fun n z => ⟨fun k h => (by cases h), k, h3, comp, h4⟩, k, comp, h3, h4, h1, h5⟩
set_option maxHeartbeats 4000000 in
set_option maxRecDepth 100000 in
/-- what the start gives of classes, texts and statics -/
theorem evn_start {s : State} {b : Nat} (hts : ∀ w ∈ lw_tbl, w.before #[Value.ref b] s = true) (hgv : (Jvm.Cond.and given_1 narrow_1).before #[Value.ref b] s = true) : ∃ G : Ids, Evn G (fun q : Nat => s.heap.size ≤ q) s s.heap := by
  have hg := flat_of_before _ hgv
  have htG : ∀ w ∈ GT, w.before #[Value.ref b] s = true := fun w h => hts w (gt_tbl w h)
  have hA : ∀ a : Nat, a < s.heap.size → ¬ (fun q : Nat => s.heap.size ≤ q) a := fun a h => Nat.not_le.mpr h
  obtain ⟨c0, iS0, hK0⟩ := u_known (n := 3) htG cls0.2.1 (htG _ kn_Jx4a65c.1)
  obtain ⟨c1, iS1, hK1⟩ := u_known (n := 7) htG cls1.2.1 (htG _ kn_X0.1)
  obtain ⟨c2, iS2, hK2⟩ := u_known (n := 5) htG cls2.2.1 (htG _ kn_X1.1)
  obtain ⟨c3, iS3, hK3⟩ := u_known (n := 2) htG cls3.2.1 (htG _ kn_X2.1)
  obtain ⟨c4, iS4, hK4⟩ := u_known (n := 6) htG cls4.2.1 (htG _ kn_X3.1)
  obtain ⟨c5, iS5, hK5⟩ := u_known (n := 6) htG cls5.2.1 (htG _ kn_X4.1)
  obtain ⟨dC, dI, hKc⟩ : ∃ (dC : Nat → ClassId) (dI : Nat → Nat → Nat), ∀ (k : Nat) (q : vw_C), vwCl[k]? = some q → u_Kn s q.1 q.2.1 q.2.2 (dC k) (dI k) := by
    refine ⟨fun k => if k = 0 then c0 else if k = 1 then c1 else if k = 2 then c2 else if k = 3 then c3 else if k = 4 then c4 else c5, fun k => if k = 0 then iS0 else if k = 1 then iS1 else if k = 2 then iS2 else if k = 3 then iS3 else if k = 4 then iS4 else iS5, ?_⟩
    intro k q hq
    match k, hq with
    | 0, hq => cases hq; exact hK0
    | 1, hq => cases hq; exact hK1
    | 2, hq => cases hq; exact hK2
    | 3, hq => cases hq; exact hK3
    | 4, hq => cases hq; exact hK4
    | 5, hq => cases hq; exact hK5
    | k + 6, hq => simp [vwCl] at hq
  obtain ⟨cI, hI1, hI2⟩ := arr_of (htG _ ka_int)
  obtain ⟨cR, hR1, hR2⟩ := arr_ofO (hts _ tw_ao)
  obtain ⟨t, ht, hT⟩ := va_Tof (N := 0) (f := fun _ => .null) (A := fun q : Nat => s.heap.size ≤ q) (by decide) (hg _ nw_arr) (va_eqt (hg _ nw_len)) (fun j hj => absurd hj (Nat.not_lt_zero j)) hA
  obtain ⟨mi, hmi⟩ := va_Mi.of (hg _ nw_mi)
  refine ⟨((dC, dI), (cI, cI, cR, cI), t, mi), ⟨hKc, fun k q hq => ?_⟩, ⟨va_Zref (hts _ tw_lA) (hts _ tw_iA) ht hA, hT⟩, ⟨vx_Zqof (hts _ tw_lU) (hts _ tw_iT) (hg _ nw_us) hA, vx_Zqof (hts _ tw_lS) (hts _ tw_iT) (hg _ nw_ss) hA⟩, fun q hq => ?_, ⟨hmi, fun w hw => ?_, va_AO.of (hts _ tw_ao)⟩, trivial⟩
  · match k, hq with
    | 0, hq => cases hq; exact ⟨hI1, hI2⟩
    | 1, hq => cases hq; exact ⟨hI1, hI2⟩
    | 2, hq => cases hq; exact ⟨hR1, hR2⟩
    | 3, hq => cases hq; exact ⟨hI1, hI2⟩
    | k + 4, hq => simp [tysG] at hq
  · obtain ⟨e, hw⟩ := strsG_w q hq
    have h1 := hts _ hw
    have h2 : s.vm.findClass q.1 = some c5 := by rw [e]; exact hK5.2.1
    obtain ⟨-, -, -, a, -, -, -, -, -, hev⟩ := Cond.stringRef_spec h2 h1
    exact ⟨a, vk_R.of h1 hev⟩
  · have h1 := hts w (List.mem_filter.mp hw).1
    have h2 := (List.mem_filter.mp hw).2
    cases w with
    | castable a c => exact va_Nw.of rfl h1
    | declares x => exact va_Nw.of rfl h1
    | _ => cases h2

