theorem and31 (x : Int32) : ∃ c, c < 32 ∧ x &&& nI 31 = nI c := by
  refine ⟨(x.toBitVec &&& 31#32).toNat, ?_, ?_⟩
  · rw [BitVec.toNat_and]; exact Nat.lt_of_le_of_lt Nat.and_le_right (by decide)
  · apply Int32.toBitVec_inj.1
    show x.toBitVec &&& BitVec.ofNat 32 31 = BitVec.ofNat 32 _
    rw [BitVec.ofNat_toNat]; simp
theorem sub5a : ∀ L, L < 5 → (nI L - nI 5).toInt = (L : Int) - 5 := by decide
theorem sub5 {L : Nat} (hL : L ≤ 2560) : (nI L - nI 5).toInt = (L : Int) - 5 := by
  by_cases c : L < 5
  · exact sub5a L c
  · rw [pk_sub (by omega), nI_toInt (by omega)]; omega
set_option maxHeartbeats 4000000 in
set_option maxRecDepth 100000 in
theorem law_loop {Γ : Cx} {G : Ids} {V : Vx} {b x m o L : Nat} {xs : Nat → Int32} (hC : Ctx Γ G V code RL room_1 9) (hX : ScX Γ V b L xs) (hL : L ≤ 2560) (hE : ∀ (k s : Nat) (S : Ps) (lv : List (Nat × Value)), k ≤ 601024 → s ≤ 7293034 → At Γ G V k s S lv 1634 []) : ∀ (r n k s : Nat) (S : Ps), n + r = L / 5 → k + 20 * r ≤ 601024 → s + 5000 * r ≤ 7293034 → JL G S x m o n → At Γ G V k s S [(0, .ref b), (1, .ref x), (2, .ref m), (3, .ref o), (4, .int (nI (5 * n)))] 23 [] := by
  intro r
  induction r with
  | zero =>
    intro n k s S hn hk hs hJ
    refine r_iload (pc := 23) hC dL_law_23 rfl ?_
    first | refine r_aload_n (pc := 25) hC dL_law_25 rfl ?_ | refine r_aload (pc := 25) hC dL_law_25 rfl ?_
    refine r_slen (pc := 26) hC hX dL_law_26 ?_
    refine r_iconst (pc := 27) (nI 5) hC dL_law_27 (by decide) ?_
    refine r_isub (pc := 28) hC dL_law_28 ?_
    refine ri_icmp_gt (pc := 29) (tgt := 1634) hC dL_law_29 (by decide) (fun c29 => ?_) (fun c29 => ?_)
    · exact hE _ _ _ _ (by omega) (by omega)
    · exfalso
      rw [sub5 hL, nI_toInt (by omega)] at c29; omega
  | succ r ih =>
    intro n k s S hn hk hs hJ
    refine r_iload (pc := 23) hC dL_law_23 rfl ?_
    first | refine r_aload_n (pc := 25) hC dL_law_25 rfl ?_ | refine r_aload (pc := 25) hC dL_law_25 rfl ?_
    refine r_slen (pc := 26) hC hX dL_law_26 ?_
    refine r_iconst (pc := 27) (nI 5) hC dL_law_27 (by decide) ?_
    refine r_isub (pc := 28) hC dL_law_28 ?_
    refine ri_icmp_gt (pc := 29) (tgt := 1634) hC dL_law_29 (by decide) (fun c29 => ?_) (fun c29 => ?_)
    · exfalso
      rw [sub5 hL, nI_toInt (by omega)] at c29; omega
    · first | refine r_aload_n (pc := 32) hC dL_law_32 rfl ?_ | refine r_aload (pc := 32) hC dL_law_32 rfl ?_
      refine r_iload (pc := 33) hC dL_law_33 rfl ?_
      refine r_sld (pc := 35) hC hX hL (by omega) dL_law_35 ?_
      refine r_bipush (pc := 36) (nI 31) hC dL_law_36 (by decide) ?_
      refine r_iand (pc := 38) hC dL_law_38 ?_
      obtain ⟨c, hc, ec⟩ := and31 (xs (5 * n))
      rw [ec]
      have nx : ∀ S9, JL G S9 x m o (n + 1) → At Γ G V (k + 20) (s + 5000) S9 [(0, .ref b), (1, .ref x), (2, .ref m), (3, .ref o), (4, .int (nI (5 * n)))] 1628 [] := fun S9 hJ9 => by
        first | refine rn_iinc (pc := 1628) (q := 5) hC dL_law_1628 rfl (by decide) ?_ | refine r_iinc (pc := 1628) _ hC dL_law_1628 rfl rfl (by decide) ?_
        refine r_goto (pc := 1631) (tgt := 23) hC dL_law_1631 (by decide) ?_
        refine at_lv (lv' := [(0, .ref b), (1, .ref x), (2, .ref m), (3, .ref o), (4, .int (nI (5 * (n + 1))))]) ⟨rfl, rfl, rfl, rfl, rfl, trivial⟩ ?_
        exact ih (n + 1) (k + 20) (s + 5000) S9 (by omega) (by omega) (by omega) hJ9
      have hJ0 := hJ
      obtain ⟨σ, Y, M, t, hZ, hM, hJ9, ho, hoN⟩ := hJ
      have hx9 : (nI c).toInt = c := nI_toInt (by omega)
      by_cases c24 : c ≤ 24
      · rcases (show c = 0 ∨ c = 1 ∨ c = 2 ∨ c = 3 ∨ c = 4 ∨ c = 5 ∨ c = 6 ∨ c = 7 ∨ c = 8 ∨ c = 9 ∨ c = 10 ∨ c = 11 ∨ c = 12 ∨ c = 13 ∨ c = 14 ∨ c = 15 ∨ c = 16 ∨ c = 17 ∨ c = 18 ∨ c = 19 ∨ c = 20 ∨ c = 21 ∨ c = 22 ∨ c = 23 ∨ c = 24 by omega) with rfl | rfl | rfl | rfl | rfl | rfl | rfl | rfl | rfl | rfl | rfl | rfl | rfl | rfl | rfl | rfl | rfl | rfl | rfl | rfl | rfl | rfl | rfl | rfl | rfl
        · refine r_tableIn (pc := 39) (tgt := 152) (off := 113) hC dL_law_39 (by decide) (by decide) (by decide) (by decide) ?_
          exact lc_addZone hC hX hL (by omega) (by omega) hZ hM hJ9 ho hoN (by omega) (by omega) nx
        · refine r_tableIn (pc := 39) (tgt := 232) (off := 193) hC dL_law_39 (by decide) (by decide) (by decide) (by decide) ?_
          exact lc_setZone hC hX hL (by omega) (by omega) hZ hM hJ9 ho hoN (by omega) (by omega) nx
        · refine r_tableIn (pc := 39) (tgt := 324) (off := 285) hC dL_law_39 (by decide) (by decide) (by decide) (by decide) ?_
          exact lc_addDoor hC hX hL (by omega) (by omega) hZ hM hJ9 ho hoN (by omega) (by omega) nx
        · refine r_tableIn (pc := 39) (tgt := 416) (off := 377) hC dL_law_39 (by decide) (by decide) (by decide) (by decide) ?_
          exact lc_distance hC hX hL (by omega) (by omega) hZ hM hJ9 ho hoN (by omega) (by omega) nx
        · refine r_tableIn (pc := 39) (tgt := 472) (off := 433) hC dL_law_39 (by decide) (by decide) (by decide) (by decide) ?_
          exact lc_isOpen hC hX hL (by omega) (by omega) hZ hM hJ9 ho hoN (by omega) (by omega) nx
        · refine r_tableIn (pc := 39) (tgt := 535) (off := 496) hC dL_law_39 (by decide) (by decide) (by decide) (by decide) ?_
          exact lc_openFor hC hX hL (by omega) (by omega) hZ hM hJ9 ho hoN (by omega) (by omega) nx
        · refine r_tableIn (pc := 39) (tgt := 591) (off := 552) hC dL_law_39 (by decide) (by decide) (by decide) (by decide) ?_
          exact lc_addBadge hC hX hL (by omega) (by omega) hZ hM hJ9 ho hoN (by omega) (by omega) nx
        · refine r_tableIn (pc := 39) (tgt := 647) (off := 608) hC dL_law_39 (by decide) (by decide) (by decide) (by decide) ?_
          exact lc_addVisitor hC hX hL (by omega) (by omega) hZ hM hJ9 ho hoN (by omega) (by omega) nx
        · refine r_tableIn (pc := 39) (tgt := 703) (off := 664) hC dL_law_39 (by decide) (by decide) (by decide) (by decide) ?_
          exact lc_setRights hC hX hL (by omega) (by omega) hZ hM hJ9 ho hoN (by omega) (by omega) nx
        · refine r_tableIn (pc := 39) (tgt := 771) (off := 732) hC dL_law_39 (by decide) (by decide) (by decide) (by decide) ?_
          exact lc_block hC hX hL (by omega) (by omega) hZ hM hJ9 ho hoN (by omega) (by omega) nx
        · refine r_tableIn (pc := 39) (tgt := 862) (off := 823) hC dL_law_39 (by decide) (by decide) (by decide) (by decide) ?_
          exact lc_badge hC hX hL (by omega) (by omega) hZ hM hJ9 ho hoN (by omega) (by omega) nx
        · refine r_tableIn (pc := 39) (tgt := 930) (off := 891) hC dL_law_39 (by decide) (by decide) (by decide) (by decide) ?_
          exact lc_tick hC hX hL (by omega) (by omega) hZ hM hJ9 ho hoN (by omega) (by omega) nx
        · refine r_tableIn (pc := 39) (tgt := 986) (off := 947) hC dL_law_39 (by decide) (by decide) (by decide) (by decide) ?_
          exact lc_alarm hC hX hL (by omega) (by omega) hZ hM hJ9 ho hoN (by omega) (by omega) nx
        · refine r_tableIn (pc := 39) (tgt := 1027) (off := 988) hC dL_law_39 (by decide) (by decide) (by decide) (by decide) ?_
          exact lc_request hC hX hL (by omega) (by omega) hZ hM hJ9 ho hoN (by omega) (by omega) nx
        · refine r_tableIn (pc := 39) (tgt := 1095) (off := 1056) hC dL_law_39 (by decide) (by decide) (by decide) (by decide) ?_
          exact lc_wouldBe hC hX hL (by omega) (by omega) hZ hM hJ9 ho hoN (by omega) (by omega) nx
        · refine r_tableIn (pc := 39) (tgt := 1163) (off := 1124) hC dL_law_39 (by decide) (by decide) (by decide) (by decide) ?_
          exact lc_now hC hX hL (by omega) (by omega) hZ hM hJ9 ho hoN (by omega) (by omega) nx
        · refine r_tableIn (pc := 39) (tgt := 1176) (off := 1137) hC dL_law_39 (by decide) (by decide) (by decide) (by decide) ?_
          exact lc_inside hC hX hL (by omega) (by omega) hZ hM hJ9 ho hoN (by omega) (by omega) nx
        · refine r_tableIn (pc := 39) (tgt := 1232) (off := 1193) hC dL_law_39 (by decide) (by decide) (by decide) (by decide) ?_
          exact lc_alone hC hX hL (by omega) (by omega) hZ hM hJ9 ho hoN (by omega) (by omega) nx
        · refine r_tableIn (pc := 39) (tgt := 1245) (off := 1206) hC dL_law_39 (by decide) (by decide) (by decide) (by decide) ?_
          exact lc_wasIn hC hX hL (by omega) (by omega) hZ hM hJ9 ho hoN (by omega) (by omega) nx
        · refine r_tableIn (pc := 39) (tgt := 1313) (off := 1274) hC dL_law_39 (by decide) (by decide) (by decide) (by decide) ?_
          exact lc_minutesIn hC hX hL (by omega) (by omega) hZ hM hJ9 ho hoN (by omega) (by omega) nx
        · refine r_tableIn (pc := 39) (tgt := 1381) (off := 1342) hC dL_law_39 (by decide) (by decide) (by decide) (by decide) ?_
          exact lc_presence hC hX hL (by omega) (by omega) hZ hM hJ9 ho hoN (by omega) (by omega) nx
        · refine r_tableIn (pc := 39) (tgt := 1422) (off := 1383) hC dL_law_39 (by decide) (by decide) (by decide) (by decide) ?_
          exact lc_way hC hX hL (by omega) (by omega) hZ hM hJ9 ho hoN (by omega) (by omega) nx
        · refine r_tableIn (pc := 39) (tgt := 1490) (off := 1451) hC dL_law_39 (by decide) (by decide) (by decide) (by decide) ?_
          exact lc_next hC hX hL (by omega) (by omega) hZ hM hJ9 ho hoN (by omega) (by omega) nx
        · refine r_tableIn (pc := 39) (tgt := 1558) (off := 1519) hC dL_law_39 (by decide) (by decide) (by decide) (by decide) ?_
          exact lc_canCome hC hX hL (by omega) (by omega) hZ hM hJ9 ho hoN (by omega) (by omega) nx
        · refine r_tableIn (pc := 39) (tgt := 1614) (off := 1575) hC dL_law_39 (by decide) (by decide) (by decide) (by decide) ?_
          exact lc_digest hC hX hL (by omega) (by omega) hZ hM hJ9 ho hoN (by omega) (by omega) nx
      · refine r_tableOut (pc := 39) (tgt := 1628) hC dL_law_39 (Or.inr (by rw [hx9]; omega)) (by decide) ?_
        refine at_widen (by omega) (by omega) (nx S hJ0.le)
theorem nw_arr : Cond.arrayOf (.static "java/util/ArrayList" "DEFAULTCAPACITY_EMPTY_ELEMENTDATA" "[Ljava/lang/Object;") (.object "java/lang/Object") ∈ flatC (Jvm.Cond.and given_1 narrow_1) := by decide +kernel
theorem nw_len : Cond.eq (.length (.static "java/util/ArrayList" "DEFAULTCAPACITY_EMPTY_ELEMENTDATA" "[Ljava/lang/Object;")) (.int 0) ∈ flatC (Jvm.Cond.and given_1 narrow_1) := by decide +kernel
theorem nw_us : Cond.isRef (.static "java/lang/Throwable" "UNASSIGNED_STACK" "[Ljava/lang/StackTraceElement;") ∈ flatC (Jvm.Cond.and given_1 narrow_1) := by decide +kernel
theorem nw_ss : Cond.isRef (.static "java/lang/Throwable" "SUPPRESSED_SENTINEL" "Ljava/util/List;") ∈ flatC (Jvm.Cond.and given_1 narrow_1) := by decide +kernel
theorem nw_mi : Cond.isRef (.mirror "[Ljava/lang/Object;") ∈ flatC (Jvm.Cond.and given_1 narrow_1) := by decide +kernel
theorem nw_BA : Cond.not (.castable "java/lang/IndexOutOfBoundsException" "java/lang/IllegalArgumentException") ∈ flatC (Jvm.Cond.and given_1 narrow_1) := by decide +kernel
theorem nw_BS : Cond.not (.castable "java/lang/IndexOutOfBoundsException" "java/lang/IllegalStateException") ∈ flatC (Jvm.Cond.and given_1 narrow_1) := by decide +kernel
theorem nw_AS : Cond.not (.castable "java/lang/IllegalArgumentException" "java/lang/IllegalStateException") ∈ flatC (Jvm.Cond.and given_1 narrow_1) := by decide +kernel
theorem nw_AB : Cond.not (.castable "java/lang/IllegalArgumentException" "java/lang/IndexOutOfBoundsException") ∈ flatC (Jvm.Cond.and given_1 narrow_1) := by decide +kernel
theorem nw_SA : Cond.not (.castable "java/lang/IllegalStateException" "java/lang/IllegalArgumentException") ∈ flatC (Jvm.Cond.and given_1 narrow_1) := by decide +kernel
theorem nw_SB : Cond.not (.castable "java/lang/IllegalStateException" "java/lang/IndexOutOfBoundsException") ∈ flatC (Jvm.Cond.and given_1 narrow_1) := by decide +kernel
theorem tw_lA : Cond.laysStatic "java/util/ArrayList" "DEFAULTCAPACITY_EMPTY_ELEMENTDATA" "[Ljava/lang/Object;" ∈ lw_tbl := in_t1 (List.mem_of_getElem? (i := 78) rfl)
theorem tw_lU : Cond.laysStatic "java/lang/Throwable" "UNASSIGNED_STACK" "[Ljava/lang/StackTraceElement;" ∈ lw_tbl := in_t2 (List.mem_of_getElem? (i := 49) rfl)
theorem tw_lS : Cond.laysStatic "java/lang/Throwable" "SUPPRESSED_SENTINEL" "Ljava/util/List;" ∈ lw_tbl := in_t2 (List.mem_of_getElem? (i := 51) rfl)
theorem tw_iA : Cond.initialized "java/util/ArrayList" ∈ lw_tbl := in_t1 (List.mem_of_getElem? (i := 5) rfl)
theorem tw_iT : Cond.initialized "java/lang/Throwable" ∈ lw_tbl := in_t1 (List.mem_of_getElem? (i := 11) rfl)
theorem tw_ao : Cond.arrayOver (.object "java/lang/Object") ∈ lw_tbl := in_t1 (List.mem_of_getElem? (i := 138) rfl)
theorem tw_s53 : Cond.stringRef "BadgeZones" 53 "no more zones" ∈ lw_tbl := in_t2 (List.mem_of_getElem? (i := 100) rfl)
theorem tw_s64 : Cond.stringRef "BadgeZones" 64 "zone 0 cannot be set" ∈ lw_tbl := in_t2 (List.mem_of_getElem? (i := 135) rfl)
theorem tw_s86 : Cond.stringRef "BadgeZones" 86 "not a door: sides, hold or lock" ∈ lw_tbl := in_t2 (List.mem_of_getElem? (i := 143) rfl)
theorem tw_s89 : Cond.stringRef "BadgeZones" 89 "no more doors" ∈ lw_tbl := in_t2 (List.mem_of_getElem? (i := 144) rfl)
theorem tw_s132 : Cond.stringRef "BadgeZones" 132 "a visitor cannot be a host" ∈ lw_tbl := in_t3 (List.mem_of_getElem? (i := 46) rfl)
theorem tw_s134 : Cond.stringRef "BadgeZones" 134 "a visitor has the rights of the host" ∈ lw_tbl := in_t3 (List.mem_of_getElem? (i := 54) rfl)
theorem tw_s145 : Cond.stringRef "BadgeZones" 145 "what is not 0 to 4" ∈ lw_tbl := in_t3 (List.mem_of_getElem? (i := 69) rfl)
theorem tw_s150 : Cond.stringRef "BadgeZones" 150 "minutes are not 1 to 2000" ∈ lw_tbl := in_t3 (List.mem_of_getElem? (i := 77) rfl)
theorem tw_s153 : Cond.stringRef "BadgeZones" 153 "later than the last minute" ∈ lw_tbl := in_t3 (List.mem_of_getElem? (i := 79) rfl)
theorem tw_s177 : Cond.stringRef "BadgeZones" 177 "not a minute up to now" ∈ lw_tbl := in_t3 (List.mem_of_getElem? (i := 161) rfl)
theorem tw_s211 : Cond.stringRef "BadgeZones" 211 "no such zone" ∈ lw_tbl := in_t2 (List.mem_of_getElem? (i := 128) rfl)
theorem tw_s213 : Cond.stringRef "BadgeZones" 213 "no such door" ∈ lw_tbl := in_t2 (List.mem_of_getElem? (i := 206) rfl)
theorem tw_s215 : Cond.stringRef "BadgeZones" 215 "no such badge" ∈ lw_tbl := in_t3 (List.mem_of_getElem? (i := 45) rfl)
theorem tw_s217 : Cond.stringRef "BadgeZones" 217 "capacity is not 1 to 20" ∈ lw_tbl := in_t2 (List.mem_of_getElem? (i := 63) rfl)
theorem tw_s219 : Cond.stringRef "BadgeZones" 219 "not hours of a day" ∈ lw_tbl := in_t2 (List.mem_of_getElem? (i := 90) rfl)
theorem tw_s221 : Cond.stringRef "BadgeZones" 221 "rights are not 0 to 255" ∈ lw_tbl := in_t2 (List.mem_of_getElem? (i := 217) rfl)
theorem tw_s223 : Cond.stringRef "BadgeZones" 223 "no more badges" ∈ lw_tbl := in_t2 (List.mem_of_getElem? (i := 222) rfl)
set_option maxRecDepth 100000 in
theorem strsG_w : ∀ q ∈ strsG, q.1 = "BadgeZones" ∧ Cond.stringRef q.1 q.2.1 q.2.2 ∈ lw_tbl := by
  intro q hq
  simp only [strsG, List.mem_cons, List.not_mem_nil, or_false] at hq
  rcases hq with rfl | rfl | rfl | rfl | rfl | rfl | rfl | rfl | rfl | rfl | rfl | rfl | rfl | rfl | rfl | rfl | rfl
  · exact ⟨rfl, tw_s53⟩
  · exact ⟨rfl, tw_s64⟩
  · exact ⟨rfl, tw_s86⟩
  · exact ⟨rfl, tw_s89⟩
  · exact ⟨rfl, tw_s132⟩
  · exact ⟨rfl, tw_s134⟩
  · exact ⟨rfl, tw_s145⟩
  · exact ⟨rfl, tw_s150⟩
  · exact ⟨rfl, tw_s153⟩
  · exact ⟨rfl, tw_s177⟩
  · exact ⟨rfl, tw_s211⟩
  · exact ⟨rfl, tw_s213⟩
  · exact ⟨rfl, tw_s215⟩
  · exact ⟨rfl, tw_s217⟩
  · exact ⟨rfl, tw_s219⟩
  · exact ⟨rfl, tw_s221⟩
  · exact ⟨rfl, tw_s223⟩
theorem arr_of {args : Array Value} {s : State} {ty : FieldType} (h : (Cond.arrayClass ty).before args s = true) : ∃ c : ClassId, ArrOfT s c ty ∧ s.vm.findClass ("[" ++ ty.toString) = some c := by
  obtain ⟨c, k, comp, h1, h2, h3⟩ := Cond.arrayClass_spec h
  exact ⟨c, fun n z => ⟨fun k h => (by cases h), k, h2, comp, h3⟩, h1⟩
theorem arr_ofO {args : Array Value} {s : State} {C : String} (h : (Cond.arrayOver (.object C)).before args s = true) : ∃ c : ClassId, ArrOfT s c (.object C) ∧ va_RA s c (.object C) := by
  obtain ⟨comp, c, k, h1, -, h3, h4, h5⟩ := Cond.arrayOver_spec h
  exact ⟨c, fun n z => ⟨fun k h => (by cases h), k, h3, comp, h4⟩, k, comp, h3, h4, h1, h5⟩
set_option maxHeartbeats 4000000 in
set_option maxRecDepth 100000 in
/-- what the start gives of classes, texts and statics -/
theorem evn_start {s : State} {b : Nat} (hts : ∀ w ∈ lw_tbl, w.before #[Value.ref b] s = true) (hgv : (Jvm.Cond.and given_1 narrow_1).before #[Value.ref b] s = true) : ∃ G : Ids, Evn G (fun q : Nat => s.heap.size ≤ q) s s.heap := by
  have hg := flat_of_before _ hgv
  have htG : ∀ w ∈ GT, w.before #[Value.ref b] s = true := fun w h => hts w (gt_tbl w h)
  have hA : ∀ a : Nat, a < s.heap.size → ¬ (fun q : Nat => s.heap.size ≤ q) a := fun a h => Nat.not_le.mpr h
  obtain ⟨c0, iS0, hK0⟩ := u_known (n := 3) htG cls0.2.1 (htG _ kn_Jx4a65c.1)
  obtain ⟨c1, iS1, hK1⟩ := u_known (n := 7) htG cls1.2.1 (htG _ kn_X0.1)
  obtain ⟨c2, iS2, hK2⟩ := u_known (n := 5) htG cls2.2.1 (htG _ kn_X1.1)
  obtain ⟨c3, iS3, hK3⟩ := u_known (n := 2) htG cls3.2.1 (htG _ kn_X2.1)
  obtain ⟨c4, iS4, hK4⟩ := u_known (n := 6) htG cls4.2.1 (htG _ kn_X3.1)
  obtain ⟨c5, iS5, hK5⟩ := u_known (n := 6) htG cls5.2.1 (htG _ kn_X4.1)
  obtain ⟨c6, iS6, hK6⟩ := u_known (n := 20) htG cls6.2.1 (htG _ kn_X5.1)
  obtain ⟨dC, dI, hKc⟩ : ∃ (dC : Nat → ClassId) (dI : Nat → Nat → Nat), ∀ (k : Nat) (q : vw_C), vwCl[k]? = some q → u_Kn s q.1 q.2.1 q.2.2 (dC k) (dI k) := by
    refine ⟨fun k => if k = 0 then c0 else if k = 1 then c1 else if k = 2 then c2 else if k = 3 then c3 else if k = 4 then c4 else if k = 5 then c5 else c6, fun k => if k = 0 then iS0 else if k = 1 then iS1 else if k = 2 then iS2 else if k = 3 then iS3 else if k = 4 then iS4 else if k = 5 then iS5 else iS6, ?_⟩
    intro k q hq
    match k, hq with
    | 0, hq => cases hq; exact hK0
    | 1, hq => cases hq; exact hK1
    | 2, hq => cases hq; exact hK2
    | 3, hq => cases hq; exact hK3
    | 4, hq => cases hq; exact hK4
    | 5, hq => cases hq; exact hK5
    | 6, hq => cases hq; exact hK6
    | k + 7, hq => simp [vwCl] at hq
  obtain ⟨cI, hI1, hI2⟩ := arr_of (htG _ ka_int)
  obtain ⟨cZ, hZ1, hZ2⟩ := arr_of (htG _ ka_boolean)
  obtain ⟨cJ, hJ1, hJ2⟩ := arr_of (htG _ ka_long)
  obtain ⟨cR, hR1, hR2⟩ := arr_ofO (hts _ tw_ao)
  obtain ⟨t, ht, hT⟩ := va_Tof (N := 0) (f := fun _ => .null) (A := fun q : Nat => s.heap.size ≤ q) (by decide) (hg _ nw_arr) (va_eqt (hg _ nw_len)) (fun j hj => absurd hj (Nat.not_lt_zero j)) hA
  obtain ⟨mi, hmi⟩ := va_Mi.of (hg _ nw_mi)
  refine ⟨((dC, dI), (cI, cZ, cR, cJ), t, mi), ⟨hKc, fun k q hq => ?_⟩, ⟨va_Zref (hts _ tw_lA) (hts _ tw_iA) ht hA, hT⟩, ⟨vx_Zqof (hts _ tw_lU) (hts _ tw_iT) (hg _ nw_us) hA, vx_Zqof (hts _ tw_lS) (hts _ tw_iT) (hg _ nw_ss) hA⟩, fun q hq => ?_, ⟨hmi, fun w hw => ?_, va_AO.of (hts _ tw_ao)⟩, va_Nc.of (hg _ nw_BA), va_Nc.of (hg _ nw_BS), va_Nc.of (hg _ nw_AS), va_Nc.of (hg _ nw_AB), va_Nc.of (hg _ nw_SA), va_Nc.of (hg _ nw_SB)⟩
  · match k, hq with
    | 0, hq => cases hq; exact ⟨hI1, hI2⟩
    | 1, hq => cases hq; exact ⟨hZ1, hZ2⟩
    | 2, hq => cases hq; exact ⟨hR1, hR2⟩
    | 3, hq => cases hq; exact ⟨hJ1, hJ2⟩
    | k + 4, hq => simp [tysG] at hq
  · obtain ⟨e, hw⟩ := strsG_w q hq
    have h1 := hts _ hw
    have h2 : s.vm.findClass q.1 = some c5 := by rw [e]; exact hK5.2.1
    obtain ⟨-, -, -, a, -, -, -, -, -, hev⟩ := Cond.stringRef_spec h2 h1
    exact ⟨a, vk_R.of h1 hev⟩
  · have h1 := hts w (List.mem_filter.mp hw).1
    have h2 := (List.mem_filter.mp hw).2
    cases w with
    | castable a c => exact va_Nw.of rfl h1
    | declares x => exact va_Nw.of rfl h1
    | _ => cases h2
