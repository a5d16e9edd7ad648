/-! THE LAW'S OWN METHODS: each calls the class, keeps the answer, and tells by a number what was thrown. -/
def LQ (G : Ids) (S : Ps) (cs : List (Nat × Bool)) (w : Int64) (σ σ' : Sg) (x o : Nat) (v : Option Value) (S9 : Ps) : Prop := v = some (.int (nI (kd cs))) ∧ Fr (fun q => cP S q ∨ q = o) S S9 ∧ pN S9 o = pN S o ∧ ((kd cs = 0 ∧ (∃ Y', RC G S9 Y' σ' x) ∧ pJ S9 o 0 = w) ∨ (kd cs ≠ 0 ∧ ∃ Y', RC G S9 Y' σ x))
theorem ncP {S : Ps} {o : Nat} (ho : isK S 10 o) : ¬ cP S o := fun q => by
  unfold cP at q
  rw [ho.2] at q
  rcases q with q | q <;> omega
theorem ncM {S : Ps} {o : Nat} (ho : isK S 10 o) : ¬ mP S o := fun q => by
  unfold mP at q
  rw [ho.2] at q
  rcases q with q | q | q <;> omega
theorem LQ.ok {G : Ids} {S S9 : Ps} {cs : List (Nat × Bool)} {w : Int64} {σ σ' : Sg} {x o : Nat} (hk : kd cs = 0) (h : CO G S S9 σ' x) (ho : isK S 10 o) : LQ G S cs w σ σ' x o (some (.int (nI 0))) (sJ S9 o 0 w) := by
  obtain ⟨hF, Y', hZ⟩ := h
  have ho9 := hF.K ho
  refine ⟨by rw [hk], (hF.mono (fun _ _ q => Or.inl q)).trans (Fr.sJ (fun _ => Or.inr rfl)), hF.N ho (ncP ho), Or.inl ⟨hk, ⟨Y', hZ.frM (P := fun q => q = o) (Fr.sJ (fun _ => rfl)) (fun q _ e => by rw [e]; exact ncP ho9)⟩, ?_⟩⟩
  rw [pJ_sJ, if_pos ⟨rfl, rfl⟩]
theorem LQ.no {G : Ids} {S : Ps} {Y : Lay} {cs : List (Nat × Bool)} {w : Int64} {σ σ' : Sg} {x o k : Nat} (hk : kd cs = k) (h0 : k ≠ 0) (hZ : RC G S Y σ x) : LQ G S cs w σ σ' x o (some (.int (nI k))) S := ⟨by rw [hk], Fr.rfl, rfl, Or.inr ⟨by rw [hk]; exact h0, Y, hZ⟩⟩
theorem tI_1 (b : Bool) (h : b = true) : (1 : Int64) = (b2i b).toInt64 := by rw [h]; rfl
theorem tI_0 (b : Bool) (h : b = false) : (0 : Int64) = (b2i b).toInt64 := by rw [h]; rfl
section NC
variable {Γ : Cx} {G : Ids} {V : Vx} {cc : ByteArray} {own : String} {rm : Room} {nL : Nat}
theorem nc_BA (hC : Ctx Γ G V cc own rm nL) : va_Nc "java/lang/IndexOutOfBoundsException" "java/lang/IllegalArgumentException" (cS Γ) := hC.2.2.2.2.2.1.2.2.2.2.2.1
theorem nc_BS (hC : Ctx Γ G V cc own rm nL) : va_Nc "java/lang/IndexOutOfBoundsException" "java/lang/IllegalStateException" (cS Γ) := hC.2.2.2.2.2.1.2.2.2.2.2.2.1
theorem nc_AS (hC : Ctx Γ G V cc own rm nL) : va_Nc "java/lang/IllegalArgumentException" "java/lang/IllegalStateException" (cS Γ) := hC.2.2.2.2.2.1.2.2.2.2.2.2.2.1
theorem nc_AB (hC : Ctx Γ G V cc own rm nL) : va_Nc "java/lang/IllegalArgumentException" "java/lang/IndexOutOfBoundsException" (cS Γ) := hC.2.2.2.2.2.1.2.2.2.2.2.2.2.2.1
theorem nc_SA (hC : Ctx Γ G V cc own rm nL) : va_Nc "java/lang/IllegalStateException" "java/lang/IllegalArgumentException" (cS Γ) := hC.2.2.2.2.2.1.2.2.2.2.2.2.2.2.2.1
theorem nc_SB (hC : Ctx Γ G V cc own rm nL) : va_Nc "java/lang/IllegalStateException" "java/lang/IndexOutOfBoundsException" (cS Γ) := hC.2.2.2.2.2.1.2.2.2.2.2.2.2.2.2.2
end NC
abbrev rm_L_addZone : Room := { frames := 8, cells := 6, slots := 834, locals := 195 }
set_option maxHeartbeats 4000000 in
set_option maxRecDepth 100000 in
theorem cl_addZone {l : Launch} {G : Ids} {S : Ps} {Y : Lay} {σ : Sg} {x n o : Nat} {p q r : Int32} (hfl : l.stackTraces = false) (hZ : RC G S Y σ x) (hJ : Inv σ n) (hn5 : n ≤ 511) (ho : isK S 10 o) (hoN : pN S o = 1) : Ct l (Cond.codeWith yL_addZone cL_addZone 6 (some .int) [(0, 12, 15, 13), (0, 12, 19, 15)]) yL_addZone rm_L_addZone G [.ref x, .int p, .int q, .int r, .ref o] S (fun v S9 => LQ G S [(1, inH p q r), (2, decide (nz σ < 8))] ((nI (nz σ)).toInt64) σ (adZ σ (iN p) (iN q) (iN r)) x o v S9) (fun _ _ => False) := by
  refine Ct.ofH hfl (by decide) (Nat.le_of_ble_eq_true rfl) (fun Γ V hC hR hT hI => ?_)
  first | refine r_aload (pc := 0) hC dL_addZone_0 rfl ?_ | refine r_aloadN (pc := 0) hC dL_addZone_0 rfl ?_
  refine r_iconst (pc := 2) (nI 0) hC dL_addZone_2 (by decide) ?_
  first | refine r_aload_n (pc := 3) hC dL_addZone_3 rfl ?_ | refine r_aload_nN (pc := 3) hC dL_addZone_3 rfl ?_
  refine r_iload_n (pc := 4) hC dL_addZone_4 rfl ?_
  refine r_iload_n (pc := 5) hC dL_addZone_5 rfl ?_
  refine r_iload_n (pc := 6) hC dL_addZone_6 rfl ?_
  refine r_callV (pc := 7) hC (cp_addZone hC.fl hZ hJ hn5) kv_L_7 cls5 hZ.kx rfl rfl (Nat.le_of_ble_eq_true rfl) ⟨by decide, by decide, by decide, by decide⟩ dL_addZone_7 (fun E9 S9 h9 => ?_) (fun v9 S9 h9 => ?_)
  · skip
    obtain ⟨rfl, h9⟩ := h9
    rcases h9 with ⟨rfl, e0⟩ | ⟨rfl, e0, e1⟩
    · skip
      refine at_catch (pre := []) (x := ⟨0, 12, 15, 13⟩) (suf := [⟨0, 12, 19, 15⟩]) hC hT (fun z hz => absurd hz List.not_mem_nil) (by decide) (by decide) kc_L_13 kt_IAE (fun q9 => ?_)
      first | refine r_astore (pc := 15) hC dL_addZone_15 (by decide) ?_ | refine r_astoreN (pc := 15) hC dL_addZone_15 (by decide) ?_
      refine r_iconst (pc := 17) (nI 1) hC dL_addZone_17 (by decide) ?_
      refine r_iret (pc := 18) hC hR dL_addZone_18 ?_ (by decide) (by decide)
      exact LQ.no (kd_f e0) (by decide) hZ
    · skip
      refine at_catch (pre := [⟨0, 12, 15, 13⟩]) (x := ⟨0, 12, 19, 15⟩) (suf := []) hC hT (fun z hz => ?_) (by decide) (by decide) kc_L_15 kt_ISE (fun q9 => ?_)
      · simp only [List.mem_cons, List.not_mem_nil, or_false] at hz
        rw [hz]; exact ⟨by decide, _, kc_L_13, nc_SA hC⟩
      · skip
        first | refine r_astore (pc := 19) hC dL_addZone_19 (by decide) ?_ | refine r_astoreN (pc := 19) hC dL_addZone_19 (by decide) ?_
        refine r_iconst (pc := 21) (nI 2) hC dL_addZone_21 (by decide) ?_
        refine r_iret (pc := 22) hC hR dL_addZone_22 ?_ (by decide) (by decide)
        exact LQ.no ((kd_t e0).trans (kd_f e1)) (by decide) hZ
  · skip
    obtain ⟨e0, e1, rfl, hCO⟩ := h9
    have ho9 := hCO.1.K ho
    have hN9 : pN S9 o = 1 := (hCO.1.N ho (ncP ho)).trans hoN
    refine r_i2l (pc := 10) hC dL_addZone_10 ?_
    refine r_jast (pc := 11) hC dL_addZone_11 ho9 (by rw [hN9]; decide) (by rw [hN9]; decide) ?_
    refine r_goto (pc := 12) (tgt := 23) hC dL_addZone_12 (by decide) ?_
    refine r_iconst (pc := 23) (nI 0) hC dL_addZone_23 (by decide) ?_
    refine r_iret (pc := 24) hC hR dL_addZone_24 ?_ (by decide) (by decide)
    exact LQ.ok ((kd_t e0).trans ((kd_t e1).trans (rfl))) hCO ho
abbrev rm_L_setZone : Room := { frames := 8, cells := 4, slots := 24, locals := 133 }
set_option maxHeartbeats 4000000 in
set_option maxRecDepth 100000 in
theorem cl_setZone {l : Launch} {G : Ids} {S : Ps} {Y : Lay} {σ : Sg} {x n o : Nat} {p q r s : Int32} (hfl : l.stackTraces = false) (hZ : RC G S Y σ x) (hJ : Inv σ n) (hn5 : n ≤ 511) (ho : isK S 10 o) (hoN : pN S o = 1) : Ct l (Cond.codeWith yL_setZone cL_setZone 7 (some .int) [(0, 14, 17, 21), (0, 14, 21, 13)]) yL_setZone rm_L_setZone G [.ref x, .int p, .int q, .int r, .int s, .ref o] S (fun v S9 => LQ G S [(1, inZ1 σ p), (2, inH q r s)] ((nI (popc (insB σ (iN p)))).toInt64) σ (stZ σ (iN p) (iN q) (iN r) (iN s)) x o v S9) (fun _ _ => False) := by
  refine Ct.ofH hfl (by decide) (Nat.le_of_ble_eq_true rfl) (fun Γ V hC hR hT hI => ?_)
  first | refine r_aload (pc := 0) hC dL_setZone_0 rfl ?_ | refine r_aloadN (pc := 0) hC dL_setZone_0 rfl ?_
  refine r_iconst (pc := 2) (nI 0) hC dL_setZone_2 (by decide) ?_
  first | refine r_aload_n (pc := 3) hC dL_setZone_3 rfl ?_ | refine r_aload_nN (pc := 3) hC dL_setZone_3 rfl ?_
  refine r_iload_n (pc := 4) hC dL_setZone_4 rfl ?_
  refine r_iload_n (pc := 5) hC dL_setZone_5 rfl ?_
  refine r_iload_n (pc := 6) hC dL_setZone_6 rfl ?_
  refine r_iload (pc := 7) hC dL_setZone_7 rfl ?_
  refine r_callV (pc := 9) hC (cp_setZone hC.fl hZ hJ hn5) kv_L_17 cls5 hZ.kx rfl rfl (Nat.le_of_ble_eq_true rfl) ⟨by decide, by decide, by decide, by decide⟩ dL_setZone_9 (fun E9 S9 h9 => ?_) (fun v9 S9 h9 => ?_)
  · skip
    obtain ⟨rfl, h9⟩ := h9
    rcases h9 with ⟨rfl, e0⟩ | ⟨rfl, e0, e1⟩
    · skip
      refine at_catch (pre := []) (x := ⟨0, 14, 17, 21⟩) (suf := [⟨0, 14, 21, 13⟩]) hC hT (fun z hz => absurd hz List.not_mem_nil) (by decide) (by decide) kc_L_21 kt_IOB (fun q9 => ?_)
      first | refine r_astore (pc := 17) hC dL_setZone_17 (by decide) ?_ | refine r_astoreN (pc := 17) hC dL_setZone_17 (by decide) ?_
      refine r_iconst (pc := 19) (nI 1) hC dL_setZone_19 (by decide) ?_
      refine r_iret (pc := 20) hC hR dL_setZone_20 ?_ (by decide) (by decide)
      exact LQ.no (kd_f e0) (by decide) hZ
    · skip
      refine at_catch (pre := [⟨0, 14, 17, 21⟩]) (x := ⟨0, 14, 21, 13⟩) (suf := []) hC hT (fun z hz => ?_) (by decide) (by decide) kc_L_13 kt_IAE (fun q9 => ?_)
      · simp only [List.mem_cons, List.not_mem_nil, or_false] at hz
        rw [hz]; exact ⟨by decide, _, kc_L_21, nc_AB hC⟩
      · skip
        first | refine r_astore (pc := 21) hC dL_setZone_21 (by decide) ?_ | refine r_astoreN (pc := 21) hC dL_setZone_21 (by decide) ?_
        refine r_iconst (pc := 23) (nI 2) hC dL_setZone_23 (by decide) ?_
        refine r_iret (pc := 24) hC hR dL_setZone_24 ?_ (by decide) (by decide)
        exact LQ.no ((kd_t e0).trans (kd_f e1)) (by decide) hZ
  · skip
    obtain ⟨e0, e1, rfl, hCO⟩ := h9
    have ho9 := hCO.1.K ho
    have hN9 : pN S9 o = 1 := (hCO.1.N ho (ncP ho)).trans hoN
    refine r_i2l (pc := 12) hC dL_setZone_12 ?_
    refine r_jast (pc := 13) hC dL_setZone_13 ho9 (by rw [hN9]; decide) (by rw [hN9]; decide) ?_
    refine r_goto (pc := 14) (tgt := 25) hC dL_setZone_14 (by decide) ?_
    refine r_iconst (pc := 25) (nI 0) hC dL_setZone_25 (by decide) ?_
    refine r_iret (pc := 26) hC hR dL_setZone_26 ?_ (by decide) (by decide)
    exact LQ.ok ((kd_t e0).trans ((kd_t e1).trans (rfl))) hCO ho
abbrev rm_L_addDoor : Room := { frames := 8, cells := 7, slots := 839, locals := 198 }
set_option maxHeartbeats 4000000 in
set_option maxRecDepth 100000 in
theorem cl_addDoor {l : Launch} {G : Ids} {S : Ps} {Y : Lay} {σ : Sg} {x n o : Nat} {p q r s : Int32} (hfl : l.stackTraces = false) (hZ : RC G S Y σ x) (hJ : Inv σ n) (hn5 : n ≤ 511) (ho : isK S 10 o) (hoN : pN S o = 1) : Ct l (Cond.codeWith yL_addDoor cL_addDoor 7 (some .int) [(0, 14, 17, 21), (0, 14, 21, 13), (0, 14, 25, 15)]) yL_addDoor rm_L_addDoor G [.ref x, .int p, .int q, .int r, .int s, .ref o] S (fun v S9 => LQ G S [(1, inZ σ p), (1, inZ σ q), (2, inE p q r s), (3, decide (nd σ < 12))] ((nI (nd σ)).toInt64) σ (adD σ (iN p) (iN q) (iN r) (iN s)) x o v S9) (fun _ _ => False) := by
  refine Ct.ofH hfl (by decide) (Nat.le_of_ble_eq_true rfl) (fun Γ V hC hR hT hI => ?_)
  first | refine r_aload (pc := 0) hC dL_addDoor_0 rfl ?_ | refine r_aloadN (pc := 0) hC dL_addDoor_0 rfl ?_
  refine r_iconst (pc := 2) (nI 0) hC dL_addDoor_2 (by decide) ?_
  first | refine r_aload_n (pc := 3) hC dL_addDoor_3 rfl ?_ | refine r_aload_nN (pc := 3) hC dL_addDoor_3 rfl ?_
  refine r_iload_n (pc := 4) hC dL_addDoor_4 rfl ?_
  refine r_iload_n (pc := 5) hC dL_addDoor_5 rfl ?_
  refine r_iload_n (pc := 6) hC dL_addDoor_6 rfl ?_
  refine r_iload (pc := 7) hC dL_addDoor_7 rfl ?_
  refine r_callV (pc := 9) hC (cp_addDoor hC.fl hZ hJ hn5) kv_L_23 cls5 hZ.kx rfl rfl (Nat.le_of_ble_eq_true rfl) ⟨by decide, by decide, by decide, by decide⟩ dL_addDoor_9 (fun E9 S9 h9 => ?_) (fun v9 S9 h9 => ?_)
  · skip
    obtain ⟨rfl, h9⟩ := h9
    rcases h9 with ⟨rfl, e0⟩ | ⟨rfl, e0, e1⟩ | ⟨rfl, e0, e1, e2⟩ | ⟨rfl, e0, e1, e2, e3⟩
    · skip
      refine at_catch (pre := []) (x := ⟨0, 14, 17, 21⟩) (suf := [⟨0, 14, 21, 13⟩, ⟨0, 14, 25, 15⟩]) hC hT (fun z hz => absurd hz List.not_mem_nil) (by decide) (by decide) kc_L_21 kt_IOB (fun q9 => ?_)
      first | refine r_astore (pc := 17) hC dL_addDoor_17 (by decide) ?_ | refine r_astoreN (pc := 17) hC dL_addDoor_17 (by decide) ?_
      refine r_iconst (pc := 19) (nI 1) hC dL_addDoor_19 (by decide) ?_
      refine r_iret (pc := 20) hC hR dL_addDoor_20 ?_ (by decide) (by decide)
      exact LQ.no (kd_f e0) (by decide) hZ
    · skip
      refine at_catch (pre := []) (x := ⟨0, 14, 17, 21⟩) (suf := [⟨0, 14, 21, 13⟩, ⟨0, 14, 25, 15⟩]) hC hT (fun z hz => absurd hz List.not_mem_nil) (by decide) (by decide) kc_L_21 kt_IOB (fun q9 => ?_)
      first | refine r_astore (pc := 17) hC dL_addDoor_17 (by decide) ?_ | refine r_astoreN (pc := 17) hC dL_addDoor_17 (by decide) ?_
      refine r_iconst (pc := 19) (nI 1) hC dL_addDoor_19 (by decide) ?_
      refine r_iret (pc := 20) hC hR dL_addDoor_20 ?_ (by decide) (by decide)
      exact LQ.no ((kd_t e0).trans (kd_f e1)) (by decide) hZ
    · skip
      refine at_catch (pre := [⟨0, 14, 17, 21⟩]) (x := ⟨0, 14, 21, 13⟩) (suf := [⟨0, 14, 25, 15⟩]) hC hT (fun z hz => ?_) (by decide) (by decide) kc_L_13 kt_IAE (fun q9 => ?_)
      · simp only [List.mem_cons, List.not_mem_nil, or_false] at hz
        rw [hz]; exact ⟨by decide, _, kc_L_21, nc_AB hC⟩
      · skip
        first | refine r_astore (pc := 21) hC dL_addDoor_21 (by decide) ?_ | refine r_astoreN (pc := 21) hC dL_addDoor_21 (by decide) ?_
        refine r_iconst (pc := 23) (nI 2) hC dL_addDoor_23 (by decide) ?_
        refine r_iret (pc := 24) hC hR dL_addDoor_24 ?_ (by decide) (by decide)
        exact LQ.no ((kd_t e0).trans ((kd_t e1).trans (kd_f e2))) (by decide) hZ
    · skip
      refine at_catch (pre := [⟨0, 14, 17, 21⟩, ⟨0, 14, 21, 13⟩]) (x := ⟨0, 14, 25, 15⟩) (suf := []) hC hT (fun z hz => ?_) (by decide) (by decide) kc_L_15 kt_ISE (fun q9 => ?_)
      · simp only [List.mem_cons, List.not_mem_nil, or_false] at hz
        rcases hz with hz | hz
        · rw [hz]; exact ⟨by decide, _, kc_L_21, nc_SB hC⟩
        · rw [hz]; exact ⟨by decide, _, kc_L_13, nc_SA hC⟩
      · skip
        first | refine r_astore (pc := 25) hC dL_addDoor_25 (by decide) ?_ | refine r_astoreN (pc := 25) hC dL_addDoor_25 (by decide) ?_
        refine r_iconst (pc := 27) (nI 3) hC dL_addDoor_27 (by decide) ?_
        refine r_iret (pc := 28) hC hR dL_addDoor_28 ?_ (by decide) (by decide)
        exact LQ.no ((kd_t e0).trans ((kd_t e1).trans ((kd_t e2).trans (kd_f e3)))) (by decide) hZ
  · skip
    obtain ⟨e0, e1, e2, e3, rfl, hCO⟩ := h9
    have ho9 := hCO.1.K ho
    have hN9 : pN S9 o = 1 := (hCO.1.N ho (ncP ho)).trans hoN
    refine r_i2l (pc := 12) hC dL_addDoor_12 ?_
    refine r_jast (pc := 13) hC dL_addDoor_13 ho9 (by rw [hN9]; decide) (by rw [hN9]; decide) ?_
    refine r_goto (pc := 14) (tgt := 29) hC dL_addDoor_14 (by decide) ?_
    refine r_iconst (pc := 29) (nI 0) hC dL_addDoor_29 (by decide) ?_
    refine r_iret (pc := 30) hC hR dL_addDoor_30 ?_ (by decide) (by decide)
    exact LQ.ok ((kd_t e0).trans ((kd_t e1).trans ((kd_t e2).trans ((kd_t e3).trans (rfl))))) hCO ho
abbrev rm_L_distance : Room := { frames := 8, cells := 1, slots := 6, locals := 130 }
set_option maxHeartbeats 4000000 in
set_option maxRecDepth 100000 in
theorem cl_distance {l : Launch} {G : Ids} {S : Ps} {Y : Lay} {σ : Sg} {x n o : Nat} {p : Int32} (hfl : l.stackTraces = false) (hZ : RC G S Y σ x) (hJ : Inv σ n) (hn5 : n ≤ 511) (ho : isK S 10 o) (hoN : pN S o = 1) : Ct l (Cond.codeWith yL_distance cL_distance 4 (some .int) [(0, 9, 12, 21)]) yL_distance rm_L_distance G [.ref x, .int p, .ref o] S (fun v S9 => LQ G S [(1, inZ σ p)] ((dI (dst σ okA (iN p) 0)).toInt64) σ (σ) x o v S9) (fun _ _ => False) := by
  refine Ct.ofH hfl (by decide) (Nat.le_of_ble_eq_true rfl) (fun Γ V hC hR hT hI => ?_)
  first | refine r_aload_n (pc := 0) hC dL_distance_0 rfl ?_ | refine r_aload_nN (pc := 0) hC dL_distance_0 rfl ?_
  refine r_iconst (pc := 1) (nI 0) hC dL_distance_1 (by decide) ?_
  first | refine r_aload_n (pc := 2) hC dL_distance_2 rfl ?_ | refine r_aload_nN (pc := 2) hC dL_distance_2 rfl ?_
  refine r_iload_n (pc := 3) hC dL_distance_3 rfl ?_
  refine r_callV (pc := 4) hC (cp_distance hC.fl hZ hJ hn5) kv_L_26 cls5 hZ.kx rfl rfl (Nat.le_of_ble_eq_true rfl) ⟨by decide, by decide, by decide, by decide⟩ dL_distance_4 (fun E9 S9 h9 => ?_) (fun v9 S9 h9 => ?_)
  · skip
    obtain ⟨rfl, h9⟩ := h9
    obtain ⟨rfl, e0⟩ := h9
    refine at_catch (pre := []) (x := ⟨0, 9, 12, 21⟩) (suf := []) hC hT (fun z hz => absurd hz List.not_mem_nil) (by decide) (by decide) kc_L_21 kt_IOB (fun q9 => ?_)
    first | refine r_astore_n (pc := 12) hC dL_distance_12 (by decide) ?_ | refine r_astore_nN (pc := 12) hC dL_distance_12 (by decide) ?_
    refine r_iconst (pc := 13) (nI 1) hC dL_distance_13 (by decide) ?_
    refine r_iret (pc := 14) hC hR dL_distance_14 ?_ (by decide) (by decide)
    exact LQ.no (kd_f e0) (by decide) hZ
  · skip
    obtain ⟨e0, rfl, hCO⟩ := h9
    have ho9 := hCO.1.K ho
    have hN9 : pN S9 o = 1 := (hCO.1.N ho (ncP ho)).trans hoN
    refine r_i2l (pc := 7) hC dL_distance_7 ?_
    refine r_jast (pc := 8) hC dL_distance_8 ho9 (by rw [hN9]; decide) (by rw [hN9]; decide) ?_
    refine r_goto (pc := 9) (tgt := 15) hC dL_distance_9 (by decide) ?_
    refine r_iconst (pc := 15) (nI 0) hC dL_distance_15 (by decide) ?_
    refine r_iret (pc := 16) hC hR dL_distance_16 ?_ (by decide) (by decide)
    exact LQ.ok ((kd_t e0).trans (rfl)) hCO ho
abbrev rm_L_isOpen : Room := { frames := 8, cells := 1, slots := 6, locals := 128 }
set_option maxHeartbeats 4000000 in
set_option maxRecDepth 100000 in
theorem cl_isOpen {l : Launch} {G : Ids} {S : Ps} {Y : Lay} {σ : Sg} {x n o : Nat} {p : Int32} (hfl : l.stackTraces = false) (hZ : RC G S Y σ x) (hJ : Inv σ n) (hn5 : n ≤ 511) (ho : isK S 10 o) (hoN : pN S o = 1) : Ct l (Cond.codeWith yL_isOpen cL_isOpen 4 (some .int) [(0, 16, 19, 21)]) yL_isOpen rm_L_isOpen G [.ref x, .int p, .ref o] S (fun v S9 => LQ G S [(1, inZ σ p)] ((b2i (opn σ (iN p))).toInt64) σ (σ) x o v S9) (fun _ _ => False) := by
  refine Ct.ofH hfl (by decide) (Nat.le_of_ble_eq_true rfl) (fun Γ V hC hR hT hI => ?_)
  first | refine r_aload_n (pc := 0) hC dL_isOpen_0 rfl ?_ | refine r_aload_nN (pc := 0) hC dL_isOpen_0 rfl ?_
  refine r_iconst (pc := 1) (nI 0) hC dL_isOpen_1 (by decide) ?_
  first | refine r_aload_n (pc := 2) hC dL_isOpen_2 rfl ?_ | refine r_aload_nN (pc := 2) hC dL_isOpen_2 rfl ?_
  refine r_iload_n (pc := 3) hC dL_isOpen_3 rfl ?_
  refine r_callV (pc := 4) hC (cp_isOpen hC.fl hZ hJ hn5) kv_L_30 cls5 hZ.kx rfl rfl (Nat.le_of_ble_eq_true rfl) ⟨by decide, by decide, by decide, by decide⟩ dL_isOpen_4 (fun E9 S9 h9 => ?_) (fun v9 S9 h9 => ?_)
  · skip
    obtain ⟨rfl, h9⟩ := h9
    obtain ⟨rfl, e0⟩ := h9
    refine at_catch (pre := []) (x := ⟨0, 16, 19, 21⟩) (suf := []) hC hT (fun z hz => absurd hz List.not_mem_nil) (by decide) (by decide) kc_L_21 kt_IOB (fun q9 => ?_)
    first | refine r_astore_n (pc := 19) hC dL_isOpen_19 (by decide) ?_ | refine r_astore_nN (pc := 19) hC dL_isOpen_19 (by decide) ?_
    refine r_iconst (pc := 20) (nI 1) hC dL_isOpen_20 (by decide) ?_
    refine r_iret (pc := 21) hC hR dL_isOpen_21 ?_ (by decide) (by decide)
    exact LQ.no (kd_f e0) (by decide) hZ
  · skip
    obtain ⟨e0, rfl, hCO⟩ := h9
    have ho9 := hCO.1.K ho
    have hN9 : pN S9 o = 1 := (hCO.1.N ho (ncP ho)).trans hoN
    first | refine rb_if_eq (pc := 7) (tgt := 14) hC dL_isOpen_7 (by decide) (fun c7 => ?_) (fun c7 => ?_) | refine rn_if_eq (pc := 7) (tgt := 14) hC dL_isOpen_7 (by decide) (by omega) (fun c7 => ?_) (fun c7 => ?_) | refine ri_if_eq (pc := 7) (tgt := 14) hC dL_isOpen_7 (by decide) (fun c7 => ?_) (fun c7 => ?_)
    · -- taken
      refine r_lconst (pc := 14) (0) hC dL_isOpen_14 (by decide) ?_
      first | rw [tI_1 _ c7] | rw [tI_0 _ c7]
      refine r_jast (pc := 15) hC dL_isOpen_15 ho9 (by rw [hN9]; decide) (by rw [hN9]; decide) ?_
      refine r_goto (pc := 16) (tgt := 22) hC dL_isOpen_16 (by decide) ?_
      refine r_iconst (pc := 22) (nI 0) hC dL_isOpen_22 (by decide) ?_
      refine r_iret (pc := 23) hC hR dL_isOpen_23 ?_ (by decide) (by decide)
      exact LQ.ok ((kd_t e0).trans (rfl)) hCO ho
    · -- not
      refine r_lconst (pc := 10) (1) hC dL_isOpen_10 (by decide) ?_
      refine r_goto (pc := 11) (tgt := 15) hC dL_isOpen_11 (by decide) ?_
      first | rw [tI_1 _ c7] | rw [tI_0 _ c7]
      refine r_jast (pc := 15) hC dL_isOpen_15 ho9 (by rw [hN9]; decide) (by rw [hN9]; decide) ?_
      refine r_goto (pc := 16) (tgt := 22) hC dL_isOpen_16 (by decide) ?_
      refine r_iconst (pc := 22) (nI 0) hC dL_isOpen_22 (by decide) ?_
      refine r_iret (pc := 23) hC hR dL_isOpen_23 ?_ (by decide) (by decide)
      exact LQ.ok ((kd_t e0).trans (rfl)) hCO ho
abbrev rm_L_openFor : Room := { frames := 8, cells := 1, slots := 6, locals := 128 }
set_option maxHeartbeats 4000000 in
set_option maxRecDepth 100000 in
theorem cl_openFor {l : Launch} {G : Ids} {S : Ps} {Y : Lay} {σ : Sg} {x n o : Nat} {p : Int32} (hfl : l.stackTraces = false) (hZ : RC G S Y σ x) (hJ : Inv σ n) (hn5 : n ≤ 511) (ho : isK S 10 o) (hoN : pN S o = 1) : Ct l (Cond.codeWith yL_openFor cL_openFor 4 (some .int) [(0, 9, 12, 21)]) yL_openFor rm_L_openFor G [.ref x, .int p, .ref o] S (fun v S9 => LQ G S [(1, inD σ p)] ((nI (lft σ (iN p))).toInt64) σ (σ) x o v S9) (fun _ _ => False) := by
  refine Ct.ofH hfl (by decide) (Nat.le_of_ble_eq_true rfl) (fun Γ V hC hR hT hI => ?_)
  first | refine r_aload_n (pc := 0) hC dL_openFor_0 rfl ?_ | refine r_aload_nN (pc := 0) hC dL_openFor_0 rfl ?_
  refine r_iconst (pc := 1) (nI 0) hC dL_openFor_1 (by decide) ?_
  first | refine r_aload_n (pc := 2) hC dL_openFor_2 rfl ?_ | refine r_aload_nN (pc := 2) hC dL_openFor_2 rfl ?_
  refine r_iload_n (pc := 3) hC dL_openFor_3 rfl ?_
  refine r_callV (pc := 4) hC (cp_openFor hC.fl hZ hJ hn5) kv_L_34 cls5 hZ.kx rfl rfl (Nat.le_of_ble_eq_true rfl) ⟨by decide, by decide, by decide, by decide⟩ dL_openFor_4 (fun E9 S9 h9 => ?_) (fun v9 S9 h9 => ?_)
  · skip
    obtain ⟨rfl, h9⟩ := h9
    obtain ⟨rfl, e0⟩ := h9
    refine at_catch (pre := []) (x := ⟨0, 9, 12, 21⟩) (suf := []) hC hT (fun z hz => absurd hz List.not_mem_nil) (by decide) (by decide) kc_L_21 kt_IOB (fun q9 => ?_)
    first | refine r_astore_n (pc := 12) hC dL_openFor_12 (by decide) ?_ | refine r_astore_nN (pc := 12) hC dL_openFor_12 (by decide) ?_
    refine r_iconst (pc := 13) (nI 1) hC dL_openFor_13 (by decide) ?_
    refine r_iret (pc := 14) hC hR dL_openFor_14 ?_ (by decide) (by decide)
    exact LQ.no (kd_f e0) (by decide) hZ
  · skip
    obtain ⟨e0, rfl, hCO⟩ := h9
    have ho9 := hCO.1.K ho
    have hN9 : pN S9 o = 1 := (hCO.1.N ho (ncP ho)).trans hoN
    refine r_i2l (pc := 7) hC dL_openFor_7 ?_
    refine r_jast (pc := 8) hC dL_openFor_8 ho9 (by rw [hN9]; decide) (by rw [hN9]; decide) ?_
    refine r_goto (pc := 9) (tgt := 15) hC dL_openFor_9 (by decide) ?_
    refine r_iconst (pc := 15) (nI 0) hC dL_openFor_15 (by decide) ?_
    refine r_iret (pc := 16) hC hR dL_openFor_16 ?_ (by decide) (by decide)
    exact LQ.ok ((kd_t e0).trans (rfl)) hCO ho
abbrev rm_L_addBadge : Room := { frames := 10, cells := 9, slots := 1644, locals := 239 }
set_option maxHeartbeats 4000000 in
set_option maxRecDepth 100000 in
theorem cl_addBadge {l : Launch} {G : Ids} {S : Ps} {Y : Lay} {σ : Sg} {x n o : Nat} {p : Int32} (hfl : l.stackTraces = false) (hZ : RC G S Y σ x) (hJ : Inv σ n) (hn5 : n ≤ 511) (ho : isK S 10 o) (hoN : pN S o = 1) : Ct l (Cond.codeWith yL_addBadge cL_addBadge 4 (some .int) [(0, 9, 12, 13), (0, 9, 15, 15)]) yL_addBadge rm_L_addBadge G [.ref x, .int p, .ref o] S (fun v S9 => LQ G S [(1, wi 0 255 p), (2, decide (nb σ < 10))] ((nI (nb σ)).toInt64) σ (adB σ 0 (iN p)) x o v S9) (fun _ _ => False) := by
  refine Ct.ofH hfl (by decide) (Nat.le_of_ble_eq_true rfl) (fun Γ V hC hR hT hI => ?_)
  first | refine r_aload_n (pc := 0) hC dL_addBadge_0 rfl ?_ | refine r_aload_nN (pc := 0) hC dL_addBadge_0 rfl ?_
  refine r_iconst (pc := 1) (nI 0) hC dL_addBadge_1 (by decide) ?_
  first | refine r_aload_n (pc := 2) hC dL_addBadge_2 rfl ?_ | refine r_aload_nN (pc := 2) hC dL_addBadge_2 rfl ?_
  refine r_iload_n (pc := 3) hC dL_addBadge_3 rfl ?_
  refine r_callV (pc := 4) hC (cp_addBadge hC.fl hZ hJ hn5) kv_L_37 cls5 hZ.kx rfl rfl (Nat.le_of_ble_eq_true rfl) ⟨by decide, by decide, by decide, by decide⟩ dL_addBadge_4 (fun E9 S9 h9 => ?_) (fun v9 S9 h9 => ?_)
  · skip
    obtain ⟨rfl, h9⟩ := h9
    rcases h9 with ⟨rfl, e0⟩ | ⟨rfl, e0, e1⟩
    · skip
      refine at_catch (pre := []) (x := ⟨0, 9, 12, 13⟩) (suf := [⟨0, 9, 15, 15⟩]) hC hT (fun z hz => absurd hz List.not_mem_nil) (by decide) (by decide) kc_L_13 kt_IAE (fun q9 => ?_)
      first | refine r_astore_n (pc := 12) hC dL_addBadge_12 (by decide) ?_ | refine r_astore_nN (pc := 12) hC dL_addBadge_12 (by decide) ?_
      refine r_iconst (pc := 13) (nI 1) hC dL_addBadge_13 (by decide) ?_
      refine r_iret (pc := 14) hC hR dL_addBadge_14 ?_ (by decide) (by decide)
      exact LQ.no (kd_f e0) (by decide) hZ
    · skip
      refine at_catch (pre := [⟨0, 9, 12, 13⟩]) (x := ⟨0, 9, 15, 15⟩) (suf := []) hC hT (fun z hz => ?_) (by decide) (by decide) kc_L_15 kt_ISE (fun q9 => ?_)
      · simp only [List.mem_cons, List.not_mem_nil, or_false] at hz
        rw [hz]; exact ⟨by decide, _, kc_L_13, nc_SA hC⟩
      · skip
        first | refine r_astore_n (pc := 15) hC dL_addBadge_15 (by decide) ?_ | refine r_astore_nN (pc := 15) hC dL_addBadge_15 (by decide) ?_
        refine r_iconst (pc := 16) (nI 2) hC dL_addBadge_16 (by decide) ?_
        refine r_iret (pc := 17) hC hR dL_addBadge_17 ?_ (by decide) (by decide)
        exact LQ.no ((kd_t e0).trans (kd_f e1)) (by decide) hZ
  · skip
    obtain ⟨e0, e1, rfl, hCO⟩ := h9
    have ho9 := hCO.1.K ho
    have hN9 : pN S9 o = 1 := (hCO.1.N ho (ncP ho)).trans hoN
    refine r_i2l (pc := 7) hC dL_addBadge_7 ?_
    refine r_jast (pc := 8) hC dL_addBadge_8 ho9 (by rw [hN9]; decide) (by rw [hN9]; decide) ?_
    refine r_goto (pc := 9) (tgt := 18) hC dL_addBadge_9 (by decide) ?_
    refine r_iconst (pc := 18) (nI 0) hC dL_addBadge_18 (by decide) ?_
    refine r_iret (pc := 19) hC hR dL_addBadge_19 ?_ (by decide) (by decide)
    exact LQ.ok ((kd_t e0).trans ((kd_t e1).trans (rfl))) hCO ho
abbrev rm_L_addVisitor : Room := { frames := 10, cells := 10, slots := 1650, locals := 240 }
set_option maxHeartbeats 4000000 in
set_option maxRecDepth 100000 in
theorem cl_addVisitor {l : Launch} {G : Ids} {S : Ps} {Y : Lay} {σ : Sg} {x n o : Nat} {p : Int32} (hfl : l.stackTraces = false) (hZ : RC G S Y σ x) (hJ : Inv σ n) (hn5 : n ≤ 511) (ho : isK S 10 o) (hoN : pN S o = 1) : Ct l (Cond.codeWith yL_addVisitor cL_addVisitor 4 (some .int) [(0, 9, 12, 21), (0, 9, 15, 13), (0, 9, 18, 15)]) yL_addVisitor rm_L_addVisitor G [.ref x, .int p, .ref o] S (fun v S9 => LQ G S [(1, inB σ p), (2, decide (hst σ (iN p) = 0)), (3, decide (nb σ < 10))] ((nI (nb σ)).toInt64) σ (adB σ (iN p + 1) 0) x o v S9) (fun _ _ => False) := by
  refine Ct.ofH hfl (by decide) (Nat.le_of_ble_eq_true rfl) (fun Γ V hC hR hT hI => ?_)
  first | refine r_aload_n (pc := 0) hC dL_addVisitor_0 rfl ?_ | refine r_aload_nN (pc := 0) hC dL_addVisitor_0 rfl ?_
  refine r_iconst (pc := 1) (nI 0) hC dL_addVisitor_1 (by decide) ?_
  first | refine r_aload_n (pc := 2) hC dL_addVisitor_2 rfl ?_ | refine r_aload_nN (pc := 2) hC dL_addVisitor_2 rfl ?_
  refine r_iload_n (pc := 3) hC dL_addVisitor_3 rfl ?_
  refine r_callV (pc := 4) hC (cp_addVisitor hC.fl hZ hJ hn5) kv_L_40 cls5 hZ.kx rfl rfl (Nat.le_of_ble_eq_true rfl) ⟨by decide, by decide, by decide, by decide⟩ dL_addVisitor_4 (fun E9 S9 h9 => ?_) (fun v9 S9 h9 => ?_)
  · skip
    obtain ⟨rfl, h9⟩ := h9
    rcases h9 with ⟨rfl, e0⟩ | ⟨rfl, e0, e1⟩ | ⟨rfl, e0, e1, e2⟩
    · skip
      refine at_catch (pre := []) (x := ⟨0, 9, 12, 21⟩) (suf := [⟨0, 9, 15, 13⟩, ⟨0, 9, 18, 15⟩]) hC hT (fun z hz => absurd hz List.not_mem_nil) (by decide) (by decide) kc_L_21 kt_IOB (fun q9 => ?_)
      first | refine r_astore_n (pc := 12) hC dL_addVisitor_12 (by decide) ?_ | refine r_astore_nN (pc := 12) hC dL_addVisitor_12 (by decide) ?_
      refine r_iconst (pc := 13) (nI 1) hC dL_addVisitor_13 (by decide) ?_
      refine r_iret (pc := 14) hC hR dL_addVisitor_14 ?_ (by decide) (by decide)
      exact LQ.no (kd_f e0) (by decide) hZ
    · skip
      refine at_catch (pre := [⟨0, 9, 12, 21⟩]) (x := ⟨0, 9, 15, 13⟩) (suf := [⟨0, 9, 18, 15⟩]) hC hT (fun z hz => ?_) (by decide) (by decide) kc_L_13 kt_IAE (fun q9 => ?_)
      · simp only [List.mem_cons, List.not_mem_nil, or_false] at hz
        rw [hz]; exact ⟨by decide, _, kc_L_21, nc_AB hC⟩
      · skip
        first | refine r_astore_n (pc := 15) hC dL_addVisitor_15 (by decide) ?_ | refine r_astore_nN (pc := 15) hC dL_addVisitor_15 (by decide) ?_
        refine r_iconst (pc := 16) (nI 2) hC dL_addVisitor_16 (by decide) ?_
        refine r_iret (pc := 17) hC hR dL_addVisitor_17 ?_ (by decide) (by decide)
        exact LQ.no ((kd_t e0).trans (kd_f e1)) (by decide) hZ
    · skip
      refine at_catch (pre := [⟨0, 9, 12, 21⟩, ⟨0, 9, 15, 13⟩]) (x := ⟨0, 9, 18, 15⟩) (suf := []) hC hT (fun z hz => ?_) (by decide) (by decide) kc_L_15 kt_ISE (fun q9 => ?_)
      · simp only [List.mem_cons, List.not_mem_nil, or_false] at hz
        rcases hz with hz | hz
        · rw [hz]; exact ⟨by decide, _, kc_L_21, nc_SB hC⟩
        · rw [hz]; exact ⟨by decide, _, kc_L_13, nc_SA hC⟩
      · skip
        first | refine r_astore_n (pc := 18) hC dL_addVisitor_18 (by decide) ?_ | refine r_astore_nN (pc := 18) hC dL_addVisitor_18 (by decide) ?_
        refine r_iconst (pc := 19) (nI 3) hC dL_addVisitor_19 (by decide) ?_
        refine r_iret (pc := 20) hC hR dL_addVisitor_20 ?_ (by decide) (by decide)
        exact LQ.no ((kd_t e0).trans ((kd_t e1).trans (kd_f e2))) (by decide) hZ
  · skip
    obtain ⟨e0, e1, e2, rfl, hCO⟩ := h9
    have ho9 := hCO.1.K ho
    have hN9 : pN S9 o = 1 := (hCO.1.N ho (ncP ho)).trans hoN
    refine r_i2l (pc := 7) hC dL_addVisitor_7 ?_
    refine r_jast (pc := 8) hC dL_addVisitor_8 ho9 (by rw [hN9]; decide) (by rw [hN9]; decide) ?_
    refine r_goto (pc := 9) (tgt := 21) hC dL_addVisitor_9 (by decide) ?_
    refine r_iconst (pc := 21) (nI 0) hC dL_addVisitor_21 (by decide) ?_
    refine r_iret (pc := 22) hC hR dL_addVisitor_22 ?_ (by decide) (by decide)
    exact LQ.ok ((kd_t e0).trans ((kd_t e1).trans ((kd_t e2).trans (rfl)))) hCO ho
abbrev rm_L_setRights : Room := { frames := 8, cells := 3, slots := 18, locals := 131 }
set_option maxHeartbeats 4000000 in
set_option maxRecDepth 100000 in
theorem cl_setRights {l : Launch} {G : Ids} {S : Ps} {Y : Lay} {σ : Sg} {x n o : Nat} {p q : Int32} (hfl : l.stackTraces = false) (hZ : RC G S Y σ x) (hJ : Inv σ n) (hn5 : n ≤ 511) (ho : isK S 10 o) (hoN : pN S o = 1) : Ct l (Cond.codeWith yL_setRights cL_setRights 5 (some .int) [(0, 10, 13, 21), (0, 10, 17, 13), (0, 10, 21, 15)]) yL_setRights rm_L_setRights G [.ref x, .int p, .int q, .ref o] S (fun v S9 => LQ G S [(1, inB σ p), (2, wi 0 255 q), (3, decide (hst σ (iN p) = 0))] ((nI (rgt σ (iN p))).toInt64) σ (up σ 11 (iN p) (iN q)) x o v S9) (fun _ _ => False) := by
  refine Ct.ofH hfl (by decide) (Nat.le_of_ble_eq_true rfl) (fun Γ V hC hR hT hI => ?_)
  first | refine r_aload_n (pc := 0) hC dL_setRights_0 rfl ?_ | refine r_aload_nN (pc := 0) hC dL_setRights_0 rfl ?_
  refine r_iconst (pc := 1) (nI 0) hC dL_setRights_1 (by decide) ?_
  first | refine r_aload_n (pc := 2) hC dL_setRights_2 rfl ?_ | refine r_aload_nN (pc := 2) hC dL_setRights_2 rfl ?_
  refine r_iload_n (pc := 3) hC dL_setRights_3 rfl ?_
  refine r_iload_n (pc := 4) hC dL_setRights_4 rfl ?_
  refine r_callV (pc := 5) hC (cp_setRights hC.fl hZ hJ hn5) kv_L_43 cls5 hZ.kx rfl rfl (Nat.le_of_ble_eq_true rfl) ⟨by decide, by decide, by decide, by decide⟩ dL_setRights_5 (fun E9 S9 h9 => ?_) (fun v9 S9 h9 => ?_)
  · skip
    obtain ⟨rfl, h9⟩ := h9
    rcases h9 with ⟨rfl, e0⟩ | ⟨rfl, e0, e1⟩ | ⟨rfl, e0, e1, e2⟩
    · skip
      refine at_catch (pre := []) (x := ⟨0, 10, 13, 21⟩) (suf := [⟨0, 10, 17, 13⟩, ⟨0, 10, 21, 15⟩]) hC hT (fun z hz => absurd hz List.not_mem_nil) (by decide) (by decide) kc_L_21 kt_IOB (fun q9 => ?_)
      first | refine r_astore (pc := 13) hC dL_setRights_13 (by decide) ?_ | refine r_astoreN (pc := 13) hC dL_setRights_13 (by decide) ?_
      refine r_iconst (pc := 15) (nI 1) hC dL_setRights_15 (by decide) ?_
      refine r_iret (pc := 16) hC hR dL_setRights_16 ?_ (by decide) (by decide)
      exact LQ.no (kd_f e0) (by decide) hZ
    · skip
      refine at_catch (pre := [⟨0, 10, 13, 21⟩]) (x := ⟨0, 10, 17, 13⟩) (suf := [⟨0, 10, 21, 15⟩]) hC hT (fun z hz => ?_) (by decide) (by decide) kc_L_13 kt_IAE (fun q9 => ?_)
      · simp only [List.mem_cons, List.not_mem_nil, or_false] at hz
        rw [hz]; exact ⟨by decide, _, kc_L_21, nc_AB hC⟩
      · skip
        first | refine r_astore (pc := 17) hC dL_setRights_17 (by decide) ?_ | refine r_astoreN (pc := 17) hC dL_setRights_17 (by decide) ?_
        refine r_iconst (pc := 19) (nI 2) hC dL_setRights_19 (by decide) ?_
        refine r_iret (pc := 20) hC hR dL_setRights_20 ?_ (by decide) (by decide)
        exact LQ.no ((kd_t e0).trans (kd_f e1)) (by decide) hZ
    · skip
      refine at_catch (pre := [⟨0, 10, 13, 21⟩, ⟨0, 10, 17, 13⟩]) (x := ⟨0, 10, 21, 15⟩) (suf := []) hC hT (fun z hz => ?_) (by decide) (by decide) kc_L_15 kt_ISE (fun q9 => ?_)
      · simp only [List.mem_cons, List.not_mem_nil, or_false] at hz
        rcases hz with hz | hz
        · rw [hz]; exact ⟨by decide, _, kc_L_21, nc_SB hC⟩
        · rw [hz]; exact ⟨by decide, _, kc_L_13, nc_SA hC⟩
      · skip
        first | refine r_astore (pc := 21) hC dL_setRights_21 (by decide) ?_ | refine r_astoreN (pc := 21) hC dL_setRights_21 (by decide) ?_
        refine r_iconst (pc := 23) (nI 3) hC dL_setRights_23 (by decide) ?_
        refine r_iret (pc := 24) hC hR dL_setRights_24 ?_ (by decide) (by decide)
        exact LQ.no ((kd_t e0).trans ((kd_t e1).trans (kd_f e2))) (by decide) hZ
  · skip
    obtain ⟨e0, e1, e2, rfl, hCO⟩ := h9
    have ho9 := hCO.1.K ho
    have hN9 : pN S9 o = 1 := (hCO.1.N ho (ncP ho)).trans hoN
    refine r_i2l (pc := 8) hC dL_setRights_8 ?_
    refine r_jast (pc := 9) hC dL_setRights_9 ho9 (by rw [hN9]; decide) (by rw [hN9]; decide) ?_
    refine r_goto (pc := 10) (tgt := 25) hC dL_setRights_10 (by decide) ?_
    refine r_iconst (pc := 25) (nI 0) hC dL_setRights_25 (by decide) ?_
    refine r_iret (pc := 26) hC hR dL_setRights_26 ?_ (by decide) (by decide)
    exact LQ.ok ((kd_t e0).trans ((kd_t e1).trans ((kd_t e2).trans (rfl)))) hCO ho
abbrev rm_L_block : Room := { frames := 8, cells := 1, slots := 6, locals := 131 }
set_option maxHeartbeats 4000000 in
set_option maxRecDepth 100000 in
theorem cl_block {l : Launch} {G : Ids} {S : Ps} {Y : Lay} {σ : Sg} {x n o : Nat} {p : Int32} {q : Bool} (hfl : l.stackTraces = false) (hZ : RC G S Y σ x) (hJ : Inv σ n) (hn5 : n ≤ 511) (ho : isK S 10 o) (hoN : pN S o = 1) : Ct l (Cond.codeWith yL_block cL_block 5 (some .int) [(0, 17, 20, 21)]) yL_block rm_L_block G [.ref x, .int p, .int (b2i q), .ref o] S (fun v S9 => LQ G S [(1, inB σ p)] ((b2i (decide (blk σ (iN p) = 1))).toInt64) σ (blS σ (iN p) (bN q)) x o v S9) (fun _ _ => False) := by
  refine Ct.ofH hfl (by decide) (Nat.le_of_ble_eq_true rfl) (fun Γ V hC hR hT hI => ?_)
  first | refine r_aload_n (pc := 0) hC dL_block_0 rfl ?_ | refine r_aload_nN (pc := 0) hC dL_block_0 rfl ?_
  refine r_iconst (pc := 1) (nI 0) hC dL_block_1 (by decide) ?_
  first | refine r_aload_n (pc := 2) hC dL_block_2 rfl ?_ | refine r_aload_nN (pc := 2) hC dL_block_2 rfl ?_
  refine r_iload_n (pc := 3) hC dL_block_3 rfl ?_
  refine r_iload_n (pc := 4) hC dL_block_4 rfl ?_
  refine r_callV (pc := 5) hC (cp_block hC.fl hZ hJ hn5) kv_L_47 cls5 hZ.kx rfl rfl (Nat.le_of_ble_eq_true rfl) ⟨by decide, by decide, by decide, by decide⟩ dL_block_5 (fun E9 S9 h9 => ?_) (fun v9 S9 h9 => ?_)
  · skip
    obtain ⟨rfl, h9⟩ := h9
    obtain ⟨rfl, e0⟩ := h9
    refine at_catch (pre := []) (x := ⟨0, 17, 20, 21⟩) (suf := []) hC hT (fun z hz => absurd hz List.not_mem_nil) (by decide) (by decide) kc_L_21 kt_IOB (fun q9 => ?_)
    first | refine r_astore (pc := 20) hC dL_block_20 (by decide) ?_ | refine r_astoreN (pc := 20) hC dL_block_20 (by decide) ?_
    refine r_iconst (pc := 22) (nI 1) hC dL_block_22 (by decide) ?_
    refine r_iret (pc := 23) hC hR dL_block_23 ?_ (by decide) (by decide)
    exact LQ.no (kd_f e0) (by decide) hZ
  · skip
    obtain ⟨e0, rfl, hCO⟩ := h9
    have ho9 := hCO.1.K ho
    have hN9 : pN S9 o = 1 := (hCO.1.N ho (ncP ho)).trans hoN
    first | refine rb_if_eq (pc := 8) (tgt := 15) hC dL_block_8 (by decide) (fun c8 => ?_) (fun c8 => ?_) | refine rn_if_eq (pc := 8) (tgt := 15) hC dL_block_8 (by decide) (by omega) (fun c8 => ?_) (fun c8 => ?_) | refine ri_if_eq (pc := 8) (tgt := 15) hC dL_block_8 (by decide) (fun c8 => ?_) (fun c8 => ?_)
    · -- taken
      refine r_lconst (pc := 15) (0) hC dL_block_15 (by decide) ?_
      first | rw [tI_1 _ c8] | rw [tI_0 _ c8]
      refine r_jast (pc := 16) hC dL_block_16 ho9 (by rw [hN9]; decide) (by rw [hN9]; decide) ?_
      refine r_goto (pc := 17) (tgt := 24) hC dL_block_17 (by decide) ?_
      refine r_iconst (pc := 24) (nI 0) hC dL_block_24 (by decide) ?_
      refine r_iret (pc := 25) hC hR dL_block_25 ?_ (by decide) (by decide)
      exact LQ.ok ((kd_t e0).trans (rfl)) hCO ho
    · -- not
      refine r_lconst (pc := 11) (1) hC dL_block_11 (by decide) ?_
      refine r_goto (pc := 12) (tgt := 16) hC dL_block_12 (by decide) ?_
      first | rw [tI_1 _ c8] | rw [tI_0 _ c8]
      refine r_jast (pc := 16) hC dL_block_16 ho9 (by rw [hN9]; decide) (by rw [hN9]; decide) ?_
      refine r_goto (pc := 17) (tgt := 24) hC dL_block_17 (by decide) ?_
      refine r_iconst (pc := 24) (nI 0) hC dL_block_24 (by decide) ?_
      refine r_iret (pc := 25) hC hR dL_block_25 ?_ (by decide) (by decide)
      exact LQ.ok ((kd_t e0).trans (rfl)) hCO ho
abbrev rm_L_badge : Room := { frames := 8, cells := 2, slots := 12, locals := 130 }
set_option maxHeartbeats 4000000 in
set_option maxRecDepth 100000 in
theorem cl_badge {l : Launch} {G : Ids} {S : Ps} {Y : Lay} {σ : Sg} {x n o : Nat} {p q : Int32} (hfl : l.stackTraces = false) (hZ : RC G S Y σ x) (hJ : Inv σ n) (hn5 : n ≤ 511) (ho : isK S 10 o) (hoN : pN S o = 1) : Ct l (Cond.codeWith yL_badge cL_badge 5 (some .int) [(0, 10, 13, 21)]) yL_badge rm_L_badge G [.ref x, .int p, .int q, .ref o] S (fun v S9 => LQ G S [(1, inB σ p), (1, wi 0 4 q)] ((tel σ (iN p) (iN q)).toInt64) σ (σ) x o v S9) (fun _ _ => False) := by
  refine Ct.ofH hfl (by decide) (Nat.le_of_ble_eq_true rfl) (fun Γ V hC hR hT hI => ?_)
  first | refine r_aload_n (pc := 0) hC dL_badge_0 rfl ?_ | refine r_aload_nN (pc := 0) hC dL_badge_0 rfl ?_
  refine r_iconst (pc := 1) (nI 0) hC dL_badge_1 (by decide) ?_
  first | refine r_aload_n (pc := 2) hC dL_badge_2 rfl ?_ | refine r_aload_nN (pc := 2) hC dL_badge_2 rfl ?_
  refine r_iload_n (pc := 3) hC dL_badge_3 rfl ?_
  refine r_iload_n (pc := 4) hC dL_badge_4 rfl ?_
  refine r_callV (pc := 5) hC (cp_badge hC.fl hZ hJ hn5) kv_L_51 cls5 hZ.kx rfl rfl (Nat.le_of_ble_eq_true rfl) ⟨by decide, by decide, by decide, by decide⟩ dL_badge_5 (fun E9 S9 h9 => ?_) (fun v9 S9 h9 => ?_)
  · skip
    obtain ⟨rfl, h9⟩ := h9
    rcases h9 with ⟨rfl, e0⟩ | ⟨rfl, e0, e1⟩
    · skip
      refine at_catch (pre := []) (x := ⟨0, 10, 13, 21⟩) (suf := []) hC hT (fun z hz => absurd hz List.not_mem_nil) (by decide) (by decide) kc_L_21 kt_IOB (fun q9 => ?_)
      first | refine r_astore (pc := 13) hC dL_badge_13 (by decide) ?_ | refine r_astoreN (pc := 13) hC dL_badge_13 (by decide) ?_
      refine r_iconst (pc := 15) (nI 1) hC dL_badge_15 (by decide) ?_
      refine r_iret (pc := 16) hC hR dL_badge_16 ?_ (by decide) (by decide)
      exact LQ.no (kd_f e0) (by decide) hZ
    · skip
      refine at_catch (pre := []) (x := ⟨0, 10, 13, 21⟩) (suf := []) hC hT (fun z hz => absurd hz List.not_mem_nil) (by decide) (by decide) kc_L_21 kt_IOB (fun q9 => ?_)
      first | refine r_astore (pc := 13) hC dL_badge_13 (by decide) ?_ | refine r_astoreN (pc := 13) hC dL_badge_13 (by decide) ?_
      refine r_iconst (pc := 15) (nI 1) hC dL_badge_15 (by decide) ?_
      refine r_iret (pc := 16) hC hR dL_badge_16 ?_ (by decide) (by decide)
      exact LQ.no ((kd_t e0).trans (kd_f e1)) (by decide) hZ
  · skip
    obtain ⟨e0, e1, rfl, hCO⟩ := h9
    have ho9 := hCO.1.K ho
    have hN9 : pN S9 o = 1 := (hCO.1.N ho (ncP ho)).trans hoN
    refine r_i2l (pc := 8) hC dL_badge_8 ?_
    refine r_jast (pc := 9) hC dL_badge_9 ho9 (by rw [hN9]; decide) (by rw [hN9]; decide) ?_
    refine r_goto (pc := 10) (tgt := 17) hC dL_badge_10 (by decide) ?_
    refine r_iconst (pc := 17) (nI 0) hC dL_badge_17 (by decide) ?_
    refine r_iret (pc := 18) hC hR dL_badge_18 ?_ (by decide) (by decide)
    exact LQ.ok ((kd_t e0).trans ((kd_t e1).trans (rfl))) hCO ho
abbrev rm_L_tick : Room := { frames := 7, cells := 2, slots := 12, locals := 107 }
set_option maxHeartbeats 4000000 in
set_option maxRecDepth 100000 in
theorem cl_tick {l : Launch} {G : Ids} {S : Ps} {Y : Lay} {σ : Sg} {x n o : Nat} {p : Int32} (hfl : l.stackTraces = false) (hZ : RC G S Y σ x) (hJ : Inv σ n) (hn5 : n ≤ 511) (ho : isK S 10 o) (hoN : pN S o = 1) : Ct l (Cond.codeWith yL_tick cL_tick 4 (some .int) [(0, 9, 12, 13), (0, 9, 15, 15)]) yL_tick rm_L_tick G [.ref x, .int p, .ref o] S (fun v S9 => LQ G S [(1, wi 1 2000 p), (2, decide (p.toInt + mi σ ≤ 99999))] ((nI (mi σ + iN p)).toInt64) σ (up σ 1 0 (mi σ + iN p)) x o v S9) (fun _ _ => False) := by
  refine Ct.ofH hfl (by decide) (Nat.le_of_ble_eq_true rfl) (fun Γ V hC hR hT hI => ?_)
  first | refine r_aload_n (pc := 0) hC dL_tick_0 rfl ?_ | refine r_aload_nN (pc := 0) hC dL_tick_0 rfl ?_
  refine r_iconst (pc := 1) (nI 0) hC dL_tick_1 (by decide) ?_
  first | refine r_aload_n (pc := 2) hC dL_tick_2 rfl ?_ | refine r_aload_nN (pc := 2) hC dL_tick_2 rfl ?_
  refine r_iload_n (pc := 3) hC dL_tick_3 rfl ?_
  refine r_callV (pc := 4) hC (cp_tick hC.fl hZ hJ hn5) kv_L_54 cls5 hZ.kx rfl rfl (Nat.le_of_ble_eq_true rfl) ⟨by decide, by decide, by decide, by decide⟩ dL_tick_4 (fun E9 S9 h9 => ?_) (fun v9 S9 h9 => ?_)
  · skip
    obtain ⟨rfl, h9⟩ := h9
    rcases h9 with ⟨rfl, e0⟩ | ⟨rfl, e0, e1⟩
    · skip
      refine at_catch (pre := []) (x := ⟨0, 9, 12, 13⟩) (suf := [⟨0, 9, 15, 15⟩]) hC hT (fun z hz => absurd hz List.not_mem_nil) (by decide) (by decide) kc_L_13 kt_IAE (fun q9 => ?_)
      first | refine r_astore_n (pc := 12) hC dL_tick_12 (by decide) ?_ | refine r_astore_nN (pc := 12) hC dL_tick_12 (by decide) ?_
      refine r_iconst (pc := 13) (nI 1) hC dL_tick_13 (by decide) ?_
      refine r_iret (pc := 14) hC hR dL_tick_14 ?_ (by decide) (by decide)
      exact LQ.no (kd_f e0) (by decide) hZ
    · skip
      refine at_catch (pre := [⟨0, 9, 12, 13⟩]) (x := ⟨0, 9, 15, 15⟩) (suf := []) hC hT (fun z hz => ?_) (by decide) (by decide) kc_L_15 kt_ISE (fun q9 => ?_)
      · simp only [List.mem_cons, List.not_mem_nil, or_false] at hz
        rw [hz]; exact ⟨by decide, _, kc_L_13, nc_SA hC⟩
      · skip
        first | refine r_astore_n (pc := 15) hC dL_tick_15 (by decide) ?_ | refine r_astore_nN (pc := 15) hC dL_tick_15 (by decide) ?_
        refine r_iconst (pc := 16) (nI 2) hC dL_tick_16 (by decide) ?_
        refine r_iret (pc := 17) hC hR dL_tick_17 ?_ (by decide) (by decide)
        exact LQ.no ((kd_t e0).trans (kd_f e1)) (by decide) hZ
  · skip
    obtain ⟨e0, e1, rfl, hCO⟩ := h9
    have ho9 := hCO.1.K ho
    have hN9 : pN S9 o = 1 := (hCO.1.N ho (ncP ho)).trans hoN
    refine r_i2l (pc := 7) hC dL_tick_7 ?_
    refine r_jast (pc := 8) hC dL_tick_8 ho9 (by rw [hN9]; decide) (by rw [hN9]; decide) ?_
    refine r_goto (pc := 9) (tgt := 18) hC dL_tick_9 (by decide) ?_
    refine r_iconst (pc := 18) (nI 0) hC dL_tick_18 (by decide) ?_
    refine r_iret (pc := 19) hC hR dL_tick_19 ?_ (by decide) (by decide)
    exact LQ.ok ((kd_t e0).trans ((kd_t e1).trans (rfl))) hCO ho
abbrev rm_L_request : Room := { frames := 10, cells := 5, slots := 824, locals := 241 }
set_option maxHeartbeats 4000000 in
set_option maxRecDepth 100000 in
theorem cl_request {l : Launch} {G : Ids} {S : Ps} {Y : Lay} {σ : Sg} {x n o : Nat} {p q : Int32} (hfl : l.stackTraces = false) (hZ : RC G S Y σ x) (hJ : Inv σ n) (hn5 : n ≤ 511) (ho : isK S 10 o) (hoN : pN S o = 1) : Ct l (Cond.codeWith yL_request cL_request 5 (some .int) [(0, 10, 13, 21)]) yL_request rm_L_request G [.ref x, .int p, .int q, .ref o] S (fun v S9 => LQ G S [(1, inB σ p), (1, inD σ q)] ((nI (ans σ (iN p) (iN q))).toInt64) σ (rqS σ (iN p) (iN q)) x o v S9) (fun _ _ => False) := by
  refine Ct.ofH hfl (by decide) (Nat.le_of_ble_eq_true rfl) (fun Γ V hC hR hT hI => ?_)
  first | refine r_aload_n (pc := 0) hC dL_request_0 rfl ?_ | refine r_aload_nN (pc := 0) hC dL_request_0 rfl ?_
  refine r_iconst (pc := 1) (nI 0) hC dL_request_1 (by decide) ?_
  first | refine r_aload_n (pc := 2) hC dL_request_2 rfl ?_ | refine r_aload_nN (pc := 2) hC dL_request_2 rfl ?_
  refine r_iload_n (pc := 3) hC dL_request_3 rfl ?_
  refine r_iload_n (pc := 4) hC dL_request_4 rfl ?_
  refine r_callV (pc := 5) hC (cp_request hC.fl hZ hJ hn5) kv_L_57 cls5 hZ.kx rfl rfl (Nat.le_of_ble_eq_true rfl) ⟨by decide, by decide, by decide, by decide⟩ dL_request_5 (fun E9 S9 h9 => ?_) (fun v9 S9 h9 => ?_)
  · skip
    obtain ⟨rfl, h9⟩ := h9
    rcases h9 with ⟨rfl, e0⟩ | ⟨rfl, e0, e1⟩
    · skip
      refine at_catch (pre := []) (x := ⟨0, 10, 13, 21⟩) (suf := []) hC hT (fun z hz => absurd hz List.not_mem_nil) (by decide) (by decide) kc_L_21 kt_IOB (fun q9 => ?_)
      first | refine r_astore (pc := 13) hC dL_request_13 (by decide) ?_ | refine r_astoreN (pc := 13) hC dL_request_13 (by decide) ?_
      refine r_iconst (pc := 15) (nI 1) hC dL_request_15 (by decide) ?_
      refine r_iret (pc := 16) hC hR dL_request_16 ?_ (by decide) (by decide)
      exact LQ.no (kd_f e0) (by decide) hZ
    · skip
      refine at_catch (pre := []) (x := ⟨0, 10, 13, 21⟩) (suf := []) hC hT (fun z hz => absurd hz List.not_mem_nil) (by decide) (by decide) kc_L_21 kt_IOB (fun q9 => ?_)
      first | refine r_astore (pc := 13) hC dL_request_13 (by decide) ?_ | refine r_astoreN (pc := 13) hC dL_request_13 (by decide) ?_
      refine r_iconst (pc := 15) (nI 1) hC dL_request_15 (by decide) ?_
      refine r_iret (pc := 16) hC hR dL_request_16 ?_ (by decide) (by decide)
      exact LQ.no ((kd_t e0).trans (kd_f e1)) (by decide) hZ
  · skip
    obtain ⟨e0, e1, rfl, hCO⟩ := h9
    have ho9 := hCO.1.K ho
    have hN9 : pN S9 o = 1 := (hCO.1.N ho (ncP ho)).trans hoN
    refine r_i2l (pc := 8) hC dL_request_8 ?_
    refine r_jast (pc := 9) hC dL_request_9 ho9 (by rw [hN9]; decide) (by rw [hN9]; decide) ?_
    refine r_goto (pc := 10) (tgt := 17) hC dL_request_10 (by decide) ?_
    refine r_iconst (pc := 17) (nI 0) hC dL_request_17 (by decide) ?_
    refine r_iret (pc := 18) hC hR dL_request_18 ?_ (by decide) (by decide)
    exact LQ.ok ((kd_t e0).trans ((kd_t e1).trans (rfl))) hCO ho
abbrev rm_L_wouldBe : Room := { frames := 8, cells := 2, slots := 12, locals := 177 }
set_option maxHeartbeats 4000000 in
set_option maxRecDepth 100000 in
theorem cl_wouldBe {l : Launch} {G : Ids} {S : Ps} {Y : Lay} {σ : Sg} {x n o : Nat} {p q : Int32} (hfl : l.stackTraces = false) (hZ : RC G S Y σ x) (hJ : Inv σ n) (hn5 : n ≤ 511) (ho : isK S 10 o) (hoN : pN S o = 1) : Ct l (Cond.codeWith yL_wouldBe cL_wouldBe 5 (some .int) [(0, 10, 13, 21)]) yL_wouldBe rm_L_wouldBe G [.ref x, .int p, .int q, .ref o] S (fun v S9 => LQ G S [(1, inB σ p), (1, inD σ q)] ((nI (ans σ (iN p) (iN q))).toInt64) σ (σ) x o v S9) (fun _ _ => False) := by
  refine Ct.ofH hfl (by decide) (Nat.le_of_ble_eq_true rfl) (fun Γ V hC hR hT hI => ?_)
  first | refine r_aload_n (pc := 0) hC dL_wouldBe_0 rfl ?_ | refine r_aload_nN (pc := 0) hC dL_wouldBe_0 rfl ?_
  refine r_iconst (pc := 1) (nI 0) hC dL_wouldBe_1 (by decide) ?_
  first | refine r_aload_n (pc := 2) hC dL_wouldBe_2 rfl ?_ | refine r_aload_nN (pc := 2) hC dL_wouldBe_2 rfl ?_
  refine r_iload_n (pc := 3) hC dL_wouldBe_3 rfl ?_
  refine r_iload_n (pc := 4) hC dL_wouldBe_4 rfl ?_
  refine r_callV (pc := 5) hC (cp_wouldBe hC.fl hZ hJ hn5) kv_L_60 cls5 hZ.kx rfl rfl (Nat.le_of_ble_eq_true rfl) ⟨by decide, by decide, by decide, by decide⟩ dL_wouldBe_5 (fun E9 S9 h9 => ?_) (fun v9 S9 h9 => ?_)
  · skip
    obtain ⟨rfl, h9⟩ := h9
    rcases h9 with ⟨rfl, e0⟩ | ⟨rfl, e0, e1⟩
    · skip
      refine at_catch (pre := []) (x := ⟨0, 10, 13, 21⟩) (suf := []) hC hT (fun z hz => absurd hz List.not_mem_nil) (by decide) (by decide) kc_L_21 kt_IOB (fun q9 => ?_)
      first | refine r_astore (pc := 13) hC dL_wouldBe_13 (by decide) ?_ | refine r_astoreN (pc := 13) hC dL_wouldBe_13 (by decide) ?_
      refine r_iconst (pc := 15) (nI 1) hC dL_wouldBe_15 (by decide) ?_
      refine r_iret (pc := 16) hC hR dL_wouldBe_16 ?_ (by decide) (by decide)
      exact LQ.no (kd_f e0) (by decide) hZ
    · skip
      refine at_catch (pre := []) (x := ⟨0, 10, 13, 21⟩) (suf := []) hC hT (fun z hz => absurd hz List.not_mem_nil) (by decide) (by decide) kc_L_21 kt_IOB (fun q9 => ?_)
      first | refine r_astore (pc := 13) hC dL_wouldBe_13 (by decide) ?_ | refine r_astoreN (pc := 13) hC dL_wouldBe_13 (by decide) ?_
      refine r_iconst (pc := 15) (nI 1) hC dL_wouldBe_15 (by decide) ?_
      refine r_iret (pc := 16) hC hR dL_wouldBe_16 ?_ (by decide) (by decide)
      exact LQ.no ((kd_t e0).trans (kd_f e1)) (by decide) hZ
  · skip
    obtain ⟨e0, e1, rfl, hCO⟩ := h9
    have ho9 := hCO.1.K ho
    have hN9 : pN S9 o = 1 := (hCO.1.N ho (ncP ho)).trans hoN
    refine r_i2l (pc := 8) hC dL_wouldBe_8 ?_
    refine r_jast (pc := 9) hC dL_wouldBe_9 ho9 (by rw [hN9]; decide) (by rw [hN9]; decide) ?_
    refine r_goto (pc := 10) (tgt := 17) hC dL_wouldBe_10 (by decide) ?_
    refine r_iconst (pc := 17) (nI 0) hC dL_wouldBe_17 (by decide) ?_
    refine r_iret (pc := 18) hC hR dL_wouldBe_18 ?_ (by decide) (by decide)
    exact LQ.ok ((kd_t e0).trans ((kd_t e1).trans (rfl))) hCO ho
abbrev rm_L_inside : Room := { frames := 8, cells := 1, slots := 6, locals := 128 }
set_option maxHeartbeats 4000000 in
set_option maxRecDepth 100000 in
theorem cl_inside {l : Launch} {G : Ids} {S : Ps} {Y : Lay} {σ : Sg} {x n o : Nat} {p : Int32} (hfl : l.stackTraces = false) (hZ : RC G S Y σ x) (hJ : Inv σ n) (hn5 : n ≤ 511) (ho : isK S 10 o) (hoN : pN S o = 1) : Ct l (Cond.codeWith yL_inside cL_inside 4 (some .int) [(0, 9, 12, 21)]) yL_inside rm_L_inside G [.ref x, .int p, .ref o] S (fun v S9 => LQ G S [(1, inZ σ p)] ((nI (insB σ (iN p))).toInt64) σ (σ) x o v S9) (fun _ _ => False) := by
  refine Ct.ofH hfl (by decide) (Nat.le_of_ble_eq_true rfl) (fun Γ V hC hR hT hI => ?_)
  first | refine r_aload_n (pc := 0) hC dL_inside_0 rfl ?_ | refine r_aload_nN (pc := 0) hC dL_inside_0 rfl ?_
  refine r_iconst (pc := 1) (nI 0) hC dL_inside_1 (by decide) ?_
  first | refine r_aload_n (pc := 2) hC dL_inside_2 rfl ?_ | refine r_aload_nN (pc := 2) hC dL_inside_2 rfl ?_
  refine r_iload_n (pc := 3) hC dL_inside_3 rfl ?_
  refine r_callV (pc := 4) hC (cp_inside hC.fl hZ hJ hn5) kv_L_63 cls5 hZ.kx rfl rfl (Nat.le_of_ble_eq_true rfl) ⟨by decide, by decide, by decide, by decide⟩ dL_inside_4 (fun E9 S9 h9 => ?_) (fun v9 S9 h9 => ?_)
  · skip
    obtain ⟨rfl, h9⟩ := h9
    obtain ⟨rfl, e0⟩ := h9
    refine at_catch (pre := []) (x := ⟨0, 9, 12, 21⟩) (suf := []) hC hT (fun z hz => absurd hz List.not_mem_nil) (by decide) (by decide) kc_L_21 kt_IOB (fun q9 => ?_)
    first | refine r_astore_n (pc := 12) hC dL_inside_12 (by decide) ?_ | refine r_astore_nN (pc := 12) hC dL_inside_12 (by decide) ?_
    refine r_iconst (pc := 13) (nI 1) hC dL_inside_13 (by decide) ?_
    refine r_iret (pc := 14) hC hR dL_inside_14 ?_ (by decide) (by decide)
    exact LQ.no (kd_f e0) (by decide) hZ
  · skip
    obtain ⟨e0, rfl, hCO⟩ := h9
    have ho9 := hCO.1.K ho
    have hN9 : pN S9 o = 1 := (hCO.1.N ho (ncP ho)).trans hoN
    refine r_i2l (pc := 7) hC dL_inside_7 ?_
    refine r_jast (pc := 8) hC dL_inside_8 ho9 (by rw [hN9]; decide) (by rw [hN9]; decide) ?_
    refine r_goto (pc := 9) (tgt := 15) hC dL_inside_9 (by decide) ?_
    refine r_iconst (pc := 15) (nI 0) hC dL_inside_15 (by decide) ?_
    refine r_iret (pc := 16) hC hR dL_inside_16 ?_ (by decide) (by decide)
    exact LQ.ok ((kd_t e0).trans (rfl)) hCO ho
abbrev rm_L_wasIn : Room := { frames := 8, cells := 2, slots := 12, locals := 130 }
set_option maxHeartbeats 4000000 in
set_option maxRecDepth 100000 in
theorem cl_wasIn {l : Launch} {G : Ids} {S : Ps} {Y : Lay} {σ : Sg} {x n o : Nat} {p q : Int32} (hfl : l.stackTraces = false) (hZ : RC G S Y σ x) (hJ : Inv σ n) (hn5 : n ≤ 511) (ho : isK S 10 o) (hoN : pN S o = 1) : Ct l (Cond.codeWith yL_wasIn cL_wasIn 5 (some .int) [(0, 10, 13, 21), (0, 10, 17, 13)]) yL_wasIn rm_L_wasIn G [.ref x, .int p, .int q, .ref o] S (fun v S9 => LQ G S [(1, inB σ p), (2, wi 0 (mi σ) q)] ((nI (lkL σ (iN p) (iN q) (mv σ))).toInt64) σ (σ) x o v S9) (fun _ _ => False) := by
  refine Ct.ofH hfl (by decide) (Nat.le_of_ble_eq_true rfl) (fun Γ V hC hR hT hI => ?_)
  first | refine r_aload_n (pc := 0) hC dL_wasIn_0 rfl ?_ | refine r_aload_nN (pc := 0) hC dL_wasIn_0 rfl ?_
  refine r_iconst (pc := 1) (nI 0) hC dL_wasIn_1 (by decide) ?_
  first | refine r_aload_n (pc := 2) hC dL_wasIn_2 rfl ?_ | refine r_aload_nN (pc := 2) hC dL_wasIn_2 rfl ?_
  refine r_iload_n (pc := 3) hC dL_wasIn_3 rfl ?_
  refine r_iload_n (pc := 4) hC dL_wasIn_4 rfl ?_
  refine r_callV (pc := 5) hC (cp_wasIn hC.fl hZ hJ hn5) kv_L_66 cls5 hZ.kx rfl rfl (Nat.le_of_ble_eq_true rfl) ⟨by decide, by decide, by decide, by decide⟩ dL_wasIn_5 (fun E9 S9 h9 => ?_) (fun v9 S9 h9 => ?_)
  · skip
    obtain ⟨rfl, h9⟩ := h9
    rcases h9 with ⟨rfl, e0⟩ | ⟨rfl, e0, e1⟩
    · skip
      refine at_catch (pre := []) (x := ⟨0, 10, 13, 21⟩) (suf := [⟨0, 10, 17, 13⟩]) hC hT (fun z hz => absurd hz List.not_mem_nil) (by decide) (by decide) kc_L_21 kt_IOB (fun q9 => ?_)
      first | refine r_astore (pc := 13) hC dL_wasIn_13 (by decide) ?_ | refine r_astoreN (pc := 13) hC dL_wasIn_13 (by decide) ?_
      refine r_iconst (pc := 15) (nI 1) hC dL_wasIn_15 (by decide) ?_
      refine r_iret (pc := 16) hC hR dL_wasIn_16 ?_ (by decide) (by decide)
      exact LQ.no (kd_f e0) (by decide) hZ
    · skip
      refine at_catch (pre := [⟨0, 10, 13, 21⟩]) (x := ⟨0, 10, 17, 13⟩) (suf := []) hC hT (fun z hz => ?_) (by decide) (by decide) kc_L_13 kt_IAE (fun q9 => ?_)
      · simp only [List.mem_cons, List.not_mem_nil, or_false] at hz
        rw [hz]; exact ⟨by decide, _, kc_L_21, nc_AB hC⟩
      · skip
        first | refine r_astore (pc := 17) hC dL_wasIn_17 (by decide) ?_ | refine r_astoreN (pc := 17) hC dL_wasIn_17 (by decide) ?_
        refine r_iconst (pc := 19) (nI 2) hC dL_wasIn_19 (by decide) ?_
        refine r_iret (pc := 20) hC hR dL_wasIn_20 ?_ (by decide) (by decide)
        exact LQ.no ((kd_t e0).trans (kd_f e1)) (by decide) hZ
  · skip
    obtain ⟨e0, e1, rfl, hCO⟩ := h9
    have ho9 := hCO.1.K ho
    have hN9 : pN S9 o = 1 := (hCO.1.N ho (ncP ho)).trans hoN
    refine r_i2l (pc := 8) hC dL_wasIn_8 ?_
    refine r_jast (pc := 9) hC dL_wasIn_9 ho9 (by rw [hN9]; decide) (by rw [hN9]; decide) ?_
    refine r_goto (pc := 10) (tgt := 21) hC dL_wasIn_10 (by decide) ?_
    refine r_iconst (pc := 21) (nI 0) hC dL_wasIn_21 (by decide) ?_
    refine r_iret (pc := 22) hC hR dL_wasIn_22 ?_ (by decide) (by decide)
    exact LQ.ok ((kd_t e0).trans ((kd_t e1).trans (rfl))) hCO ho
abbrev rm_L_minutesIn : Room := { frames := 8, cells := 2, slots := 12, locals := 130 }
set_option maxHeartbeats 4000000 in
set_option maxRecDepth 100000 in
theorem cl_minutesIn {l : Launch} {G : Ids} {S : Ps} {Y : Lay} {σ : Sg} {x n o : Nat} {p q : Int32} (hfl : l.stackTraces = false) (hZ : RC G S Y σ x) (hJ : Inv σ n) (hn5 : n ≤ 511) (ho : isK S 10 o) (hoN : pN S o = 1) : Ct l (Cond.codeWith yL_minutesIn cL_minutesIn 5 (some .int) [(0, 10, 13, 21)]) yL_minutesIn rm_L_minutesIn G [.ref x, .int p, .int q, .ref o] S (fun v S9 => LQ G S [(1, inB σ p), (1, inZ σ q)] ((nI (minZ σ (iN p) (iN q))).toInt64) σ (σ) x o v S9) (fun _ _ => False) := by
  refine Ct.ofH hfl (by decide) (Nat.le_of_ble_eq_true rfl) (fun Γ V hC hR hT hI => ?_)
  first | refine r_aload_n (pc := 0) hC dL_minutesIn_0 rfl ?_ | refine r_aload_nN (pc := 0) hC dL_minutesIn_0 rfl ?_
  refine r_iconst (pc := 1) (nI 0) hC dL_minutesIn_1 (by decide) ?_
  first | refine r_aload_n (pc := 2) hC dL_minutesIn_2 rfl ?_ | refine r_aload_nN (pc := 2) hC dL_minutesIn_2 rfl ?_
  refine r_iload_n (pc := 3) hC dL_minutesIn_3 rfl ?_
  refine r_iload_n (pc := 4) hC dL_minutesIn_4 rfl ?_
  refine r_callV (pc := 5) hC (cp_minutesIn hC.fl hZ hJ hn5) kv_L_69 cls5 hZ.kx rfl rfl (Nat.le_of_ble_eq_true rfl) ⟨by decide, by decide, by decide, by decide⟩ dL_minutesIn_5 (fun E9 S9 h9 => ?_) (fun v9 S9 h9 => ?_)
  · skip
    obtain ⟨rfl, h9⟩ := h9
    rcases h9 with ⟨rfl, e0⟩ | ⟨rfl, e0, e1⟩
    · skip
      refine at_catch (pre := []) (x := ⟨0, 10, 13, 21⟩) (suf := []) hC hT (fun z hz => absurd hz List.not_mem_nil) (by decide) (by decide) kc_L_21 kt_IOB (fun q9 => ?_)
      first | refine r_astore (pc := 13) hC dL_minutesIn_13 (by decide) ?_ | refine r_astoreN (pc := 13) hC dL_minutesIn_13 (by decide) ?_
      refine r_iconst (pc := 15) (nI 1) hC dL_minutesIn_15 (by decide) ?_
      refine r_iret (pc := 16) hC hR dL_minutesIn_16 ?_ (by decide) (by decide)
      exact LQ.no (kd_f e0) (by decide) hZ
    · skip
      refine at_catch (pre := []) (x := ⟨0, 10, 13, 21⟩) (suf := []) hC hT (fun z hz => absurd hz List.not_mem_nil) (by decide) (by decide) kc_L_21 kt_IOB (fun q9 => ?_)
      first | refine r_astore (pc := 13) hC dL_minutesIn_13 (by decide) ?_ | refine r_astoreN (pc := 13) hC dL_minutesIn_13 (by decide) ?_
      refine r_iconst (pc := 15) (nI 1) hC dL_minutesIn_15 (by decide) ?_
      refine r_iret (pc := 16) hC hR dL_minutesIn_16 ?_ (by decide) (by decide)
      exact LQ.no ((kd_t e0).trans (kd_f e1)) (by decide) hZ
  · skip
    obtain ⟨e0, e1, rfl, hCO⟩ := h9
    have ho9 := hCO.1.K ho
    have hN9 : pN S9 o = 1 := (hCO.1.N ho (ncP ho)).trans hoN
    refine r_i2l (pc := 8) hC dL_minutesIn_8 ?_
    refine r_jast (pc := 9) hC dL_minutesIn_9 ho9 (by rw [hN9]; decide) (by rw [hN9]; decide) ?_
    refine r_goto (pc := 10) (tgt := 17) hC dL_minutesIn_10 (by decide) ?_
    refine r_iconst (pc := 17) (nI 0) hC dL_minutesIn_17 (by decide) ?_
    refine r_iret (pc := 18) hC hR dL_minutesIn_18 ?_ (by decide) (by decide)
    exact LQ.ok ((kd_t e0).trans ((kd_t e1).trans (rfl))) hCO ho
abbrev rm_L_way : Room := { frames := 8, cells := 2, slots := 12, locals := 134 }
set_option maxHeartbeats 4000000 in
set_option maxRecDepth 100000 in
theorem cl_way {l : Launch} {G : Ids} {S : Ps} {Y : Lay} {σ : Sg} {x n o : Nat} {p q : Int32} (hfl : l.stackTraces = false) (hZ : RC G S Y σ x) (hJ : Inv σ n) (hn5 : n ≤ 511) (ho : isK S 10 o) (hoN : pN S o = 1) : Ct l (Cond.codeWith yL_way cL_way 5 (some .int) [(0, 10, 13, 21)]) yL_way rm_L_way G [.ref x, .int p, .int q, .ref o] S (fun v S9 => LQ G S [(1, inB σ p), (1, inZ σ q)] ((wayI σ (iN p) (iN q)).toInt64) σ (σ) x o v S9) (fun _ _ => False) := by
  refine Ct.ofH hfl (by decide) (Nat.le_of_ble_eq_true rfl) (fun Γ V hC hR hT hI => ?_)
  first | refine r_aload_n (pc := 0) hC dL_way_0 rfl ?_ | refine r_aload_nN (pc := 0) hC dL_way_0 rfl ?_
  refine r_iconst (pc := 1) (nI 0) hC dL_way_1 (by decide) ?_
  first | refine r_aload_n (pc := 2) hC dL_way_2 rfl ?_ | refine r_aload_nN (pc := 2) hC dL_way_2 rfl ?_
  refine r_iload_n (pc := 3) hC dL_way_3 rfl ?_
  refine r_iload_n (pc := 4) hC dL_way_4 rfl ?_
  refine r_callV (pc := 5) hC (cp_way hC.fl hZ hJ hn5) kv_L_72 cls5 hZ.kx rfl rfl (Nat.le_of_ble_eq_true rfl) ⟨by decide, by decide, by decide, by decide⟩ dL_way_5 (fun E9 S9 h9 => ?_) (fun v9 S9 h9 => ?_)
  · skip
    obtain ⟨rfl, h9⟩ := h9
    rcases h9 with ⟨rfl, e0⟩ | ⟨rfl, e0, e1⟩
    · skip
      refine at_catch (pre := []) (x := ⟨0, 10, 13, 21⟩) (suf := []) hC hT (fun z hz => absurd hz List.not_mem_nil) (by decide) (by decide) kc_L_21 kt_IOB (fun q9 => ?_)
      first | refine r_astore (pc := 13) hC dL_way_13 (by decide) ?_ | refine r_astoreN (pc := 13) hC dL_way_13 (by decide) ?_
      refine r_iconst (pc := 15) (nI 1) hC dL_way_15 (by decide) ?_
      refine r_iret (pc := 16) hC hR dL_way_16 ?_ (by decide) (by decide)
      exact LQ.no (kd_f e0) (by decide) hZ
    · skip
      refine at_catch (pre := []) (x := ⟨0, 10, 13, 21⟩) (suf := []) hC hT (fun z hz => absurd hz List.not_mem_nil) (by decide) (by decide) kc_L_21 kt_IOB (fun q9 => ?_)
      first | refine r_astore (pc := 13) hC dL_way_13 (by decide) ?_ | refine r_astoreN (pc := 13) hC dL_way_13 (by decide) ?_
      refine r_iconst (pc := 15) (nI 1) hC dL_way_15 (by decide) ?_
      refine r_iret (pc := 16) hC hR dL_way_16 ?_ (by decide) (by decide)
      exact LQ.no ((kd_t e0).trans (kd_f e1)) (by decide) hZ
  · skip
    obtain ⟨e0, e1, rfl, hCO⟩ := h9
    have ho9 := hCO.1.K ho
    have hN9 : pN S9 o = 1 := (hCO.1.N ho (ncP ho)).trans hoN
    refine r_i2l (pc := 8) hC dL_way_8 ?_
    refine r_jast (pc := 9) hC dL_way_9 ho9 (by rw [hN9]; decide) (by rw [hN9]; decide) ?_
    refine r_goto (pc := 10) (tgt := 17) hC dL_way_10 (by decide) ?_
    refine r_iconst (pc := 17) (nI 0) hC dL_way_17 (by decide) ?_
    refine r_iret (pc := 18) hC hR dL_way_18 ?_ (by decide) (by decide)
    exact LQ.ok ((kd_t e0).trans ((kd_t e1).trans (rfl))) hCO ho
abbrev rm_L_next : Room := { frames := 8, cells := 2, slots := 12, locals := 134 }
set_option maxHeartbeats 4000000 in
set_option maxRecDepth 100000 in
theorem cl_next {l : Launch} {G : Ids} {S : Ps} {Y : Lay} {σ : Sg} {x n o : Nat} {p q : Int32} (hfl : l.stackTraces = false) (hZ : RC G S Y σ x) (hJ : Inv σ n) (hn5 : n ≤ 511) (ho : isK S 10 o) (hoN : pN S o = 1) : Ct l (Cond.codeWith yL_next cL_next 5 (some .int) [(0, 10, 13, 21)]) yL_next rm_L_next G [.ref x, .int p, .int q, .ref o] S (fun v S9 => LQ G S [(1, inB σ p), (1, inZ σ q)] ((nxtI σ (iN p) (iN q)).toInt64) σ (σ) x o v S9) (fun _ _ => False) := by
  refine Ct.ofH hfl (by decide) (Nat.le_of_ble_eq_true rfl) (fun Γ V hC hR hT hI => ?_)
  first | refine r_aload_n (pc := 0) hC dL_next_0 rfl ?_ | refine r_aload_nN (pc := 0) hC dL_next_0 rfl ?_
  refine r_iconst (pc := 1) (nI 0) hC dL_next_1 (by decide) ?_
  first | refine r_aload_n (pc := 2) hC dL_next_2 rfl ?_ | refine r_aload_nN (pc := 2) hC dL_next_2 rfl ?_
  refine r_iload_n (pc := 3) hC dL_next_3 rfl ?_
  refine r_iload_n (pc := 4) hC dL_next_4 rfl ?_
  refine r_callV (pc := 5) hC (cp_next hC.fl hZ hJ hn5) kv_L_75 cls5 hZ.kx rfl rfl (Nat.le_of_ble_eq_true rfl) ⟨by decide, by decide, by decide, by decide⟩ dL_next_5 (fun E9 S9 h9 => ?_) (fun v9 S9 h9 => ?_)
  · skip
    obtain ⟨rfl, h9⟩ := h9
    rcases h9 with ⟨rfl, e0⟩ | ⟨rfl, e0, e1⟩
    · skip
      refine at_catch (pre := []) (x := ⟨0, 10, 13, 21⟩) (suf := []) hC hT (fun z hz => absurd hz List.not_mem_nil) (by decide) (by decide) kc_L_21 kt_IOB (fun q9 => ?_)
      first | refine r_astore (pc := 13) hC dL_next_13 (by decide) ?_ | refine r_astoreN (pc := 13) hC dL_next_13 (by decide) ?_
      refine r_iconst (pc := 15) (nI 1) hC dL_next_15 (by decide) ?_
      refine r_iret (pc := 16) hC hR dL_next_16 ?_ (by decide) (by decide)
      exact LQ.no (kd_f e0) (by decide) hZ
    · skip
      refine at_catch (pre := []) (x := ⟨0, 10, 13, 21⟩) (suf := []) hC hT (fun z hz => absurd hz List.not_mem_nil) (by decide) (by decide) kc_L_21 kt_IOB (fun q9 => ?_)
      first | refine r_astore (pc := 13) hC dL_next_13 (by decide) ?_ | refine r_astoreN (pc := 13) hC dL_next_13 (by decide) ?_
      refine r_iconst (pc := 15) (nI 1) hC dL_next_15 (by decide) ?_
      refine r_iret (pc := 16) hC hR dL_next_16 ?_ (by decide) (by decide)
      exact LQ.no ((kd_t e0).trans (kd_f e1)) (by decide) hZ
  · skip
    obtain ⟨e0, e1, rfl, hCO⟩ := h9
    have ho9 := hCO.1.K ho
    have hN9 : pN S9 o = 1 := (hCO.1.N ho (ncP ho)).trans hoN
    refine r_i2l (pc := 8) hC dL_next_8 ?_
    refine r_jast (pc := 9) hC dL_next_9 ho9 (by rw [hN9]; decide) (by rw [hN9]; decide) ?_
    refine r_goto (pc := 10) (tgt := 17) hC dL_next_10 (by decide) ?_
    refine r_iconst (pc := 17) (nI 0) hC dL_next_17 (by decide) ?_
    refine r_iret (pc := 18) hC hR dL_next_18 ?_ (by decide) (by decide)
    exact LQ.ok ((kd_t e0).trans ((kd_t e1).trans (rfl))) hCO ho
abbrev rm_L_canCome : Room := { frames := 8, cells := 1, slots := 6, locals := 136 }
set_option maxHeartbeats 4000000 in
set_option maxRecDepth 100000 in
theorem cl_canCome {l : Launch} {G : Ids} {S : Ps} {Y : Lay} {σ : Sg} {x n o : Nat} {p : Int32} (hfl : l.stackTraces = false) (hZ : RC G S Y σ x) (hJ : Inv σ n) (hn5 : n ≤ 511) (ho : isK S 10 o) (hoN : pN S o = 1) : Ct l (Cond.codeWith yL_canCome cL_canCome 4 (some .int) [(0, 9, 12, 21)]) yL_canCome rm_L_canCome G [.ref x, .int p, .ref o] S (fun v S9 => LQ G S [(1, inZ σ p)] ((nI (canC σ (iN p))).toInt64) σ (σ) x o v S9) (fun _ _ => False) := by
  refine Ct.ofH hfl (by decide) (Nat.le_of_ble_eq_true rfl) (fun Γ V hC hR hT hI => ?_)
  first | refine r_aload_n (pc := 0) hC dL_canCome_0 rfl ?_ | refine r_aload_nN (pc := 0) hC dL_canCome_0 rfl ?_
  refine r_iconst (pc := 1) (nI 0) hC dL_canCome_1 (by decide) ?_
  first | refine r_aload_n (pc := 2) hC dL_canCome_2 rfl ?_ | refine r_aload_nN (pc := 2) hC dL_canCome_2 rfl ?_
  refine r_iload_n (pc := 3) hC dL_canCome_3 rfl ?_
  refine r_callV (pc := 4) hC (cp_canCome hC.fl hZ hJ hn5) kv_L_78 cls5 hZ.kx rfl rfl (Nat.le_of_ble_eq_true rfl) ⟨by decide, by decide, by decide, by decide⟩ dL_canCome_4 (fun E9 S9 h9 => ?_) (fun v9 S9 h9 => ?_)
  · skip
    obtain ⟨rfl, h9⟩ := h9
    obtain ⟨rfl, e0⟩ := h9
    refine at_catch (pre := []) (x := ⟨0, 9, 12, 21⟩) (suf := []) hC hT (fun z hz => absurd hz List.not_mem_nil) (by decide) (by decide) kc_L_21 kt_IOB (fun q9 => ?_)
    first | refine r_astore_n (pc := 12) hC dL_canCome_12 (by decide) ?_ | refine r_astore_nN (pc := 12) hC dL_canCome_12 (by decide) ?_
    refine r_iconst (pc := 13) (nI 1) hC dL_canCome_13 (by decide) ?_
    refine r_iret (pc := 14) hC hR dL_canCome_14 ?_ (by decide) (by decide)
    exact LQ.no (kd_f e0) (by decide) hZ
  · skip
    obtain ⟨e0, rfl, hCO⟩ := h9
    have ho9 := hCO.1.K ho
    have hN9 : pN S9 o = 1 := (hCO.1.N ho (ncP ho)).trans hoN
    refine r_i2l (pc := 7) hC dL_canCome_7 ?_
    refine r_jast (pc := 8) hC dL_canCome_8 ho9 (by rw [hN9]; decide) (by rw [hN9]; decide) ?_
    refine r_goto (pc := 9) (tgt := 15) hC dL_canCome_9 (by decide) ?_
    refine r_iconst (pc := 15) (nI 0) hC dL_canCome_15 (by decide) ?_
    refine r_iret (pc := 16) hC hR dL_canCome_16 ?_ (by decide) (by decide)
    exact LQ.ok ((kd_t e0).trans (rfl)) hCO ho
