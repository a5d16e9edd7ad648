/-! THE LAW'S CASES: a call of the class, the same of the reference, and both tell alike. -/
def ScX (Γ : Cx) (V : Vx) (b L : Nat) (xs : Nat → Int32) : Prop := va_X b L xs (cS Γ) (cS Γ).heap ∧ b < (cS Γ).heap.size ∧ ¬ V.1 b
section SCR
variable {Γ : Cx} {G : Ids} {V : Vx} {cc : ByteArray} {own : String} {rm : Room} {nL k n : Nat} {S : Ps} {lv : List (Nat × Value)} {pc : Nat} {rest : List Value} {b L j : Nat} {xs : Nat → Int32}
theorem r_sld (hC : Ctx Γ G V cc own rm nL) (hX : ScX Γ V b L xs) (hL : L ≤ 2560) (hj : j < L) (d : decode cc pc = .ok (.iaload, 1)) (kk : At Γ G V k n S lv (pc + 1) (.int (xs j) :: rest)) : At Γ G V k n S lv pc (.int (nI j) :: .ref b :: rest) := fun H locs ls hP hD hS hl => by
  have e : (nI j).toNatClampNeg = j := nI_clamp (by omega)
  refine va_sld hC.1 hC.2.1 hX.1 hX.2.1 hX.2.2 hS (fun q => q.elim (nI_pos (by omega)) (fun h => ?_)) d ?_
  · rw [e] at h; omega
  · rw [e]; exact kk H locs ls hP hD hS hl
theorem r_slen (hC : Ctx Γ G V cc own rm nL) (hX : ScX Γ V b L xs) (d : decode cc pc = .ok (.arraylength, 1)) (kk : At Γ G V k n S lv (pc + 1) (.int (nI L) :: rest)) : At Γ G V k n S lv pc (.ref b :: rest) := fun H locs ls hP hD hS hl => va_slen hC.1 hC.2.1 hX.1 hX.2.1 hX.2.2 hS d (kk H locs ls hP hD hS hl)
end SCR
/-- what holds between two calls: both objects tell the same house, which keeps all, after n calls -/
def JL (G : Ids) (S : Ps) (x m o n : Nat) : Prop := ∃ (σ : Sg) (Y : Lay) (M : Nat → Nat) (t : Nat), RC G S Y σ x ∧ RM S M σ m t ∧ Inv σ n ∧ isK S 10 o ∧ pN S o = 1
theorem JL.le {G : Ids} {S : Ps} {x m o n : Nat} (h : JL G S x m o n) : JL G S x m o (n + 1) := by
  obtain ⟨σ, Y, M, t, h1, h2, h3, h4⟩ := h
  exact ⟨σ, Y, M, t, h1, h2, h3.le (Nat.le_succ n), h4⟩
theorem cmP {S : Ps} {q : Nat} (h : cP S q) : ¬ mP S q := fun h2 => by
  unfold cP at h
  unfold mP at h2
  omega
theorem mcP {S : Ps} {q : Nat} (h : mP S q) : ¬ cP S q := fun h2 => cmP h2 h
theorem or_y {P Q R : Prop} (h : (P ∧ Q) ∨ (¬ P ∧ R)) (hp : P) : Q := h.elim (fun q => q.2) (fun q => absurd hp q.1)
theorem or_n {P Q R : Prop} (h : (P ∧ Q) ∨ (¬ P ∧ R)) (hp : ¬ P) : R := h.elim (fun q => absurd q.1 hp) (fun q => q.2)
theorem kd_z {k : Nat} {c : Bool} {t : List (Nat × Bool)} (h : kd ((k, c) :: t) = 0) (hk : k ≠ 0) : c = true ∧ kd t = 0 := by
  cases c with
  | true => exact ⟨rfl, (kd_t rfl).symm.trans h⟩
  | false => exact absurd ((kd_f rfl).symm.trans h) hk
theorem kd_le : ∀ (cs : List (Nat × Bool)), cs.all (fun q => decide (q.1 ≤ 3)) = true → kd cs ≤ 3
  | [], _ => Nat.zero_le 3
  | q :: t, h => by
    rw [List.all_cons, Bool.and_eq_true] at h
    have h1 := of_decide_eq_true h.1
    have h2 := kd_le t h.2
    unfold kd
    split
    · exact h2
    · exact h1
section LI
variable {σ : Sg} {n : Nat} {p q r s : Int32}
theorem li_addZone (hJ : Inv σ n) (h : kd [(1, inH p q r), (2, decide (nz σ < 8))] = 0) : Inv (adZ σ (iN p) (iN q) (iN r)) (n + 1) := by
  obtain ⟨e0, h⟩ := kd_z h (by decide)
  obtain ⟨e1, -⟩ := kd_z h (by decide)
  have hd := inH_d e0
  have h8 := of_decide_eq_true e1
  exact (hJ.iadZ h8 ⟨by unfold iN; omega, by unfold iN; omega⟩ (by unfold iN; omega) (by unfold iN; omega) (by unfold iN; omega)).le (Nat.le_succ n)
theorem li_setZone (hJ : Inv σ n) (h : kd [(1, inZ1 σ p), (2, inH q r s)] = 0) : Inv (stZ σ (iN p) (iN q) (iN r) (iN s)) (n + 1) := by
  obtain ⟨e0, h⟩ := kd_z h (by decide)
  obtain ⟨e1, -⟩ := kd_z h (by decide)
  have hd := inH_d e1
  have hz := inZ1_d e0
  exact (hJ.istZ (z := iN p) (by unfold iN; omega) ⟨by unfold iN; omega, by unfold iN; omega⟩ (by unfold iN; omega) (by unfold iN; omega) (by unfold iN; omega)).le (Nat.le_succ n)
theorem li_addDoor (hJ : Inv σ n) (h : kd [(1, inZ σ p), (1, inZ σ q), (2, inE p q r s), (3, decide (nd σ < 12))] = 0) : Inv (adD σ (iN p) (iN q) (iN r) (iN s)) (n + 1) := by
  obtain ⟨e0, h⟩ := kd_z h (by decide)
  obtain ⟨e1, h⟩ := kd_z h (by decide)
  obtain ⟨e2, h⟩ := kd_z h (by decide)
  obtain ⟨e3, -⟩ := kd_z h (by decide)
  have hd := inE_d e2
  have h12 := of_decide_eq_true e3
  have hp := inZ_d e0
  have hq := inZ_d e1
  exact (hJ.iadD h12 (inZ_n e0) (inZ_n e1) (by unfold iN; omega) (by unfold iN; omega) (by unfold iN; omega)).le (Nat.le_succ n)
theorem li_addBadge (hJ : Inv σ n) (h : kd [(1, wi 0 255 p), (2, decide (nb σ < 10))] = 0) : Inv (adB σ 0 (iN p)) (n + 1) := by
  obtain ⟨e0, h⟩ := kd_z h (by decide)
  obtain ⟨e1, -⟩ := kd_z h (by decide)
  have hd := wi_d e0
  exact (hJ.iadB (of_decide_eq_true e1) (Nat.zero_le _) (fun q => absurd rfl q) (by unfold iN; omega)).le (Nat.le_succ n)
theorem li_addVisitor (hJ : Inv σ n) (h : kd [(1, inB σ p), (2, decide (hst σ (iN p) = 0)), (3, decide (nb σ < 10))] = 0) : Inv (adB σ (iN p + 1) 0) (n + 1) := by
  obtain ⟨e0, h⟩ := kd_z h (by decide)
  obtain ⟨e1, h⟩ := kd_z h (by decide)
  obtain ⟨e2, -⟩ := kd_z h (by decide)
  exact (hJ.iadB (of_decide_eq_true e2) (inB_n e0) (fun _ => of_decide_eq_true e1) (Nat.zero_le _)).le (Nat.le_succ n)
theorem li_setRights (hJ : Inv σ n) (h : kd [(1, inB σ p), (2, wi 0 255 q), (3, decide (hst σ (iN p) = 0))] = 0) : Inv (up σ 11 (iN p) (iN q)) (n + 1) := by
  obtain ⟨e0, h⟩ := kd_z h (by decide)
  obtain ⟨e1, -⟩ := kd_z h (by decide)
  have hd := wi_d e1
  exact (hJ.u11 (by unfold iN; omega)).le (Nat.le_succ n)
theorem li_block {v : Bool} (hJ : Inv σ n) : Inv (blS σ (iN p) (bN v)) (n + 1) := (hJ.bl (bN_le v)).le (Nat.le_succ n)
theorem li_tick (hJ : Inv σ n) (h : kd [(1, wi 1 2000 p), (2, decide (p.toInt + mi σ ≤ 99999))] = 0) : Inv (up σ 1 0 (mi σ + iN p)) (n + 1) := by
  obtain ⟨e0, h⟩ := kd_z h (by decide)
  obtain ⟨e1, -⟩ := kd_z h (by decide)
  have hd := wi_d e0
  have h1 := of_decide_eq_true e1
  exact (hJ.mi' (by unfold iN; omega) (Nat.le_add_right _ _)).le (Nat.le_succ n)
theorem li_alarm {v : Bool} (hJ : Inv σ n) : Inv (up σ 1 1 (bN v)) (n + 1) := (hJ.al' (bN_le v)).le (Nat.le_succ n)
theorem li_request (hJ : Inv σ n) (h : kd [(1, inB σ p), (1, inD σ q)] = 0) : Inv (rqS σ (iN p) (iN q)) (n + 1) := by
  obtain ⟨e0, h⟩ := kd_z h (by decide)
  obtain ⟨e1, -⟩ := kd_z h (by decide)
  unfold rqS
  by_cases h0 : ans σ (iN p) (iN q) = 0
  · rw [if_pos h0]; exact hJ.rq (inB_n e0) (inD_n e1) (oth_lt hJ.1 (inD_n e1) (ans_0 h0))
  · rw [if_neg h0]
    by_cases h8 : ans σ (iN p) (iN q) = 8
    · rw [if_pos h8]; exact hJ.le (Nat.le_succ n)
    · rw [if_neg h8]
      exact (hJ.rf (inB_n e0) (by have h1 := ans_8 h8; have h2 := (hJ.1.vb (inB_n e0)).2.2.2.2.1; omega)).le (Nat.le_succ n)
end LI
theorem pr_cmp0 : ∀ b, b < 11 → ∀ c, c < 11 → b ≠ 0 → Op.cmpValue (FP.dcmp (FP.ddiv (FP.i2d (nI (b - c))) (FP.i2d (nI b))) (FP.ddiv (FP.i2d (nI (b - c))) (FP.i2d (nI b)))) .l = 0 := by decide +kernel
theorem pr_cmp1 : Op.cmpValue (FP.dcmp 0 0) .l = 0 := by decide +kernel
theorem pr_cmp {σ : Sg} (h : nb σ ≤ 10) : Op.cmpValue (FP.dcmp (pres σ) (pres σ)) .l = 0 := by
  unfold pres
  by_cases c : nb σ = 0
  · rw [if_pos c]; exact pr_cmp1
  · rw [if_neg c]
    have h1 := pop_nb (σ := σ) (z := 0) h
    exact pr_cmp0 _ (by omega) _ (by omega) c
set_option maxHeartbeats 4000000 in
set_option maxRecDepth 100000 in
theorem lc_addZone {Γ : Cx} {G : Ids} {V : Vx} {S : Ps} {Y : Lay} {σ : Sg} {M : Nat → Nat} {b x m o i n k s t L : Nat} {xs : Nat → Int32} (hC : Ctx Γ G V code RL room_1 9) (hX : ScX Γ V b L xs) (hL : L ≤ 2560) (hi : i + 5 ≤ L) (hn5 : n ≤ 511) (hZ : RC G S Y σ x) (hM : RM S M σ m t) (hJ : Inv σ n) (ho : isK S 10 o) (hoN : pN S o = 1) (hk : k + 20 ≤ 601024) (hs : s + 5000 ≤ 7293034) (nx : ∀ S', JL G S' x m o (n + 1) → At Γ G V (k + 20) (s + 5000) S' [(0, .ref b), (1, .ref x), (2, .ref m), (3, .ref o), (4, .int (nI i))] 1628 []) : At Γ G V k s S [(0, .ref b), (1, .ref x), (2, .ref m), (3, .ref o), (4, .int (nI i))] 152 [] := by
  have hk1 : k + 16 ≤ room_1.cells := Nat.le_trans (Nat.add_le_add_left (by decide) k) hk
  have hk2 : k + 16 + 2 ≤ room_1.cells := Nat.le_trans (Nat.add_le_add_left (show 18 ≤ 20 by decide) k) hk
  have hs1 : s + 1900 ≤ room_1.slots := Nat.le_trans (Nat.add_le_add_left (by decide) s) hs
  have hs2 : s + 1900 + 3100 ≤ room_1.slots := hs
  first | refine r_aload_n (pc := 152) hC dL_law_152 rfl ?_ | refine r_aload_nN (pc := 152) hC dL_law_152 rfl ?_
  first | refine r_aload_n (pc := 153) hC dL_law_153 rfl ?_ | refine r_aload_nN (pc := 153) hC dL_law_153 rfl ?_
  refine r_iload (pc := 154) hC dL_law_154 rfl ?_
  refine r_iconst (pc := 156) (nI 1) hC dL_law_156 (by decide) ?_
  first | refine rn_iadd (pc := 157) hC dL_law_157 ?_ | refine r_iadd (pc := 157) hC dL_law_157 ?_
  refine r_sld (pc := 158) hC hX hL (by omega) dL_law_158 ?_
  first | refine r_aload_n (pc := 159) hC dL_law_159 rfl ?_ | refine r_aload_nN (pc := 159) hC dL_law_159 rfl ?_
  refine r_iload (pc := 160) hC dL_law_160 rfl ?_
  refine r_iconst (pc := 162) (nI 2) hC dL_law_162 (by decide) ?_
  first | refine rn_iadd (pc := 163) hC dL_law_163 ?_ | refine r_iadd (pc := 163) hC dL_law_163 ?_
  refine r_sld (pc := 164) hC hX hL (by omega) dL_law_164 ?_
  first | refine r_aload_n (pc := 165) hC dL_law_165 rfl ?_ | refine r_aload_nN (pc := 165) hC dL_law_165 rfl ?_
  refine r_iload (pc := 166) hC dL_law_166 rfl ?_
  refine r_iconst (pc := 168) (nI 3) hC dL_law_168 (by decide) ?_
  first | refine rn_iadd (pc := 169) hC dL_law_169 ?_ | refine r_iadd (pc := 169) hC dL_law_169 ?_
  refine r_sld (pc := 170) hC hX hL (by omega) dL_law_170 ?_
  first | refine r_aload_n (pc := 171) hC dL_law_171 rfl ?_ | refine r_aload_nN (pc := 171) hC dL_law_171 rfl ?_
  refine r_callSW (pc := 172) hC (cl_addZone hC.fl hZ hJ hn5 ho hoN) ks_L_85 rfl rfl (Nat.le_of_ble_eq_true rfl) ⟨by decide, by decide, Nat.le_trans (Nat.add_le_add_left (show rm_L_addZone.cells ≤ 16 by decide) _) hk1, Nat.le_trans (Nat.add_le_add_left (show rm_L_addZone.slots ≤ 1900 by decide) _) hs1⟩ dL_law_172 (fun _ _ h => h.elim) (fun v1 S1 h1 => ?_)
  obtain ⟨rfl, hF1, hN1, hR1⟩ := h1
  have hM1 := hM.fr hF1 (fun q _ hp => hp.elim cmP (fun e => e ▸ ncM ho))
  have ho1 := hF1.K ho
  refine at_widen (k' := k + 16) (n' := s + 1900) (Nat.add_le_add_left (by decide) k) (Nat.add_le_add_left (by decide) s) ?_
  refine r_istore (pc := 175) hC dL_law_175 (by decide) ?_
  first | refine r_aload_n (pc := 177) hC dL_law_177 rfl ?_ | refine r_aload_nN (pc := 177) hC dL_law_177 rfl ?_
  first | refine r_aload_n (pc := 178) hC dL_law_178 rfl ?_ | refine r_aload_nN (pc := 178) hC dL_law_178 rfl ?_
  refine r_iload (pc := 179) hC dL_law_179 rfl ?_
  refine r_iconst (pc := 181) (nI 1) hC dL_law_181 (by decide) ?_
  first | refine rn_iadd (pc := 182) hC dL_law_182 ?_ | refine r_iadd (pc := 182) hC dL_law_182 ?_
  refine r_sld (pc := 183) hC hX hL (by omega) dL_law_183 ?_
  first | refine r_aload_n (pc := 184) hC dL_law_184 rfl ?_ | refine r_aload_nN (pc := 184) hC dL_law_184 rfl ?_
  refine r_iload (pc := 185) hC dL_law_185 rfl ?_
  refine r_iconst (pc := 187) (nI 2) hC dL_law_187 (by decide) ?_
  first | refine rn_iadd (pc := 188) hC dL_law_188 ?_ | refine r_iadd (pc := 188) hC dL_law_188 ?_
  refine r_sld (pc := 189) hC hX hL (by omega) dL_law_189 ?_
  first | refine r_aload_n (pc := 190) hC dL_law_190 rfl ?_ | refine r_aload_nN (pc := 190) hC dL_law_190 rfl ?_
  refine r_iload (pc := 191) hC dL_law_191 rfl ?_
  refine r_iconst (pc := 193) (nI 3) hC dL_law_193 (by decide) ?_
  first | refine rn_iadd (pc := 194) hC dL_law_194 ?_ | refine r_iadd (pc := 194) hC dL_law_194 ?_
  refine r_sld (pc := 195) hC hX hL (by omega) dL_law_195 ?_
  refine r_callV (pc := 196) hC (cq_addZone hC.fl hM1 hJ.1) kv_L_90 cls6 hM1.k6 rfl rfl (Nat.le_of_ble_eq_true rfl) ⟨by decide, by decide, Nat.le_trans (Nat.add_le_add_left (show rm_X5_addZone.cells ≤ 2 by decide) _) hk2, Nat.le_trans (Nat.add_le_add_left (show rm_X5_addZone.slots ≤ 3100 by decide) _) hs2⟩ dL_law_196 (fun _ _ h => h.elim) (fun v2 S2 h2 => ?_)
  refine at_widen (k' := k + 16 + 2) (n' := s + 1900 + 3100) (Nat.add_le_add_left (by decide) _) (Nat.add_le_add_left (by decide) _) ?_
  rcases h2 with ⟨hk0, rfl, hF2, M2, hM2⟩ | ⟨hk0, rfl, hF2, M2, hM2⟩
  · skip
    obtain ⟨⟨Y1, hZ1⟩, hv1⟩ := or_y hR1 hk0
    have hZ2 := hZ1.frM hF2 (fun q _ hp => mcP hp)
    have ho2 := hF2.K ho1
    have hN2 : pN S2 o = 1 := (hF2.N ho1 (ncM ho1)).trans (hN1.trans hoN)
    have hJ2 := li_addZone hJ hk0
    have hv2 := (congrFun (hF2.J ho1 (ncM ho1)) 0).trans hv1
    rw [hk0]
    refine r_istore (pc := 199) hC dL_law_199 (by decide) ?_
    first | refine r_aload_n (pc := 201) hC dL_law_201 rfl ?_ | refine r_aload_nN (pc := 201) hC dL_law_201 rfl ?_
    refine r_callV (pc := 202) hC (cm_thrown hC.fl hM2 hJ2.1) kv_L_91 cls6 hM2.k6 rfl rfl (Nat.le_of_ble_eq_true rfl) ⟨by decide, by decide, hk2, hs2⟩ dL_law_202 (fun _ _ h => h.elim) (fun v3 S3 h3 => ?_)
    obtain ⟨rfl, rfl⟩ := h3
    refine at_widen (k' := k + 20) (n' := s + 5000) (show k + 16 + 2 + 0 ≤ k + 20 by omega) (show s + 1900 + 3100 + 0 ≤ s + 5000 by omega) ?_
    refine r_iload (pc := 205) hC dL_law_205 rfl ?_
    refine r_icmp_eq (pc := 207) (tgt := 212) hC dL_law_207 (by decide) (fun _ => ?_) (fun c => absurd rfl c)
    refine r_iload (pc := 212) hC dL_law_212 rfl ?_
    refine rn_if_ne (pc := 214) (tgt := 229) hC dL_law_214 (by decide) (by omega) (fun c => absurd rfl c) (fun _ => ?_)
    first | refine r_aload_n (pc := 217) hC dL_law_217 rfl ?_ | refine r_aload_nN (pc := 217) hC dL_law_217 rfl ?_
    refine r_iconst (pc := 218) (nI 0) hC dL_law_218 (by decide) ?_
    refine r_jald (pc := 219) hC dL_law_219 ho2 (by rw [hN2]; decide) (by rw [hN2]; decide) hv2 ?_
    refine r_iload (pc := 220) hC dL_law_220 rfl ?_
    refine r_i2l (pc := 222) hC dL_law_222 ?_
    refine r_lcmp (pc := 223) hC dL_law_223 ?_
    rw [(lg_cmp_eq _ _).mpr rfl]
    refine r_if_eq (pc := 224) (tgt := 229) hC dL_law_224 (by decide) (fun _ => ?_) (fun c => absurd rfl c)
    refine r_goto (pc := 229) (tgt := 1628) hC dL_law_229 (by decide) ?_
    refine at_lv (lv' := [(0, .ref b), (1, .ref x), (2, .ref m), (3, .ref o), (4, .int (nI i))]) ⟨rfl, rfl, rfl, rfl, rfl, trivial⟩ ?_
    refine at_widen (k' := k + 20) (n' := s + 5000) (Nat.le_refl _) (Nat.le_refl _) ?_
    exact nx _ ⟨_, _, _, _, hZ2, hM2, hJ2, ho2, hN2⟩
  · skip
    obtain ⟨Y1, hZ1⟩ := or_n hR1 hk0
    have hZ2 := hZ1.frM hF2 (fun q _ hp => mcP hp)
    have ho2 := hF2.K ho1
    have hN2 : pN S2 o = 1 := (hF2.N ho1 (ncM ho1)).trans (hN1.trans hoN)
    have hJ2 := hJ.le (Nat.le_succ n)
    have hk3 := kd_le _ (show ([(1, inH (xs (i + 1)) (xs (i + 2)) (xs (i + 3))), (2, decide (nz σ < 8))]).all (fun q => decide (q.1 ≤ 3)) = true from rfl)
    refine r_istore (pc := 199) hC dL_law_199 (by decide) ?_
    first | refine r_aload_n (pc := 201) hC dL_law_201 rfl ?_ | refine r_aload_nN (pc := 201) hC dL_law_201 rfl ?_
    refine r_callV (pc := 202) hC (cm_thrown hC.fl hM2 hJ2.1) kv_L_91 cls6 hM2.k6 rfl rfl (Nat.le_of_ble_eq_true rfl) ⟨by decide, by decide, hk2, hs2⟩ dL_law_202 (fun _ _ h => h.elim) (fun v3 S3 h3 => ?_)
    obtain ⟨rfl, rfl⟩ := h3
    refine at_widen (k' := k + 20) (n' := s + 5000) (show k + 16 + 2 + 0 ≤ k + 20 by omega) (show s + 1900 + 3100 + 0 ≤ s + 5000 by omega) ?_
    refine r_iload (pc := 205) hC dL_law_205 rfl ?_
    refine r_icmp_eq (pc := 207) (tgt := 212) hC dL_law_207 (by decide) (fun _ => ?_) (fun c => absurd rfl c)
    refine r_iload (pc := 212) hC dL_law_212 rfl ?_
    refine rn_if_ne (pc := 214) (tgt := 229) hC dL_law_214 (by decide) (by omega) (fun _ => ?_) (fun c => absurd c hk0)
    refine r_goto (pc := 229) (tgt := 1628) hC dL_law_229 (by decide) ?_
    refine at_lv (lv' := [(0, .ref b), (1, .ref x), (2, .ref m), (3, .ref o), (4, .int (nI i))]) ⟨rfl, rfl, rfl, rfl, rfl, trivial⟩ ?_
    refine at_widen (k' := k + 20) (n' := s + 5000) (Nat.le_refl _) (Nat.le_refl _) ?_
    exact nx _ ⟨_, _, _, _, hZ2, hM2, hJ2, ho2, hN2⟩
set_option maxHeartbeats 4000000 in
set_option maxRecDepth 100000 in
theorem lc_setZone {Γ : Cx} {G : Ids} {V : Vx} {S : Ps} {Y : Lay} {σ : Sg} {M : Nat → Nat} {b x m o i n k s t L : Nat} {xs : Nat → Int32} (hC : Ctx Γ G V code RL room_1 9) (hX : ScX Γ V b L xs) (hL : L ≤ 2560) (hi : i + 5 ≤ L) (hn5 : n ≤ 511) (hZ : RC G S Y σ x) (hM : RM S M σ m t) (hJ : Inv σ n) (ho : isK S 10 o) (hoN : pN S o = 1) (hk : k + 20 ≤ 601024) (hs : s + 5000 ≤ 7293034) (nx : ∀ S', JL G S' x m o (n + 1) → At Γ G V (k + 20) (s + 5000) S' [(0, .ref b), (1, .ref x), (2, .ref m), (3, .ref o), (4, .int (nI i))] 1628 []) : At Γ G V k s S [(0, .ref b), (1, .ref x), (2, .ref m), (3, .ref o), (4, .int (nI i))] 232 [] := by
  have hk1 : k + 16 ≤ room_1.cells := Nat.le_trans (Nat.add_le_add_left (by decide) k) hk
  have hk2 : k + 16 + 2 ≤ room_1.cells := Nat.le_trans (Nat.add_le_add_left (show 18 ≤ 20 by decide) k) hk
  have hs1 : s + 1900 ≤ room_1.slots := Nat.le_trans (Nat.add_le_add_left (by decide) s) hs
  have hs2 : s + 1900 + 3100 ≤ room_1.slots := hs
  first | refine r_aload_n (pc := 232) hC dL_law_232 rfl ?_ | refine r_aload_nN (pc := 232) hC dL_law_232 rfl ?_
  first | refine r_aload_n (pc := 233) hC dL_law_233 rfl ?_ | refine r_aload_nN (pc := 233) hC dL_law_233 rfl ?_
  refine r_iload (pc := 234) hC dL_law_234 rfl ?_
  refine r_iconst (pc := 236) (nI 1) hC dL_law_236 (by decide) ?_
  first | refine rn_iadd (pc := 237) hC dL_law_237 ?_ | refine r_iadd (pc := 237) hC dL_law_237 ?_
  refine r_sld (pc := 238) hC hX hL (by omega) dL_law_238 ?_
  first | refine r_aload_n (pc := 239) hC dL_law_239 rfl ?_ | refine r_aload_nN (pc := 239) hC dL_law_239 rfl ?_
  refine r_iload (pc := 240) hC dL_law_240 rfl ?_
  refine r_iconst (pc := 242) (nI 2) hC dL_law_242 (by decide) ?_
  first | refine rn_iadd (pc := 243) hC dL_law_243 ?_ | refine r_iadd (pc := 243) hC dL_law_243 ?_
  refine r_sld (pc := 244) hC hX hL (by omega) dL_law_244 ?_
  first | refine r_aload_n (pc := 245) hC dL_law_245 rfl ?_ | refine r_aload_nN (pc := 245) hC dL_law_245 rfl ?_
  refine r_iload (pc := 246) hC dL_law_246 rfl ?_
  refine r_iconst (pc := 248) (nI 3) hC dL_law_248 (by decide) ?_
  first | refine rn_iadd (pc := 249) hC dL_law_249 ?_ | refine r_iadd (pc := 249) hC dL_law_249 ?_
  refine r_sld (pc := 250) hC hX hL (by omega) dL_law_250 ?_
  first | refine r_aload_n (pc := 251) hC dL_law_251 rfl ?_ | refine r_aload_nN (pc := 251) hC dL_law_251 rfl ?_
  refine r_iload (pc := 252) hC dL_law_252 rfl ?_
  refine r_iconst (pc := 254) (nI 4) hC dL_law_254 (by decide) ?_
  first | refine rn_iadd (pc := 255) hC dL_law_255 ?_ | refine r_iadd (pc := 255) hC dL_law_255 ?_
  refine r_sld (pc := 256) hC hX hL (by omega) dL_law_256 ?_
  first | refine r_aload_n (pc := 257) hC dL_law_257 rfl ?_ | refine r_aload_nN (pc := 257) hC dL_law_257 rfl ?_
  refine r_callSW (pc := 258) hC (cl_setZone hC.fl hZ hJ hn5 ho hoN) ks_L_95 rfl rfl (Nat.le_of_ble_eq_true rfl) ⟨by decide, by decide, Nat.le_trans (Nat.add_le_add_left (show rm_L_setZone.cells ≤ 16 by decide) _) hk1, Nat.le_trans (Nat.add_le_add_left (show rm_L_setZone.slots ≤ 1900 by decide) _) hs1⟩ dL_law_258 (fun _ _ h => h.elim) (fun v1 S1 h1 => ?_)
  obtain ⟨rfl, hF1, hN1, hR1⟩ := h1
  have hM1 := hM.fr hF1 (fun q _ hp => hp.elim cmP (fun e => e ▸ ncM ho))
  have ho1 := hF1.K ho
  refine at_widen (k' := k + 16) (n' := s + 1900) (Nat.add_le_add_left (by decide) k) (Nat.add_le_add_left (by decide) s) ?_
  refine r_istore (pc := 261) hC dL_law_261 (by decide) ?_
  first | refine r_aload_n (pc := 263) hC dL_law_263 rfl ?_ | refine r_aload_nN (pc := 263) hC dL_law_263 rfl ?_
  first | refine r_aload_n (pc := 264) hC dL_law_264 rfl ?_ | refine r_aload_nN (pc := 264) hC dL_law_264 rfl ?_
  refine r_iload (pc := 265) hC dL_law_265 rfl ?_
  refine r_iconst (pc := 267) (nI 1) hC dL_law_267 (by decide) ?_
  first | refine rn_iadd (pc := 268) hC dL_law_268 ?_ | refine r_iadd (pc := 268) hC dL_law_268 ?_
  refine r_sld (pc := 269) hC hX hL (by omega) dL_law_269 ?_
  first | refine r_aload_n (pc := 270) hC dL_law_270 rfl ?_ | refine r_aload_nN (pc := 270) hC dL_law_270 rfl ?_
  refine r_iload (pc := 271) hC dL_law_271 rfl ?_
  refine r_iconst (pc := 273) (nI 2) hC dL_law_273 (by decide) ?_
  first | refine rn_iadd (pc := 274) hC dL_law_274 ?_ | refine r_iadd (pc := 274) hC dL_law_274 ?_
  refine r_sld (pc := 275) hC hX hL (by omega) dL_law_275 ?_
  first | refine r_aload_n (pc := 276) hC dL_law_276 rfl ?_ | refine r_aload_nN (pc := 276) hC dL_law_276 rfl ?_
  refine r_iload (pc := 277) hC dL_law_277 rfl ?_
  refine r_iconst (pc := 279) (nI 3) hC dL_law_279 (by decide) ?_
  first | refine rn_iadd (pc := 280) hC dL_law_280 ?_ | refine r_iadd (pc := 280) hC dL_law_280 ?_
  refine r_sld (pc := 281) hC hX hL (by omega) dL_law_281 ?_
  first | refine r_aload_n (pc := 282) hC dL_law_282 rfl ?_ | refine r_aload_nN (pc := 282) hC dL_law_282 rfl ?_
  refine r_iload (pc := 283) hC dL_law_283 rfl ?_
  refine r_iconst (pc := 285) (nI 4) hC dL_law_285 (by decide) ?_
  first | refine rn_iadd (pc := 286) hC dL_law_286 ?_ | refine r_iadd (pc := 286) hC dL_law_286 ?_
  refine r_sld (pc := 287) hC hX hL (by omega) dL_law_287 ?_
  refine r_callV (pc := 288) hC (cq_setZone hC.fl hM1 hJ.1) kv_L_98 cls6 hM1.k6 rfl rfl (Nat.le_of_ble_eq_true rfl) ⟨by decide, by decide, Nat.le_trans (Nat.add_le_add_left (show rm_X5_setZone.cells ≤ 2 by decide) _) hk2, Nat.le_trans (Nat.add_le_add_left (show rm_X5_setZone.slots ≤ 3100 by decide) _) hs2⟩ dL_law_288 (fun _ _ h => h.elim) (fun v2 S2 h2 => ?_)
  refine at_widen (k' := k + 16 + 2) (n' := s + 1900 + 3100) (Nat.add_le_add_left (by decide) _) (Nat.add_le_add_left (by decide) _) ?_
  rcases h2 with ⟨hk0, rfl, hF2, M2, hM2⟩ | ⟨hk0, rfl, hF2, M2, hM2⟩
  · skip
    obtain ⟨⟨Y1, hZ1⟩, hv1⟩ := or_y hR1 hk0
    have hZ2 := hZ1.frM hF2 (fun q _ hp => mcP hp)
    have ho2 := hF2.K ho1
    have hN2 : pN S2 o = 1 := (hF2.N ho1 (ncM ho1)).trans (hN1.trans hoN)
    have hJ2 := li_setZone hJ hk0
    have hv2 := (congrFun (hF2.J ho1 (ncM ho1)) 0).trans hv1
    rw [hk0]
    refine r_istore (pc := 291) hC dL_law_291 (by decide) ?_
    first | refine r_aload_n (pc := 293) hC dL_law_293 rfl ?_ | refine r_aload_nN (pc := 293) hC dL_law_293 rfl ?_
    refine r_callV (pc := 294) hC (cm_thrown hC.fl hM2 hJ2.1) kv_L_91 cls6 hM2.k6 rfl rfl (Nat.le_of_ble_eq_true rfl) ⟨by decide, by decide, hk2, hs2⟩ dL_law_294 (fun _ _ h => h.elim) (fun v3 S3 h3 => ?_)
    obtain ⟨rfl, rfl⟩ := h3
    refine at_widen (k' := k + 20) (n' := s + 5000) (show k + 16 + 2 + 0 ≤ k + 20 by omega) (show s + 1900 + 3100 + 0 ≤ s + 5000 by omega) ?_
    refine r_iload (pc := 297) hC dL_law_297 rfl ?_
    refine r_icmp_eq (pc := 299) (tgt := 304) hC dL_law_299 (by decide) (fun _ => ?_) (fun c => absurd rfl c)
    refine r_iload (pc := 304) hC dL_law_304 rfl ?_
    refine rn_if_ne (pc := 306) (tgt := 321) hC dL_law_306 (by decide) (by omega) (fun c => absurd rfl c) (fun _ => ?_)
    first | refine r_aload_n (pc := 309) hC dL_law_309 rfl ?_ | refine r_aload_nN (pc := 309) hC dL_law_309 rfl ?_
    refine r_iconst (pc := 310) (nI 0) hC dL_law_310 (by decide) ?_
    refine r_jald (pc := 311) hC dL_law_311 ho2 (by rw [hN2]; decide) (by rw [hN2]; decide) hv2 ?_
    refine r_iload (pc := 312) hC dL_law_312 rfl ?_
    refine r_i2l (pc := 314) hC dL_law_314 ?_
    refine r_lcmp (pc := 315) hC dL_law_315 ?_
    rw [(lg_cmp_eq _ _).mpr rfl]
    refine r_if_eq (pc := 316) (tgt := 321) hC dL_law_316 (by decide) (fun _ => ?_) (fun c => absurd rfl c)
    refine r_goto (pc := 321) (tgt := 1628) hC dL_law_321 (by decide) ?_
    refine at_lv (lv' := [(0, .ref b), (1, .ref x), (2, .ref m), (3, .ref o), (4, .int (nI i))]) ⟨rfl, rfl, rfl, rfl, rfl, trivial⟩ ?_
    refine at_widen (k' := k + 20) (n' := s + 5000) (Nat.le_refl _) (Nat.le_refl _) ?_
    exact nx _ ⟨_, _, _, _, hZ2, hM2, hJ2, ho2, hN2⟩
  · skip
    obtain ⟨Y1, hZ1⟩ := or_n hR1 hk0
    have hZ2 := hZ1.frM hF2 (fun q _ hp => mcP hp)
    have ho2 := hF2.K ho1
    have hN2 : pN S2 o = 1 := (hF2.N ho1 (ncM ho1)).trans (hN1.trans hoN)
    have hJ2 := hJ.le (Nat.le_succ n)
    have hk3 := kd_le _ (show ([(1, inZ1 σ (xs (i + 1))), (2, inH (xs (i + 2)) (xs (i + 3)) (xs (i + 4)))]).all (fun q => decide (q.1 ≤ 3)) = true from rfl)
    refine r_istore (pc := 291) hC dL_law_291 (by decide) ?_
    first | refine r_aload_n (pc := 293) hC dL_law_293 rfl ?_ | refine r_aload_nN (pc := 293) hC dL_law_293 rfl ?_
    refine r_callV (pc := 294) hC (cm_thrown hC.fl hM2 hJ2.1) kv_L_91 cls6 hM2.k6 rfl rfl (Nat.le_of_ble_eq_true rfl) ⟨by decide, by decide, hk2, hs2⟩ dL_law_294 (fun _ _ h => h.elim) (fun v3 S3 h3 => ?_)
    obtain ⟨rfl, rfl⟩ := h3
    refine at_widen (k' := k + 20) (n' := s + 5000) (show k + 16 + 2 + 0 ≤ k + 20 by omega) (show s + 1900 + 3100 + 0 ≤ s + 5000 by omega) ?_
    refine r_iload (pc := 297) hC dL_law_297 rfl ?_
    refine r_icmp_eq (pc := 299) (tgt := 304) hC dL_law_299 (by decide) (fun _ => ?_) (fun c => absurd rfl c)
    refine r_iload (pc := 304) hC dL_law_304 rfl ?_
    refine rn_if_ne (pc := 306) (tgt := 321) hC dL_law_306 (by decide) (by omega) (fun _ => ?_) (fun c => absurd c hk0)
    refine r_goto (pc := 321) (tgt := 1628) hC dL_law_321 (by decide) ?_
    refine at_lv (lv' := [(0, .ref b), (1, .ref x), (2, .ref m), (3, .ref o), (4, .int (nI i))]) ⟨rfl, rfl, rfl, rfl, rfl, trivial⟩ ?_
    refine at_widen (k' := k + 20) (n' := s + 5000) (Nat.le_refl _) (Nat.le_refl _) ?_
    exact nx _ ⟨_, _, _, _, hZ2, hM2, hJ2, ho2, hN2⟩
set_option maxHeartbeats 4000000 in
set_option maxRecDepth 100000 in
theorem lc_addDoor {Γ : Cx} {G : Ids} {V : Vx} {S : Ps} {Y : Lay} {σ : Sg} {M : Nat → Nat} {b x m o i n k s t L : Nat} {xs : Nat → Int32} (hC : Ctx Γ G V code RL room_1 9) (hX : ScX Γ V b L xs) (hL : L ≤ 2560) (hi : i + 5 ≤ L) (hn5 : n ≤ 511) (hZ : RC G S Y σ x) (hM : RM S M σ m t) (hJ : Inv σ n) (ho : isK S 10 o) (hoN : pN S o = 1) (hk : k + 20 ≤ 601024) (hs : s + 5000 ≤ 7293034) (nx : ∀ S', JL G S' x m o (n + 1) → At Γ G V (k + 20) (s + 5000) S' [(0, .ref b), (1, .ref x), (2, .ref m), (3, .ref o), (4, .int (nI i))] 1628 []) : At Γ G V k s S [(0, .ref b), (1, .ref x), (2, .ref m), (3, .ref o), (4, .int (nI i))] 324 [] := by
  have hk1 : k + 16 ≤ room_1.cells := Nat.le_trans (Nat.add_le_add_left (by decide) k) hk
  have hk2 : k + 16 + 2 ≤ room_1.cells := Nat.le_trans (Nat.add_le_add_left (show 18 ≤ 20 by decide) k) hk
  have hs1 : s + 1900 ≤ room_1.slots := Nat.le_trans (Nat.add_le_add_left (by decide) s) hs
  have hs2 : s + 1900 + 3100 ≤ room_1.slots := hs
  first | refine r_aload_n (pc := 324) hC dL_law_324 rfl ?_ | refine r_aload_nN (pc := 324) hC dL_law_324 rfl ?_
  first | refine r_aload_n (pc := 325) hC dL_law_325 rfl ?_ | refine r_aload_nN (pc := 325) hC dL_law_325 rfl ?_
  refine r_iload (pc := 326) hC dL_law_326 rfl ?_
  refine r_iconst (pc := 328) (nI 1) hC dL_law_328 (by decide) ?_
  first | refine rn_iadd (pc := 329) hC dL_law_329 ?_ | refine r_iadd (pc := 329) hC dL_law_329 ?_
  refine r_sld (pc := 330) hC hX hL (by omega) dL_law_330 ?_
  first | refine r_aload_n (pc := 331) hC dL_law_331 rfl ?_ | refine r_aload_nN (pc := 331) hC dL_law_331 rfl ?_
  refine r_iload (pc := 332) hC dL_law_332 rfl ?_
  refine r_iconst (pc := 334) (nI 2) hC dL_law_334 (by decide) ?_
  first | refine rn_iadd (pc := 335) hC dL_law_335 ?_ | refine r_iadd (pc := 335) hC dL_law_335 ?_
  refine r_sld (pc := 336) hC hX hL (by omega) dL_law_336 ?_
  first | refine r_aload_n (pc := 337) hC dL_law_337 rfl ?_ | refine r_aload_nN (pc := 337) hC dL_law_337 rfl ?_
  refine r_iload (pc := 338) hC dL_law_338 rfl ?_
  refine r_iconst (pc := 340) (nI 3) hC dL_law_340 (by decide) ?_
  first | refine rn_iadd (pc := 341) hC dL_law_341 ?_ | refine r_iadd (pc := 341) hC dL_law_341 ?_
  refine r_sld (pc := 342) hC hX hL (by omega) dL_law_342 ?_
  first | refine r_aload_n (pc := 343) hC dL_law_343 rfl ?_ | refine r_aload_nN (pc := 343) hC dL_law_343 rfl ?_
  refine r_iload (pc := 344) hC dL_law_344 rfl ?_
  refine r_iconst (pc := 346) (nI 4) hC dL_law_346 (by decide) ?_
  first | refine rn_iadd (pc := 347) hC dL_law_347 ?_ | refine r_iadd (pc := 347) hC dL_law_347 ?_
  refine r_sld (pc := 348) hC hX hL (by omega) dL_law_348 ?_
  first | refine r_aload_n (pc := 349) hC dL_law_349 rfl ?_ | refine r_aload_nN (pc := 349) hC dL_law_349 rfl ?_
  refine r_callSW (pc := 350) hC (cl_addDoor hC.fl hZ hJ hn5 ho hoN) ks_L_99 rfl rfl (Nat.le_of_ble_eq_true rfl) ⟨by decide, by decide, Nat.le_trans (Nat.add_le_add_left (show rm_L_addDoor.cells ≤ 16 by decide) _) hk1, Nat.le_trans (Nat.add_le_add_left (show rm_L_addDoor.slots ≤ 1900 by decide) _) hs1⟩ dL_law_350 (fun _ _ h => h.elim) (fun v1 S1 h1 => ?_)
  obtain ⟨rfl, hF1, hN1, hR1⟩ := h1
  have hM1 := hM.fr hF1 (fun q _ hp => hp.elim cmP (fun e => e ▸ ncM ho))
  have ho1 := hF1.K ho
  refine at_widen (k' := k + 16) (n' := s + 1900) (Nat.add_le_add_left (by decide) k) (Nat.add_le_add_left (by decide) s) ?_
  refine r_istore (pc := 353) hC dL_law_353 (by decide) ?_
  first | refine r_aload_n (pc := 355) hC dL_law_355 rfl ?_ | refine r_aload_nN (pc := 355) hC dL_law_355 rfl ?_
  first | refine r_aload_n (pc := 356) hC dL_law_356 rfl ?_ | refine r_aload_nN (pc := 356) hC dL_law_356 rfl ?_
  refine r_iload (pc := 357) hC dL_law_357 rfl ?_
  refine r_iconst (pc := 359) (nI 1) hC dL_law_359 (by decide) ?_
  first | refine rn_iadd (pc := 360) hC dL_law_360 ?_ | refine r_iadd (pc := 360) hC dL_law_360 ?_
  refine r_sld (pc := 361) hC hX hL (by omega) dL_law_361 ?_
  first | refine r_aload_n (pc := 362) hC dL_law_362 rfl ?_ | refine r_aload_nN (pc := 362) hC dL_law_362 rfl ?_
  refine r_iload (pc := 363) hC dL_law_363 rfl ?_
  refine r_iconst (pc := 365) (nI 2) hC dL_law_365 (by decide) ?_
  first | refine rn_iadd (pc := 366) hC dL_law_366 ?_ | refine r_iadd (pc := 366) hC dL_law_366 ?_
  refine r_sld (pc := 367) hC hX hL (by omega) dL_law_367 ?_
  first | refine r_aload_n (pc := 368) hC dL_law_368 rfl ?_ | refine r_aload_nN (pc := 368) hC dL_law_368 rfl ?_
  refine r_iload (pc := 369) hC dL_law_369 rfl ?_
  refine r_iconst (pc := 371) (nI 3) hC dL_law_371 (by decide) ?_
  first | refine rn_iadd (pc := 372) hC dL_law_372 ?_ | refine r_iadd (pc := 372) hC dL_law_372 ?_
  refine r_sld (pc := 373) hC hX hL (by omega) dL_law_373 ?_
  first | refine r_aload_n (pc := 374) hC dL_law_374 rfl ?_ | refine r_aload_nN (pc := 374) hC dL_law_374 rfl ?_
  refine r_iload (pc := 375) hC dL_law_375 rfl ?_
  refine r_iconst (pc := 377) (nI 4) hC dL_law_377 (by decide) ?_
  first | refine rn_iadd (pc := 378) hC dL_law_378 ?_ | refine r_iadd (pc := 378) hC dL_law_378 ?_
  refine r_sld (pc := 379) hC hX hL (by omega) dL_law_379 ?_
  refine r_callV (pc := 380) hC (cq_addDoor hC.fl hM1 hJ.1) kv_L_101 cls6 hM1.k6 rfl rfl (Nat.le_of_ble_eq_true rfl) ⟨by decide, by decide, Nat.le_trans (Nat.add_le_add_left (show rm_X5_addDoor.cells ≤ 2 by decide) _) hk2, Nat.le_trans (Nat.add_le_add_left (show rm_X5_addDoor.slots ≤ 3100 by decide) _) hs2⟩ dL_law_380 (fun _ _ h => h.elim) (fun v2 S2 h2 => ?_)
  refine at_widen (k' := k + 16 + 2) (n' := s + 1900 + 3100) (Nat.add_le_add_left (by decide) _) (Nat.add_le_add_left (by decide) _) ?_
  rcases h2 with ⟨hk0, rfl, hF2, M2, hM2⟩ | ⟨hk0, rfl, hF2, M2, hM2⟩
  · skip
    obtain ⟨⟨Y1, hZ1⟩, hv1⟩ := or_y hR1 hk0
    have hZ2 := hZ1.frM hF2 (fun q _ hp => mcP hp)
    have ho2 := hF2.K ho1
    have hN2 : pN S2 o = 1 := (hF2.N ho1 (ncM ho1)).trans (hN1.trans hoN)
    have hJ2 := li_addDoor hJ hk0
    have hv2 := (congrFun (hF2.J ho1 (ncM ho1)) 0).trans hv1
    rw [hk0]
    refine r_istore (pc := 383) hC dL_law_383 (by decide) ?_
    first | refine r_aload_n (pc := 385) hC dL_law_385 rfl ?_ | refine r_aload_nN (pc := 385) hC dL_law_385 rfl ?_
    refine r_callV (pc := 386) hC (cm_thrown hC.fl hM2 hJ2.1) kv_L_91 cls6 hM2.k6 rfl rfl (Nat.le_of_ble_eq_true rfl) ⟨by decide, by decide, hk2, hs2⟩ dL_law_386 (fun _ _ h => h.elim) (fun v3 S3 h3 => ?_)
    obtain ⟨rfl, rfl⟩ := h3
    refine at_widen (k' := k + 20) (n' := s + 5000) (show k + 16 + 2 + 0 ≤ k + 20 by omega) (show s + 1900 + 3100 + 0 ≤ s + 5000 by omega) ?_
    refine r_iload (pc := 389) hC dL_law_389 rfl ?_
    refine r_icmp_eq (pc := 391) (tgt := 396) hC dL_law_391 (by decide) (fun _ => ?_) (fun c => absurd rfl c)
    refine r_iload (pc := 396) hC dL_law_396 rfl ?_
    refine rn_if_ne (pc := 398) (tgt := 413) hC dL_law_398 (by decide) (by omega) (fun c => absurd rfl c) (fun _ => ?_)
    first | refine r_aload_n (pc := 401) hC dL_law_401 rfl ?_ | refine r_aload_nN (pc := 401) hC dL_law_401 rfl ?_
    refine r_iconst (pc := 402) (nI 0) hC dL_law_402 (by decide) ?_
    refine r_jald (pc := 403) hC dL_law_403 ho2 (by rw [hN2]; decide) (by rw [hN2]; decide) hv2 ?_
    refine r_iload (pc := 404) hC dL_law_404 rfl ?_
    refine r_i2l (pc := 406) hC dL_law_406 ?_
    refine r_lcmp (pc := 407) hC dL_law_407 ?_
    rw [(lg_cmp_eq _ _).mpr rfl]
    refine r_if_eq (pc := 408) (tgt := 413) hC dL_law_408 (by decide) (fun _ => ?_) (fun c => absurd rfl c)
    refine r_goto (pc := 413) (tgt := 1628) hC dL_law_413 (by decide) ?_
    refine at_lv (lv' := [(0, .ref b), (1, .ref x), (2, .ref m), (3, .ref o), (4, .int (nI i))]) ⟨rfl, rfl, rfl, rfl, rfl, trivial⟩ ?_
    refine at_widen (k' := k + 20) (n' := s + 5000) (Nat.le_refl _) (Nat.le_refl _) ?_
    exact nx _ ⟨_, _, _, _, hZ2, hM2, hJ2, ho2, hN2⟩
  · skip
    obtain ⟨Y1, hZ1⟩ := or_n hR1 hk0
    have hZ2 := hZ1.frM hF2 (fun q _ hp => mcP hp)
    have ho2 := hF2.K ho1
    have hN2 : pN S2 o = 1 := (hF2.N ho1 (ncM ho1)).trans (hN1.trans hoN)
    have hJ2 := hJ.le (Nat.le_succ n)
    have hk3 := kd_le _ (show ([(1, inZ σ (xs (i + 1))), (1, inZ σ (xs (i + 2))), (2, inE (xs (i + 1)) (xs (i + 2)) (xs (i + 3)) (xs (i + 4))), (3, decide (nd σ < 12))]).all (fun q => decide (q.1 ≤ 3)) = true from rfl)
    refine r_istore (pc := 383) hC dL_law_383 (by decide) ?_
    first | refine r_aload_n (pc := 385) hC dL_law_385 rfl ?_ | refine r_aload_nN (pc := 385) hC dL_law_385 rfl ?_
    refine r_callV (pc := 386) hC (cm_thrown hC.fl hM2 hJ2.1) kv_L_91 cls6 hM2.k6 rfl rfl (Nat.le_of_ble_eq_true rfl) ⟨by decide, by decide, hk2, hs2⟩ dL_law_386 (fun _ _ h => h.elim) (fun v3 S3 h3 => ?_)
    obtain ⟨rfl, rfl⟩ := h3
    refine at_widen (k' := k + 20) (n' := s + 5000) (show k + 16 + 2 + 0 ≤ k + 20 by omega) (show s + 1900 + 3100 + 0 ≤ s + 5000 by omega) ?_
    refine r_iload (pc := 389) hC dL_law_389 rfl ?_
    refine r_icmp_eq (pc := 391) (tgt := 396) hC dL_law_391 (by decide) (fun _ => ?_) (fun c => absurd rfl c)
    refine r_iload (pc := 396) hC dL_law_396 rfl ?_
    refine rn_if_ne (pc := 398) (tgt := 413) hC dL_law_398 (by decide) (by omega) (fun _ => ?_) (fun c => absurd c hk0)
    refine r_goto (pc := 413) (tgt := 1628) hC dL_law_413 (by decide) ?_
    refine at_lv (lv' := [(0, .ref b), (1, .ref x), (2, .ref m), (3, .ref o), (4, .int (nI i))]) ⟨rfl, rfl, rfl, rfl, rfl, trivial⟩ ?_
    refine at_widen (k' := k + 20) (n' := s + 5000) (Nat.le_refl _) (Nat.le_refl _) ?_
    exact nx _ ⟨_, _, _, _, hZ2, hM2, hJ2, ho2, hN2⟩
set_option maxHeartbeats 4000000 in
set_option maxRecDepth 100000 in
theorem lc_distance {Γ : Cx} {G : Ids} {V : Vx} {S : Ps} {Y : Lay} {σ : Sg} {M : Nat → Nat} {b x m o i n k s t L : Nat} {xs : Nat → Int32} (hC : Ctx Γ G V code RL room_1 9) (hX : ScX Γ V b L xs) (hL : L ≤ 2560) (hi : i + 5 ≤ L) (hn5 : n ≤ 511) (hZ : RC G S Y σ x) (hM : RM S M σ m t) (hJ : Inv σ n) (ho : isK S 10 o) (hoN : pN S o = 1) (hk : k + 20 ≤ 601024) (hs : s + 5000 ≤ 7293034) (nx : ∀ S', JL G S' x m o (n + 1) → At Γ G V (k + 20) (s + 5000) S' [(0, .ref b), (1, .ref x), (2, .ref m), (3, .ref o), (4, .int (nI i))] 1628 []) : At Γ G V k s S [(0, .ref b), (1, .ref x), (2, .ref m), (3, .ref o), (4, .int (nI i))] 416 [] := by
  have hk1 : k + 16 ≤ room_1.cells := Nat.le_trans (Nat.add_le_add_left (by decide) k) hk
  have hk2 : k + 16 + 2 ≤ room_1.cells := Nat.le_trans (Nat.add_le_add_left (show 18 ≤ 20 by decide) k) hk
  have hs1 : s + 1900 ≤ room_1.slots := Nat.le_trans (Nat.add_le_add_left (by decide) s) hs
  have hs2 : s + 1900 + 3100 ≤ room_1.slots := hs
  first | refine r_aload_n (pc := 416) hC dL_law_416 rfl ?_ | refine r_aload_nN (pc := 416) hC dL_law_416 rfl ?_
  first | refine r_aload_n (pc := 417) hC dL_law_417 rfl ?_ | refine r_aload_nN (pc := 417) hC dL_law_417 rfl ?_
  refine r_iload (pc := 418) hC dL_law_418 rfl ?_
  refine r_iconst (pc := 420) (nI 1) hC dL_law_420 (by decide) ?_
  first | refine rn_iadd (pc := 421) hC dL_law_421 ?_ | refine r_iadd (pc := 421) hC dL_law_421 ?_
  refine r_sld (pc := 422) hC hX hL (by omega) dL_law_422 ?_
  first | refine r_aload_n (pc := 423) hC dL_law_423 rfl ?_ | refine r_aload_nN (pc := 423) hC dL_law_423 rfl ?_
  refine r_callSW (pc := 424) hC (cl_distance hC.fl hZ hJ hn5 ho hoN) ks_L_102 rfl rfl (Nat.le_of_ble_eq_true rfl) ⟨by decide, by decide, Nat.le_trans (Nat.add_le_add_left (show rm_L_distance.cells ≤ 16 by decide) _) hk1, Nat.le_trans (Nat.add_le_add_left (show rm_L_distance.slots ≤ 1900 by decide) _) hs1⟩ dL_law_424 (fun _ _ h => h.elim) (fun v1 S1 h1 => ?_)
  obtain ⟨rfl, hF1, hN1, hR1⟩ := h1
  have hM1 := hM.fr hF1 (fun q _ hp => hp.elim cmP (fun e => e ▸ ncM ho))
  have ho1 := hF1.K ho
  refine at_widen (k' := k + 16) (n' := s + 1900) (Nat.add_le_add_left (by decide) k) (Nat.add_le_add_left (by decide) s) ?_
  refine r_istore (pc := 427) hC dL_law_427 (by decide) ?_
  first | refine r_aload_n (pc := 429) hC dL_law_429 rfl ?_ | refine r_aload_nN (pc := 429) hC dL_law_429 rfl ?_
  first | refine r_aload_n (pc := 430) hC dL_law_430 rfl ?_ | refine r_aload_nN (pc := 430) hC dL_law_430 rfl ?_
  refine r_iload (pc := 431) hC dL_law_431 rfl ?_
  refine r_iconst (pc := 433) (nI 1) hC dL_law_433 (by decide) ?_
  first | refine rn_iadd (pc := 434) hC dL_law_434 ?_ | refine r_iadd (pc := 434) hC dL_law_434 ?_
  refine r_sld (pc := 435) hC hX hL (by omega) dL_law_435 ?_
  refine r_callV (pc := 436) hC (cq_distance hC.fl hM1 hJ.1) kv_L_105 cls6 hM1.k6 rfl rfl (Nat.le_of_ble_eq_true rfl) ⟨by decide, by decide, Nat.le_trans (Nat.add_le_add_left (show rm_X5_distance.cells ≤ 2 by decide) _) hk2, Nat.le_trans (Nat.add_le_add_left (show rm_X5_distance.slots ≤ 3100 by decide) _) hs2⟩ dL_law_436 (fun _ _ h => h.elim) (fun v2 S2 h2 => ?_)
  refine at_widen (k' := k + 16 + 2) (n' := s + 1900 + 3100) (Nat.add_le_add_left (by decide) _) (Nat.add_le_add_left (by decide) _) ?_
  rcases h2 with ⟨hk0, rfl, hF2, M2, hM2⟩ | ⟨hk0, rfl, hF2, M2, hM2⟩
  · skip
    obtain ⟨⟨Y1, hZ1⟩, hv1⟩ := or_y hR1 hk0
    have hZ2 := hZ1.frM hF2 (fun q _ hp => mcP hp)
    have ho2 := hF2.K ho1
    have hN2 : pN S2 o = 1 := (hF2.N ho1 (ncM ho1)).trans (hN1.trans hoN)
    have hJ2 := hJ.le (Nat.le_succ n)
    have hv2 := (congrFun (hF2.J ho1 (ncM ho1)) 0).trans hv1
    rw [hk0]
    refine r_istore (pc := 439) hC dL_law_439 (by decide) ?_
    first | refine r_aload_n (pc := 441) hC dL_law_441 rfl ?_ | refine r_aload_nN (pc := 441) hC dL_law_441 rfl ?_
    refine r_callV (pc := 442) hC (cm_thrown hC.fl hM2 hJ2.1) kv_L_91 cls6 hM2.k6 rfl rfl (Nat.le_of_ble_eq_true rfl) ⟨by decide, by decide, hk2, hs2⟩ dL_law_442 (fun _ _ h => h.elim) (fun v3 S3 h3 => ?_)
    obtain ⟨rfl, rfl⟩ := h3
    refine at_widen (k' := k + 20) (n' := s + 5000) (show k + 16 + 2 + 0 ≤ k + 20 by omega) (show s + 1900 + 3100 + 0 ≤ s + 5000 by omega) ?_
    refine r_iload (pc := 445) hC dL_law_445 rfl ?_
    refine r_icmp_eq (pc := 447) (tgt := 452) hC dL_law_447 (by decide) (fun _ => ?_) (fun c => absurd rfl c)
    refine r_iload (pc := 452) hC dL_law_452 rfl ?_
    refine rn_if_ne (pc := 454) (tgt := 469) hC dL_law_454 (by decide) (by omega) (fun c => absurd rfl c) (fun _ => ?_)
    first | refine r_aload_n (pc := 457) hC dL_law_457 rfl ?_ | refine r_aload_nN (pc := 457) hC dL_law_457 rfl ?_
    refine r_iconst (pc := 458) (nI 0) hC dL_law_458 (by decide) ?_
    refine r_jald (pc := 459) hC dL_law_459 ho2 (by rw [hN2]; decide) (by rw [hN2]; decide) hv2 ?_
    refine r_iload (pc := 460) hC dL_law_460 rfl ?_
    refine r_i2l (pc := 462) hC dL_law_462 ?_
    refine r_lcmp (pc := 463) hC dL_law_463 ?_
    rw [(lg_cmp_eq _ _).mpr rfl]
    refine r_if_eq (pc := 464) (tgt := 469) hC dL_law_464 (by decide) (fun _ => ?_) (fun c => absurd rfl c)
    refine r_goto (pc := 469) (tgt := 1628) hC dL_law_469 (by decide) ?_
    refine at_lv (lv' := [(0, .ref b), (1, .ref x), (2, .ref m), (3, .ref o), (4, .int (nI i))]) ⟨rfl, rfl, rfl, rfl, rfl, trivial⟩ ?_
    refine at_widen (k' := k + 20) (n' := s + 5000) (Nat.le_refl _) (Nat.le_refl _) ?_
    exact nx _ ⟨_, _, _, _, hZ2, hM2, hJ2, ho2, hN2⟩
  · skip
    obtain ⟨Y1, hZ1⟩ := or_n hR1 hk0
    have hZ2 := hZ1.frM hF2 (fun q _ hp => mcP hp)
    have ho2 := hF2.K ho1
    have hN2 : pN S2 o = 1 := (hF2.N ho1 (ncM ho1)).trans (hN1.trans hoN)
    have hJ2 := hJ.le (Nat.le_succ n)
    have hk3 := kd_le _ (show ([(1, inZ σ (xs (i + 1)))]).all (fun q => decide (q.1 ≤ 3)) = true from rfl)
    refine r_istore (pc := 439) hC dL_law_439 (by decide) ?_
    first | refine r_aload_n (pc := 441) hC dL_law_441 rfl ?_ | refine r_aload_nN (pc := 441) hC dL_law_441 rfl ?_
    refine r_callV (pc := 442) hC (cm_thrown hC.fl hM2 hJ2.1) kv_L_91 cls6 hM2.k6 rfl rfl (Nat.le_of_ble_eq_true rfl) ⟨by decide, by decide, hk2, hs2⟩ dL_law_442 (fun _ _ h => h.elim) (fun v3 S3 h3 => ?_)
    obtain ⟨rfl, rfl⟩ := h3
    refine at_widen (k' := k + 20) (n' := s + 5000) (show k + 16 + 2 + 0 ≤ k + 20 by omega) (show s + 1900 + 3100 + 0 ≤ s + 5000 by omega) ?_
    refine r_iload (pc := 445) hC dL_law_445 rfl ?_
    refine r_icmp_eq (pc := 447) (tgt := 452) hC dL_law_447 (by decide) (fun _ => ?_) (fun c => absurd rfl c)
    refine r_iload (pc := 452) hC dL_law_452 rfl ?_
    refine rn_if_ne (pc := 454) (tgt := 469) hC dL_law_454 (by decide) (by omega) (fun _ => ?_) (fun c => absurd c hk0)
    refine r_goto (pc := 469) (tgt := 1628) hC dL_law_469 (by decide) ?_
    refine at_lv (lv' := [(0, .ref b), (1, .ref x), (2, .ref m), (3, .ref o), (4, .int (nI i))]) ⟨rfl, rfl, rfl, rfl, rfl, trivial⟩ ?_
    refine at_widen (k' := k + 20) (n' := s + 5000) (Nat.le_refl _) (Nat.le_refl _) ?_
    exact nx _ ⟨_, _, _, _, hZ2, hM2, hJ2, ho2, hN2⟩
set_option maxHeartbeats 4000000 in
set_option maxRecDepth 100000 in
theorem lc_isOpen {Γ : Cx} {G : Ids} {V : Vx} {S : Ps} {Y : Lay} {σ : Sg} {M : Nat → Nat} {b x m o i n k s t L : Nat} {xs : Nat → Int32} (hC : Ctx Γ G V code RL room_1 9) (hX : ScX Γ V b L xs) (hL : L ≤ 2560) (hi : i + 5 ≤ L) (hn5 : n ≤ 511) (hZ : RC G S Y σ x) (hM : RM S M σ m t) (hJ : Inv σ n) (ho : isK S 10 o) (hoN : pN S o = 1) (hk : k + 20 ≤ 601024) (hs : s + 5000 ≤ 7293034) (nx : ∀ S', JL G S' x m o (n + 1) → At Γ G V (k + 20) (s + 5000) S' [(0, .ref b), (1, .ref x), (2, .ref m), (3, .ref o), (4, .int (nI i))] 1628 []) : At Γ G V k s S [(0, .ref b), (1, .ref x), (2, .ref m), (3, .ref o), (4, .int (nI i))] 472 [] := by
  have hk1 : k + 16 ≤ room_1.cells := Nat.le_trans (Nat.add_le_add_left (by decide) k) hk
  have hk2 : k + 16 + 2 ≤ room_1.cells := Nat.le_trans (Nat.add_le_add_left (show 18 ≤ 20 by decide) k) hk
  have hs1 : s + 1900 ≤ room_1.slots := Nat.le_trans (Nat.add_le_add_left (by decide) s) hs
  have hs2 : s + 1900 + 3100 ≤ room_1.slots := hs
  first | refine r_aload_n (pc := 472) hC dL_law_472 rfl ?_ | refine r_aload_nN (pc := 472) hC dL_law_472 rfl ?_
  first | refine r_aload_n (pc := 473) hC dL_law_473 rfl ?_ | refine r_aload_nN (pc := 473) hC dL_law_473 rfl ?_
  refine r_iload (pc := 474) hC dL_law_474 rfl ?_
  refine r_iconst (pc := 476) (nI 1) hC dL_law_476 (by decide) ?_
  first | refine rn_iadd (pc := 477) hC dL_law_477 ?_ | refine r_iadd (pc := 477) hC dL_law_477 ?_
  refine r_sld (pc := 478) hC hX hL (by omega) dL_law_478 ?_
  first | refine r_aload_n (pc := 479) hC dL_law_479 rfl ?_ | refine r_aload_nN (pc := 479) hC dL_law_479 rfl ?_
  refine r_callSW (pc := 480) hC (cl_isOpen hC.fl hZ hJ hn5 ho hoN) ks_L_106 rfl rfl (Nat.le_of_ble_eq_true rfl) ⟨by decide, by decide, Nat.le_trans (Nat.add_le_add_left (show rm_L_isOpen.cells ≤ 16 by decide) _) hk1, Nat.le_trans (Nat.add_le_add_left (show rm_L_isOpen.slots ≤ 1900 by decide) _) hs1⟩ dL_law_480 (fun _ _ h => h.elim) (fun v1 S1 h1 => ?_)
  obtain ⟨rfl, hF1, hN1, hR1⟩ := h1
  have hM1 := hM.fr hF1 (fun q _ hp => hp.elim cmP (fun e => e ▸ ncM ho))
  have ho1 := hF1.K ho
  refine at_widen (k' := k + 16) (n' := s + 1900) (Nat.add_le_add_left (by decide) k) (Nat.add_le_add_left (by decide) s) ?_
  refine r_istore (pc := 483) hC dL_law_483 (by decide) ?_
  first | refine r_aload_n (pc := 485) hC dL_law_485 rfl ?_ | refine r_aload_nN (pc := 485) hC dL_law_485 rfl ?_
  first | refine r_aload_n (pc := 486) hC dL_law_486 rfl ?_ | refine r_aload_nN (pc := 486) hC dL_law_486 rfl ?_
  refine r_iload (pc := 487) hC dL_law_487 rfl ?_
  refine r_iconst (pc := 489) (nI 1) hC dL_law_489 (by decide) ?_
  first | refine rn_iadd (pc := 490) hC dL_law_490 ?_ | refine r_iadd (pc := 490) hC dL_law_490 ?_
  refine r_sld (pc := 491) hC hX hL (by omega) dL_law_491 ?_
  refine r_callV (pc := 492) hC (cq_isOpen hC.fl hM1 hJ.1) kv_L_108 cls6 hM1.k6 rfl rfl (Nat.le_of_ble_eq_true rfl) ⟨by decide, by decide, Nat.le_trans (Nat.add_le_add_left (show rm_X5_isOpen.cells ≤ 2 by decide) _) hk2, Nat.le_trans (Nat.add_le_add_left (show rm_X5_isOpen.slots ≤ 3100 by decide) _) hs2⟩ dL_law_492 (fun _ _ h => h.elim) (fun v2 S2 h2 => ?_)
  refine at_widen (k' := k + 16 + 2) (n' := s + 1900 + 3100) (Nat.add_le_add_left (by decide) _) (Nat.add_le_add_left (by decide) _) ?_
  rcases h2 with ⟨hk0, rfl, hF2, M2, hM2⟩ | ⟨hk0, rfl, hF2, M2, hM2⟩
  · skip
    obtain ⟨⟨Y1, hZ1⟩, hv1⟩ := or_y hR1 hk0
    have hZ2 := hZ1.frM hF2 (fun q _ hp => mcP hp)
    have ho2 := hF2.K ho1
    have hN2 : pN S2 o = 1 := (hF2.N ho1 (ncM ho1)).trans (hN1.trans hoN)
    have hJ2 := hJ.le (Nat.le_succ n)
    have hv2 := (congrFun (hF2.J ho1 (ncM ho1)) 0).trans hv1
    rw [hk0]
    refine r_istore (pc := 495) hC dL_law_495 (by decide) ?_
    first | refine r_aload_n (pc := 497) hC dL_law_497 rfl ?_ | refine r_aload_nN (pc := 497) hC dL_law_497 rfl ?_
    refine r_callV (pc := 498) hC (cm_thrown hC.fl hM2 hJ2.1) kv_L_91 cls6 hM2.k6 rfl rfl (Nat.le_of_ble_eq_true rfl) ⟨by decide, by decide, hk2, hs2⟩ dL_law_498 (fun _ _ h => h.elim) (fun v3 S3 h3 => ?_)
    obtain ⟨rfl, rfl⟩ := h3
    refine at_widen (k' := k + 20) (n' := s + 5000) (show k + 16 + 2 + 0 ≤ k + 20 by omega) (show s + 1900 + 3100 + 0 ≤ s + 5000 by omega) ?_
    refine r_iload (pc := 501) hC dL_law_501 rfl ?_
    refine r_icmp_eq (pc := 503) (tgt := 508) hC dL_law_503 (by decide) (fun _ => ?_) (fun c => absurd rfl c)
    refine r_iload (pc := 508) hC dL_law_508 rfl ?_
    refine rn_if_ne (pc := 510) (tgt := 532) hC dL_law_510 (by decide) (by omega) (fun c => absurd rfl c) (fun _ => ?_)
    first | refine r_aload_n (pc := 513) hC dL_law_513 rfl ?_ | refine r_aload_nN (pc := 513) hC dL_law_513 rfl ?_
    refine r_iconst (pc := 514) (nI 0) hC dL_law_514 (by decide) ?_
    refine r_jald (pc := 515) hC dL_law_515 ho2 (by rw [hN2]; decide) (by rw [hN2]; decide) hv2 ?_
    refine r_iload (pc := 516) hC dL_law_516 rfl ?_
    first | refine rb_if_eq (pc := 518) (tgt := 525) hC dL_law_518 (by decide) (fun c518 => ?_) (fun c518 => ?_) | refine rn_if_eq (pc := 518) (tgt := 525) hC dL_law_518 (by decide) (by omega) (fun c518 => ?_) (fun c518 => ?_) | refine ri_if_eq (pc := 518) (tgt := 525) hC dL_law_518 (by decide) (fun c518 => ?_) (fun c518 => ?_)
    · -- taken
      refine r_lconst (pc := 525) (0) hC dL_law_525 (by decide) ?_
      first | rw [tI_1 _ c518] | rw [tI_0 _ c518]
      refine r_lcmp (pc := 526) hC dL_law_526 ?_
      rw [(lg_cmp_eq _ _).mpr rfl]
      refine r_if_eq (pc := 527) (tgt := 532) hC dL_law_527 (by decide) (fun _ => ?_) (fun c => absurd rfl c)
      refine r_goto (pc := 532) (tgt := 1628) hC dL_law_532 (by decide) ?_
      refine at_lv (lv' := [(0, .ref b), (1, .ref x), (2, .ref m), (3, .ref o), (4, .int (nI i))]) ⟨rfl, rfl, rfl, rfl, rfl, trivial⟩ ?_
      refine at_widen (k' := k + 20) (n' := s + 5000) (Nat.le_refl _) (Nat.le_refl _) ?_
      exact nx _ ⟨_, _, _, _, hZ2, hM2, hJ2, ho2, hN2⟩
    · -- not
      refine r_lconst (pc := 521) (1) hC dL_law_521 (by decide) ?_
      refine r_goto (pc := 522) (tgt := 526) hC dL_law_522 (by decide) ?_
      first | rw [tI_1 _ c518] | rw [tI_0 _ c518]
      refine r_lcmp (pc := 526) hC dL_law_526 ?_
      rw [(lg_cmp_eq _ _).mpr rfl]
      refine r_if_eq (pc := 527) (tgt := 532) hC dL_law_527 (by decide) (fun _ => ?_) (fun c => absurd rfl c)
      refine r_goto (pc := 532) (tgt := 1628) hC dL_law_532 (by decide) ?_
      refine at_lv (lv' := [(0, .ref b), (1, .ref x), (2, .ref m), (3, .ref o), (4, .int (nI i))]) ⟨rfl, rfl, rfl, rfl, rfl, trivial⟩ ?_
      refine at_widen (k' := k + 20) (n' := s + 5000) (Nat.le_refl _) (Nat.le_refl _) ?_
      exact nx _ ⟨_, _, _, _, hZ2, hM2, hJ2, ho2, hN2⟩
  · skip
    obtain ⟨Y1, hZ1⟩ := or_n hR1 hk0
    have hZ2 := hZ1.frM hF2 (fun q _ hp => mcP hp)
    have ho2 := hF2.K ho1
    have hN2 : pN S2 o = 1 := (hF2.N ho1 (ncM ho1)).trans (hN1.trans hoN)
    have hJ2 := hJ.le (Nat.le_succ n)
    have hk3 := kd_le _ (show ([(1, inZ σ (xs (i + 1)))]).all (fun q => decide (q.1 ≤ 3)) = true from rfl)
    refine r_istore (pc := 495) hC dL_law_495 (by decide) ?_
    first | refine r_aload_n (pc := 497) hC dL_law_497 rfl ?_ | refine r_aload_nN (pc := 497) hC dL_law_497 rfl ?_
    refine r_callV (pc := 498) hC (cm_thrown hC.fl hM2 hJ2.1) kv_L_91 cls6 hM2.k6 rfl rfl (Nat.le_of_ble_eq_true rfl) ⟨by decide, by decide, hk2, hs2⟩ dL_law_498 (fun _ _ h => h.elim) (fun v3 S3 h3 => ?_)
    obtain ⟨rfl, rfl⟩ := h3
    refine at_widen (k' := k + 20) (n' := s + 5000) (show k + 16 + 2 + 0 ≤ k + 20 by omega) (show s + 1900 + 3100 + 0 ≤ s + 5000 by omega) ?_
    refine r_iload (pc := 501) hC dL_law_501 rfl ?_
    refine r_icmp_eq (pc := 503) (tgt := 508) hC dL_law_503 (by decide) (fun _ => ?_) (fun c => absurd rfl c)
    refine r_iload (pc := 508) hC dL_law_508 rfl ?_
    refine rn_if_ne (pc := 510) (tgt := 532) hC dL_law_510 (by decide) (by omega) (fun _ => ?_) (fun c => absurd c hk0)
    refine r_goto (pc := 532) (tgt := 1628) hC dL_law_532 (by decide) ?_
    refine at_lv (lv' := [(0, .ref b), (1, .ref x), (2, .ref m), (3, .ref o), (4, .int (nI i))]) ⟨rfl, rfl, rfl, rfl, rfl, trivial⟩ ?_
    refine at_widen (k' := k + 20) (n' := s + 5000) (Nat.le_refl _) (Nat.le_refl _) ?_
    exact nx _ ⟨_, _, _, _, hZ2, hM2, hJ2, ho2, hN2⟩
set_option maxHeartbeats 4000000 in
set_option maxRecDepth 100000 in
theorem lc_openFor {Γ : Cx} {G : Ids} {V : Vx} {S : Ps} {Y : Lay} {σ : Sg} {M : Nat → Nat} {b x m o i n k s t L : Nat} {xs : Nat → Int32} (hC : Ctx Γ G V code RL room_1 9) (hX : ScX Γ V b L xs) (hL : L ≤ 2560) (hi : i + 5 ≤ L) (hn5 : n ≤ 511) (hZ : RC G S Y σ x) (hM : RM S M σ m t) (hJ : Inv σ n) (ho : isK S 10 o) (hoN : pN S o = 1) (hk : k + 20 ≤ 601024) (hs : s + 5000 ≤ 7293034) (nx : ∀ S', JL G S' x m o (n + 1) → At Γ G V (k + 20) (s + 5000) S' [(0, .ref b), (1, .ref x), (2, .ref m), (3, .ref o), (4, .int (nI i))] 1628 []) : At Γ G V k s S [(0, .ref b), (1, .ref x), (2, .ref m), (3, .ref o), (4, .int (nI i))] 535 [] := by
  have hk1 : k + 16 ≤ room_1.cells := Nat.le_trans (Nat.add_le_add_left (by decide) k) hk
  have hk2 : k + 16 + 2 ≤ room_1.cells := Nat.le_trans (Nat.add_le_add_left (show 18 ≤ 20 by decide) k) hk
  have hs1 : s + 1900 ≤ room_1.slots := Nat.le_trans (Nat.add_le_add_left (by decide) s) hs
  have hs2 : s + 1900 + 3100 ≤ room_1.slots := hs
  first | refine r_aload_n (pc := 535) hC dL_law_535 rfl ?_ | refine r_aload_nN (pc := 535) hC dL_law_535 rfl ?_
  first | refine r_aload_n (pc := 536) hC dL_law_536 rfl ?_ | refine r_aload_nN (pc := 536) hC dL_law_536 rfl ?_
  refine r_iload (pc := 537) hC dL_law_537 rfl ?_
  refine r_iconst (pc := 539) (nI 1) hC dL_law_539 (by decide) ?_
  first | refine rn_iadd (pc := 540) hC dL_law_540 ?_ | refine r_iadd (pc := 540) hC dL_law_540 ?_
  refine r_sld (pc := 541) hC hX hL (by omega) dL_law_541 ?_
  first | refine r_aload_n (pc := 542) hC dL_law_542 rfl ?_ | refine r_aload_nN (pc := 542) hC dL_law_542 rfl ?_
  refine r_callSW (pc := 543) hC (cl_openFor hC.fl hZ hJ hn5 ho hoN) ks_L_109 rfl rfl (Nat.le_of_ble_eq_true rfl) ⟨by decide, by decide, Nat.le_trans (Nat.add_le_add_left (show rm_L_openFor.cells ≤ 16 by decide) _) hk1, Nat.le_trans (Nat.add_le_add_left (show rm_L_openFor.slots ≤ 1900 by decide) _) hs1⟩ dL_law_543 (fun _ _ h => h.elim) (fun v1 S1 h1 => ?_)
  obtain ⟨rfl, hF1, hN1, hR1⟩ := h1
  have hM1 := hM.fr hF1 (fun q _ hp => hp.elim cmP (fun e => e ▸ ncM ho))
  have ho1 := hF1.K ho
  refine at_widen (k' := k + 16) (n' := s + 1900) (Nat.add_le_add_left (by decide) k) (Nat.add_le_add_left (by decide) s) ?_
  refine r_istore (pc := 546) hC dL_law_546 (by decide) ?_
  first | refine r_aload_n (pc := 548) hC dL_law_548 rfl ?_ | refine r_aload_nN (pc := 548) hC dL_law_548 rfl ?_
  first | refine r_aload_n (pc := 549) hC dL_law_549 rfl ?_ | refine r_aload_nN (pc := 549) hC dL_law_549 rfl ?_
  refine r_iload (pc := 550) hC dL_law_550 rfl ?_
  refine r_iconst (pc := 552) (nI 1) hC dL_law_552 (by decide) ?_
  first | refine rn_iadd (pc := 553) hC dL_law_553 ?_ | refine r_iadd (pc := 553) hC dL_law_553 ?_
  refine r_sld (pc := 554) hC hX hL (by omega) dL_law_554 ?_
  refine r_callV (pc := 555) hC (cq_openFor hC.fl hM1 hJ.1) kv_L_111 cls6 hM1.k6 rfl rfl (Nat.le_of_ble_eq_true rfl) ⟨by decide, by decide, Nat.le_trans (Nat.add_le_add_left (show rm_X5_openFor.cells ≤ 2 by decide) _) hk2, Nat.le_trans (Nat.add_le_add_left (show rm_X5_openFor.slots ≤ 3100 by decide) _) hs2⟩ dL_law_555 (fun _ _ h => h.elim) (fun v2 S2 h2 => ?_)
  refine at_widen (k' := k + 16 + 2) (n' := s + 1900 + 3100) (Nat.add_le_add_left (by decide) _) (Nat.add_le_add_left (by decide) _) ?_
  rcases h2 with ⟨hk0, rfl, hF2, M2, hM2⟩ | ⟨hk0, rfl, hF2, M2, hM2⟩
  · skip
    obtain ⟨⟨Y1, hZ1⟩, hv1⟩ := or_y hR1 hk0
    have hZ2 := hZ1.frM hF2 (fun q _ hp => mcP hp)
    have ho2 := hF2.K ho1
    have hN2 : pN S2 o = 1 := (hF2.N ho1 (ncM ho1)).trans (hN1.trans hoN)
    have hJ2 := hJ.le (Nat.le_succ n)
    have hv2 := (congrFun (hF2.J ho1 (ncM ho1)) 0).trans hv1
    rw [hk0]
    refine r_istore (pc := 558) hC dL_law_558 (by decide) ?_
    first | refine r_aload_n (pc := 560) hC dL_law_560 rfl ?_ | refine r_aload_nN (pc := 560) hC dL_law_560 rfl ?_
    refine r_callV (pc := 561) hC (cm_thrown hC.fl hM2 hJ2.1) kv_L_91 cls6 hM2.k6 rfl rfl (Nat.le_of_ble_eq_true rfl) ⟨by decide, by decide, hk2, hs2⟩ dL_law_561 (fun _ _ h => h.elim) (fun v3 S3 h3 => ?_)
    obtain ⟨rfl, rfl⟩ := h3
    refine at_widen (k' := k + 20) (n' := s + 5000) (show k + 16 + 2 + 0 ≤ k + 20 by omega) (show s + 1900 + 3100 + 0 ≤ s + 5000 by omega) ?_
    refine r_iload (pc := 564) hC dL_law_564 rfl ?_
    refine r_icmp_eq (pc := 566) (tgt := 571) hC dL_law_566 (by decide) (fun _ => ?_) (fun c => absurd rfl c)
    refine r_iload (pc := 571) hC dL_law_571 rfl ?_
    refine rn_if_ne (pc := 573) (tgt := 588) hC dL_law_573 (by decide) (by omega) (fun c => absurd rfl c) (fun _ => ?_)
    first | refine r_aload_n (pc := 576) hC dL_law_576 rfl ?_ | refine r_aload_nN (pc := 576) hC dL_law_576 rfl ?_
    refine r_iconst (pc := 577) (nI 0) hC dL_law_577 (by decide) ?_
    refine r_jald (pc := 578) hC dL_law_578 ho2 (by rw [hN2]; decide) (by rw [hN2]; decide) hv2 ?_
    refine r_iload (pc := 579) hC dL_law_579 rfl ?_
    refine r_i2l (pc := 581) hC dL_law_581 ?_
    refine r_lcmp (pc := 582) hC dL_law_582 ?_
    rw [(lg_cmp_eq _ _).mpr rfl]
    refine r_if_eq (pc := 583) (tgt := 588) hC dL_law_583 (by decide) (fun _ => ?_) (fun c => absurd rfl c)
    refine r_goto (pc := 588) (tgt := 1628) hC dL_law_588 (by decide) ?_
    refine at_lv (lv' := [(0, .ref b), (1, .ref x), (2, .ref m), (3, .ref o), (4, .int (nI i))]) ⟨rfl, rfl, rfl, rfl, rfl, trivial⟩ ?_
    refine at_widen (k' := k + 20) (n' := s + 5000) (Nat.le_refl _) (Nat.le_refl _) ?_
    exact nx _ ⟨_, _, _, _, hZ2, hM2, hJ2, ho2, hN2⟩
  · skip
    obtain ⟨Y1, hZ1⟩ := or_n hR1 hk0
    have hZ2 := hZ1.frM hF2 (fun q _ hp => mcP hp)
    have ho2 := hF2.K ho1
    have hN2 : pN S2 o = 1 := (hF2.N ho1 (ncM ho1)).trans (hN1.trans hoN)
    have hJ2 := hJ.le (Nat.le_succ n)
    have hk3 := kd_le _ (show ([(1, inD σ (xs (i + 1)))]).all (fun q => decide (q.1 ≤ 3)) = true from rfl)
    refine r_istore (pc := 558) hC dL_law_558 (by decide) ?_
    first | refine r_aload_n (pc := 560) hC dL_law_560 rfl ?_ | refine r_aload_nN (pc := 560) hC dL_law_560 rfl ?_
    refine r_callV (pc := 561) hC (cm_thrown hC.fl hM2 hJ2.1) kv_L_91 cls6 hM2.k6 rfl rfl (Nat.le_of_ble_eq_true rfl) ⟨by decide, by decide, hk2, hs2⟩ dL_law_561 (fun _ _ h => h.elim) (fun v3 S3 h3 => ?_)
    obtain ⟨rfl, rfl⟩ := h3
    refine at_widen (k' := k + 20) (n' := s + 5000) (show k + 16 + 2 + 0 ≤ k + 20 by omega) (show s + 1900 + 3100 + 0 ≤ s + 5000 by omega) ?_
    refine r_iload (pc := 564) hC dL_law_564 rfl ?_
    refine r_icmp_eq (pc := 566) (tgt := 571) hC dL_law_566 (by decide) (fun _ => ?_) (fun c => absurd rfl c)
    refine r_iload (pc := 571) hC dL_law_571 rfl ?_
    refine rn_if_ne (pc := 573) (tgt := 588) hC dL_law_573 (by decide) (by omega) (fun _ => ?_) (fun c => absurd c hk0)
    refine r_goto (pc := 588) (tgt := 1628) hC dL_law_588 (by decide) ?_
    refine at_lv (lv' := [(0, .ref b), (1, .ref x), (2, .ref m), (3, .ref o), (4, .int (nI i))]) ⟨rfl, rfl, rfl, rfl, rfl, trivial⟩ ?_
    refine at_widen (k' := k + 20) (n' := s + 5000) (Nat.le_refl _) (Nat.le_refl _) ?_
    exact nx _ ⟨_, _, _, _, hZ2, hM2, hJ2, ho2, hN2⟩
set_option maxHeartbeats 4000000 in
set_option maxRecDepth 100000 in
theorem lc_addBadge {Γ : Cx} {G : Ids} {V : Vx} {S : Ps} {Y : Lay} {σ : Sg} {M : Nat → Nat} {b x m o i n k s t L : Nat} {xs : Nat → Int32} (hC : Ctx Γ G V code RL room_1 9) (hX : ScX Γ V b L xs) (hL : L ≤ 2560) (hi : i + 5 ≤ L) (hn5 : n ≤ 511) (hZ : RC G S Y σ x) (hM : RM S M σ m t) (hJ : Inv σ n) (ho : isK S 10 o) (hoN : pN S o = 1) (hk : k + 20 ≤ 601024) (hs : s + 5000 ≤ 7293034) (nx : ∀ S', JL G S' x m o (n + 1) → At Γ G V (k + 20) (s + 5000) S' [(0, .ref b), (1, .ref x), (2, .ref m), (3, .ref o), (4, .int (nI i))] 1628 []) : At Γ G V k s S [(0, .ref b), (1, .ref x), (2, .ref m), (3, .ref o), (4, .int (nI i))] 591 [] := by
  have hk1 : k + 16 ≤ room_1.cells := Nat.le_trans (Nat.add_le_add_left (by decide) k) hk
  have hk2 : k + 16 + 2 ≤ room_1.cells := Nat.le_trans (Nat.add_le_add_left (show 18 ≤ 20 by decide) k) hk
  have hs1 : s + 1900 ≤ room_1.slots := Nat.le_trans (Nat.add_le_add_left (by decide) s) hs
  have hs2 : s + 1900 + 3100 ≤ room_1.slots := hs
  first | refine r_aload_n (pc := 591) hC dL_law_591 rfl ?_ | refine r_aload_nN (pc := 591) hC dL_law_591 rfl ?_
  first | refine r_aload_n (pc := 592) hC dL_law_592 rfl ?_ | refine r_aload_nN (pc := 592) hC dL_law_592 rfl ?_
  refine r_iload (pc := 593) hC dL_law_593 rfl ?_
  refine r_iconst (pc := 595) (nI 1) hC dL_law_595 (by decide) ?_
  first | refine rn_iadd (pc := 596) hC dL_law_596 ?_ | refine r_iadd (pc := 596) hC dL_law_596 ?_
  refine r_sld (pc := 597) hC hX hL (by omega) dL_law_597 ?_
  first | refine r_aload_n (pc := 598) hC dL_law_598 rfl ?_ | refine r_aload_nN (pc := 598) hC dL_law_598 rfl ?_
  refine r_callSW (pc := 599) hC (cl_addBadge hC.fl hZ hJ hn5 ho hoN) ks_L_112 rfl rfl (Nat.le_of_ble_eq_true rfl) ⟨by decide, by decide, Nat.le_trans (Nat.add_le_add_left (show rm_L_addBadge.cells ≤ 16 by decide) _) hk1, Nat.le_trans (Nat.add_le_add_left (show rm_L_addBadge.slots ≤ 1900 by decide) _) hs1⟩ dL_law_599 (fun _ _ h => h.elim) (fun v1 S1 h1 => ?_)
  obtain ⟨rfl, hF1, hN1, hR1⟩ := h1
  have hM1 := hM.fr hF1 (fun q _ hp => hp.elim cmP (fun e => e ▸ ncM ho))
  have ho1 := hF1.K ho
  refine at_widen (k' := k + 16) (n' := s + 1900) (Nat.add_le_add_left (by decide) k) (Nat.add_le_add_left (by decide) s) ?_
  refine r_istore (pc := 602) hC dL_law_602 (by decide) ?_
  first | refine r_aload_n (pc := 604) hC dL_law_604 rfl ?_ | refine r_aload_nN (pc := 604) hC dL_law_604 rfl ?_
  first | refine r_aload_n (pc := 605) hC dL_law_605 rfl ?_ | refine r_aload_nN (pc := 605) hC dL_law_605 rfl ?_
  refine r_iload (pc := 606) hC dL_law_606 rfl ?_
  refine r_iconst (pc := 608) (nI 1) hC dL_law_608 (by decide) ?_
  first | refine rn_iadd (pc := 609) hC dL_law_609 ?_ | refine r_iadd (pc := 609) hC dL_law_609 ?_
  refine r_sld (pc := 610) hC hX hL (by omega) dL_law_610 ?_
  refine r_callV (pc := 611) hC (cq_addBadge hC.fl hM1 hJ.1) kv_L_114 cls6 hM1.k6 rfl rfl (Nat.le_of_ble_eq_true rfl) ⟨by decide, by decide, Nat.le_trans (Nat.add_le_add_left (show rm_X5_addBadge.cells ≤ 2 by decide) _) hk2, Nat.le_trans (Nat.add_le_add_left (show rm_X5_addBadge.slots ≤ 3100 by decide) _) hs2⟩ dL_law_611 (fun _ _ h => h.elim) (fun v2 S2 h2 => ?_)
  refine at_widen (k' := k + 16 + 2) (n' := s + 1900 + 3100) (Nat.add_le_add_left (by decide) _) (Nat.add_le_add_left (by decide) _) ?_
  rcases h2 with ⟨hk0, rfl, hF2, M2, hM2⟩ | ⟨hk0, rfl, hF2, M2, hM2⟩
  · skip
    obtain ⟨⟨Y1, hZ1⟩, hv1⟩ := or_y hR1 hk0
    have hZ2 := hZ1.frM hF2 (fun q _ hp => mcP hp)
    have ho2 := hF2.K ho1
    have hN2 : pN S2 o = 1 := (hF2.N ho1 (ncM ho1)).trans (hN1.trans hoN)
    have hJ2 := li_addBadge hJ hk0
    have hv2 := (congrFun (hF2.J ho1 (ncM ho1)) 0).trans hv1
    rw [hk0]
    refine r_istore (pc := 614) hC dL_law_614 (by decide) ?_
    first | refine r_aload_n (pc := 616) hC dL_law_616 rfl ?_ | refine r_aload_nN (pc := 616) hC dL_law_616 rfl ?_
    refine r_callV (pc := 617) hC (cm_thrown hC.fl hM2 hJ2.1) kv_L_91 cls6 hM2.k6 rfl rfl (Nat.le_of_ble_eq_true rfl) ⟨by decide, by decide, hk2, hs2⟩ dL_law_617 (fun _ _ h => h.elim) (fun v3 S3 h3 => ?_)
    obtain ⟨rfl, rfl⟩ := h3
    refine at_widen (k' := k + 20) (n' := s + 5000) (show k + 16 + 2 + 0 ≤ k + 20 by omega) (show s + 1900 + 3100 + 0 ≤ s + 5000 by omega) ?_
    refine r_iload (pc := 620) hC dL_law_620 rfl ?_
    refine r_icmp_eq (pc := 622) (tgt := 627) hC dL_law_622 (by decide) (fun _ => ?_) (fun c => absurd rfl c)
    refine r_iload (pc := 627) hC dL_law_627 rfl ?_
    refine rn_if_ne (pc := 629) (tgt := 644) hC dL_law_629 (by decide) (by omega) (fun c => absurd rfl c) (fun _ => ?_)
    first | refine r_aload_n (pc := 632) hC dL_law_632 rfl ?_ | refine r_aload_nN (pc := 632) hC dL_law_632 rfl ?_
    refine r_iconst (pc := 633) (nI 0) hC dL_law_633 (by decide) ?_
    refine r_jald (pc := 634) hC dL_law_634 ho2 (by rw [hN2]; decide) (by rw [hN2]; decide) hv2 ?_
    refine r_iload (pc := 635) hC dL_law_635 rfl ?_
    refine r_i2l (pc := 637) hC dL_law_637 ?_
    refine r_lcmp (pc := 638) hC dL_law_638 ?_
    rw [(lg_cmp_eq _ _).mpr rfl]
    refine r_if_eq (pc := 639) (tgt := 644) hC dL_law_639 (by decide) (fun _ => ?_) (fun c => absurd rfl c)
    refine r_goto (pc := 644) (tgt := 1628) hC dL_law_644 (by decide) ?_
    refine at_lv (lv' := [(0, .ref b), (1, .ref x), (2, .ref m), (3, .ref o), (4, .int (nI i))]) ⟨rfl, rfl, rfl, rfl, rfl, trivial⟩ ?_
    refine at_widen (k' := k + 20) (n' := s + 5000) (Nat.le_refl _) (Nat.le_refl _) ?_
    exact nx _ ⟨_, _, _, _, hZ2, hM2, hJ2, ho2, hN2⟩
  · skip
    obtain ⟨Y1, hZ1⟩ := or_n hR1 hk0
    have hZ2 := hZ1.frM hF2 (fun q _ hp => mcP hp)
    have ho2 := hF2.K ho1
    have hN2 : pN S2 o = 1 := (hF2.N ho1 (ncM ho1)).trans (hN1.trans hoN)
    have hJ2 := hJ.le (Nat.le_succ n)
    have hk3 := kd_le _ (show ([(1, wi 0 255 (xs (i + 1))), (2, decide (nb σ < 10))]).all (fun q => decide (q.1 ≤ 3)) = true from rfl)
    refine r_istore (pc := 614) hC dL_law_614 (by decide) ?_
    first | refine r_aload_n (pc := 616) hC dL_law_616 rfl ?_ | refine r_aload_nN (pc := 616) hC dL_law_616 rfl ?_
    refine r_callV (pc := 617) hC (cm_thrown hC.fl hM2 hJ2.1) kv_L_91 cls6 hM2.k6 rfl rfl (Nat.le_of_ble_eq_true rfl) ⟨by decide, by decide, hk2, hs2⟩ dL_law_617 (fun _ _ h => h.elim) (fun v3 S3 h3 => ?_)
    obtain ⟨rfl, rfl⟩ := h3
    refine at_widen (k' := k + 20) (n' := s + 5000) (show k + 16 + 2 + 0 ≤ k + 20 by omega) (show s + 1900 + 3100 + 0 ≤ s + 5000 by omega) ?_
    refine r_iload (pc := 620) hC dL_law_620 rfl ?_
    refine r_icmp_eq (pc := 622) (tgt := 627) hC dL_law_622 (by decide) (fun _ => ?_) (fun c => absurd rfl c)
    refine r_iload (pc := 627) hC dL_law_627 rfl ?_
    refine rn_if_ne (pc := 629) (tgt := 644) hC dL_law_629 (by decide) (by omega) (fun _ => ?_) (fun c => absurd c hk0)
    refine r_goto (pc := 644) (tgt := 1628) hC dL_law_644 (by decide) ?_
    refine at_lv (lv' := [(0, .ref b), (1, .ref x), (2, .ref m), (3, .ref o), (4, .int (nI i))]) ⟨rfl, rfl, rfl, rfl, rfl, trivial⟩ ?_
    refine at_widen (k' := k + 20) (n' := s + 5000) (Nat.le_refl _) (Nat.le_refl _) ?_
    exact nx _ ⟨_, _, _, _, hZ2, hM2, hJ2, ho2, hN2⟩
set_option maxHeartbeats 4000000 in
set_option maxRecDepth 100000 in
theorem lc_addVisitor {Γ : Cx} {G : Ids} {V : Vx} {S : Ps} {Y : Lay} {σ : Sg} {M : Nat → Nat} {b x m o i n k s t L : Nat} {xs : Nat → Int32} (hC : Ctx Γ G V code RL room_1 9) (hX : ScX Γ V b L xs) (hL : L ≤ 2560) (hi : i + 5 ≤ L) (hn5 : n ≤ 511) (hZ : RC G S Y σ x) (hM : RM S M σ m t) (hJ : Inv σ n) (ho : isK S 10 o) (hoN : pN S o = 1) (hk : k + 20 ≤ 601024) (hs : s + 5000 ≤ 7293034) (nx : ∀ S', JL G S' x m o (n + 1) → At Γ G V (k + 20) (s + 5000) S' [(0, .ref b), (1, .ref x), (2, .ref m), (3, .ref o), (4, .int (nI i))] 1628 []) : At Γ G V k s S [(0, .ref b), (1, .ref x), (2, .ref m), (3, .ref o), (4, .int (nI i))] 647 [] := by
  have hk1 : k + 16 ≤ room_1.cells := Nat.le_trans (Nat.add_le_add_left (by decide) k) hk
  have hk2 : k + 16 + 2 ≤ room_1.cells := Nat.le_trans (Nat.add_le_add_left (show 18 ≤ 20 by decide) k) hk
  have hs1 : s + 1900 ≤ room_1.slots := Nat.le_trans (Nat.add_le_add_left (by decide) s) hs
  have hs2 : s + 1900 + 3100 ≤ room_1.slots := hs
  first | refine r_aload_n (pc := 647) hC dL_law_647 rfl ?_ | refine r_aload_nN (pc := 647) hC dL_law_647 rfl ?_
  first | refine r_aload_n (pc := 648) hC dL_law_648 rfl ?_ | refine r_aload_nN (pc := 648) hC dL_law_648 rfl ?_
  refine r_iload (pc := 649) hC dL_law_649 rfl ?_
  refine r_iconst (pc := 651) (nI 1) hC dL_law_651 (by decide) ?_
  first | refine rn_iadd (pc := 652) hC dL_law_652 ?_ | refine r_iadd (pc := 652) hC dL_law_652 ?_
  refine r_sld (pc := 653) hC hX hL (by omega) dL_law_653 ?_
  first | refine r_aload_n (pc := 654) hC dL_law_654 rfl ?_ | refine r_aload_nN (pc := 654) hC dL_law_654 rfl ?_
  refine r_callSW (pc := 655) hC (cl_addVisitor hC.fl hZ hJ hn5 ho hoN) ks_L_115 rfl rfl (Nat.le_of_ble_eq_true rfl) ⟨by decide, by decide, Nat.le_trans (Nat.add_le_add_left (show rm_L_addVisitor.cells ≤ 16 by decide) _) hk1, Nat.le_trans (Nat.add_le_add_left (show rm_L_addVisitor.slots ≤ 1900 by decide) _) hs1⟩ dL_law_655 (fun _ _ h => h.elim) (fun v1 S1 h1 => ?_)
  obtain ⟨rfl, hF1, hN1, hR1⟩ := h1
  have hM1 := hM.fr hF1 (fun q _ hp => hp.elim cmP (fun e => e ▸ ncM ho))
  have ho1 := hF1.K ho
  refine at_widen (k' := k + 16) (n' := s + 1900) (Nat.add_le_add_left (by decide) k) (Nat.add_le_add_left (by decide) s) ?_
  refine r_istore (pc := 658) hC dL_law_658 (by decide) ?_
  first | refine r_aload_n (pc := 660) hC dL_law_660 rfl ?_ | refine r_aload_nN (pc := 660) hC dL_law_660 rfl ?_
  first | refine r_aload_n (pc := 661) hC dL_law_661 rfl ?_ | refine r_aload_nN (pc := 661) hC dL_law_661 rfl ?_
  refine r_iload (pc := 662) hC dL_law_662 rfl ?_
  refine r_iconst (pc := 664) (nI 1) hC dL_law_664 (by decide) ?_
  first | refine rn_iadd (pc := 665) hC dL_law_665 ?_ | refine r_iadd (pc := 665) hC dL_law_665 ?_
  refine r_sld (pc := 666) hC hX hL (by omega) dL_law_666 ?_
  refine r_callV (pc := 667) hC (cq_addVisitor hC.fl hM1 hJ.1) kv_L_117 cls6 hM1.k6 rfl rfl (Nat.le_of_ble_eq_true rfl) ⟨by decide, by decide, Nat.le_trans (Nat.add_le_add_left (show rm_X5_addVisitor.cells ≤ 2 by decide) _) hk2, Nat.le_trans (Nat.add_le_add_left (show rm_X5_addVisitor.slots ≤ 3100 by decide) _) hs2⟩ dL_law_667 (fun _ _ h => h.elim) (fun v2 S2 h2 => ?_)
  refine at_widen (k' := k + 16 + 2) (n' := s + 1900 + 3100) (Nat.add_le_add_left (by decide) _) (Nat.add_le_add_left (by decide) _) ?_
  rcases h2 with ⟨hk0, rfl, hF2, M2, hM2⟩ | ⟨hk0, rfl, hF2, M2, hM2⟩
  · skip
    obtain ⟨⟨Y1, hZ1⟩, hv1⟩ := or_y hR1 hk0
    have hZ2 := hZ1.frM hF2 (fun q _ hp => mcP hp)
    have ho2 := hF2.K ho1
    have hN2 : pN S2 o = 1 := (hF2.N ho1 (ncM ho1)).trans (hN1.trans hoN)
    have hJ2 := li_addVisitor hJ hk0
    have hv2 := (congrFun (hF2.J ho1 (ncM ho1)) 0).trans hv1
    rw [hk0]
    refine r_istore (pc := 670) hC dL_law_670 (by decide) ?_
    first | refine r_aload_n (pc := 672) hC dL_law_672 rfl ?_ | refine r_aload_nN (pc := 672) hC dL_law_672 rfl ?_
    refine r_callV (pc := 673) hC (cm_thrown hC.fl hM2 hJ2.1) kv_L_91 cls6 hM2.k6 rfl rfl (Nat.le_of_ble_eq_true rfl) ⟨by decide, by decide, hk2, hs2⟩ dL_law_673 (fun _ _ h => h.elim) (fun v3 S3 h3 => ?_)
    obtain ⟨rfl, rfl⟩ := h3
    refine at_widen (k' := k + 20) (n' := s + 5000) (show k + 16 + 2 + 0 ≤ k + 20 by omega) (show s + 1900 + 3100 + 0 ≤ s + 5000 by omega) ?_
    refine r_iload (pc := 676) hC dL_law_676 rfl ?_
    refine r_icmp_eq (pc := 678) (tgt := 683) hC dL_law_678 (by decide) (fun _ => ?_) (fun c => absurd rfl c)
    refine r_iload (pc := 683) hC dL_law_683 rfl ?_
    refine rn_if_ne (pc := 685) (tgt := 700) hC dL_law_685 (by decide) (by omega) (fun c => absurd rfl c) (fun _ => ?_)
    first | refine r_aload_n (pc := 688) hC dL_law_688 rfl ?_ | refine r_aload_nN (pc := 688) hC dL_law_688 rfl ?_
    refine r_iconst (pc := 689) (nI 0) hC dL_law_689 (by decide) ?_
    refine r_jald (pc := 690) hC dL_law_690 ho2 (by rw [hN2]; decide) (by rw [hN2]; decide) hv2 ?_
    refine r_iload (pc := 691) hC dL_law_691 rfl ?_
    refine r_i2l (pc := 693) hC dL_law_693 ?_
    refine r_lcmp (pc := 694) hC dL_law_694 ?_
    rw [(lg_cmp_eq _ _).mpr rfl]
    refine r_if_eq (pc := 695) (tgt := 700) hC dL_law_695 (by decide) (fun _ => ?_) (fun c => absurd rfl c)
    refine r_goto (pc := 700) (tgt := 1628) hC dL_law_700 (by decide) ?_
    refine at_lv (lv' := [(0, .ref b), (1, .ref x), (2, .ref m), (3, .ref o), (4, .int (nI i))]) ⟨rfl, rfl, rfl, rfl, rfl, trivial⟩ ?_
    refine at_widen (k' := k + 20) (n' := s + 5000) (Nat.le_refl _) (Nat.le_refl _) ?_
    exact nx _ ⟨_, _, _, _, hZ2, hM2, hJ2, ho2, hN2⟩
  · skip
    obtain ⟨Y1, hZ1⟩ := or_n hR1 hk0
    have hZ2 := hZ1.frM hF2 (fun q _ hp => mcP hp)
    have ho2 := hF2.K ho1
    have hN2 : pN S2 o = 1 := (hF2.N ho1 (ncM ho1)).trans (hN1.trans hoN)
    have hJ2 := hJ.le (Nat.le_succ n)
    have hk3 := kd_le _ (show ([(1, inB σ (xs (i + 1))), (2, decide (hst σ (iN (xs (i + 1))) = 0)), (3, decide (nb σ < 10))]).all (fun q => decide (q.1 ≤ 3)) = true from rfl)
    refine r_istore (pc := 670) hC dL_law_670 (by decide) ?_
    first | refine r_aload_n (pc := 672) hC dL_law_672 rfl ?_ | refine r_aload_nN (pc := 672) hC dL_law_672 rfl ?_
    refine r_callV (pc := 673) hC (cm_thrown hC.fl hM2 hJ2.1) kv_L_91 cls6 hM2.k6 rfl rfl (Nat.le_of_ble_eq_true rfl) ⟨by decide, by decide, hk2, hs2⟩ dL_law_673 (fun _ _ h => h.elim) (fun v3 S3 h3 => ?_)
    obtain ⟨rfl, rfl⟩ := h3
    refine at_widen (k' := k + 20) (n' := s + 5000) (show k + 16 + 2 + 0 ≤ k + 20 by omega) (show s + 1900 + 3100 + 0 ≤ s + 5000 by omega) ?_
    refine r_iload (pc := 676) hC dL_law_676 rfl ?_
    refine r_icmp_eq (pc := 678) (tgt := 683) hC dL_law_678 (by decide) (fun _ => ?_) (fun c => absurd rfl c)
    refine r_iload (pc := 683) hC dL_law_683 rfl ?_
    refine rn_if_ne (pc := 685) (tgt := 700) hC dL_law_685 (by decide) (by omega) (fun _ => ?_) (fun c => absurd c hk0)
    refine r_goto (pc := 700) (tgt := 1628) hC dL_law_700 (by decide) ?_
    refine at_lv (lv' := [(0, .ref b), (1, .ref x), (2, .ref m), (3, .ref o), (4, .int (nI i))]) ⟨rfl, rfl, rfl, rfl, rfl, trivial⟩ ?_
    refine at_widen (k' := k + 20) (n' := s + 5000) (Nat.le_refl _) (Nat.le_refl _) ?_
    exact nx _ ⟨_, _, _, _, hZ2, hM2, hJ2, ho2, hN2⟩
set_option maxHeartbeats 4000000 in
set_option maxRecDepth 100000 in
theorem lc_setRights {Γ : Cx} {G : Ids} {V : Vx} {S : Ps} {Y : Lay} {σ : Sg} {M : Nat → Nat} {b x m o i n k s t L : Nat} {xs : Nat → Int32} (hC : Ctx Γ G V code RL room_1 9) (hX : ScX Γ V b L xs) (hL : L ≤ 2560) (hi : i + 5 ≤ L) (hn5 : n ≤ 511) (hZ : RC G S Y σ x) (hM : RM S M σ m t) (hJ : Inv σ n) (ho : isK S 10 o) (hoN : pN S o = 1) (hk : k + 20 ≤ 601024) (hs : s + 5000 ≤ 7293034) (nx : ∀ S', JL G S' x m o (n + 1) → At Γ G V (k + 20) (s + 5000) S' [(0, .ref b), (1, .ref x), (2, .ref m), (3, .ref o), (4, .int (nI i))] 1628 []) : At Γ G V k s S [(0, .ref b), (1, .ref x), (2, .ref m), (3, .ref o), (4, .int (nI i))] 703 [] := by
  have hk1 : k + 16 ≤ room_1.cells := Nat.le_trans (Nat.add_le_add_left (by decide) k) hk
  have hk2 : k + 16 + 2 ≤ room_1.cells := Nat.le_trans (Nat.add_le_add_left (show 18 ≤ 20 by decide) k) hk
  have hs1 : s + 1900 ≤ room_1.slots := Nat.le_trans (Nat.add_le_add_left (by decide) s) hs
  have hs2 : s + 1900 + 3100 ≤ room_1.slots := hs
  first | refine r_aload_n (pc := 703) hC dL_law_703 rfl ?_ | refine r_aload_nN (pc := 703) hC dL_law_703 rfl ?_
  first | refine r_aload_n (pc := 704) hC dL_law_704 rfl ?_ | refine r_aload_nN (pc := 704) hC dL_law_704 rfl ?_
  refine r_iload (pc := 705) hC dL_law_705 rfl ?_
  refine r_iconst (pc := 707) (nI 1) hC dL_law_707 (by decide) ?_
  first | refine rn_iadd (pc := 708) hC dL_law_708 ?_ | refine r_iadd (pc := 708) hC dL_law_708 ?_
  refine r_sld (pc := 709) hC hX hL (by omega) dL_law_709 ?_
  first | refine r_aload_n (pc := 710) hC dL_law_710 rfl ?_ | refine r_aload_nN (pc := 710) hC dL_law_710 rfl ?_
  refine r_iload (pc := 711) hC dL_law_711 rfl ?_
  refine r_iconst (pc := 713) (nI 2) hC dL_law_713 (by decide) ?_
  first | refine rn_iadd (pc := 714) hC dL_law_714 ?_ | refine r_iadd (pc := 714) hC dL_law_714 ?_
  refine r_sld (pc := 715) hC hX hL (by omega) dL_law_715 ?_
  first | refine r_aload_n (pc := 716) hC dL_law_716 rfl ?_ | refine r_aload_nN (pc := 716) hC dL_law_716 rfl ?_
  refine r_callSW (pc := 717) hC (cl_setRights hC.fl hZ hJ hn5 ho hoN) ks_L_118 rfl rfl (Nat.le_of_ble_eq_true rfl) ⟨by decide, by decide, Nat.le_trans (Nat.add_le_add_left (show rm_L_setRights.cells ≤ 16 by decide) _) hk1, Nat.le_trans (Nat.add_le_add_left (show rm_L_setRights.slots ≤ 1900 by decide) _) hs1⟩ dL_law_717 (fun _ _ h => h.elim) (fun v1 S1 h1 => ?_)
  obtain ⟨rfl, hF1, hN1, hR1⟩ := h1
  have hM1 := hM.fr hF1 (fun q _ hp => hp.elim cmP (fun e => e ▸ ncM ho))
  have ho1 := hF1.K ho
  refine at_widen (k' := k + 16) (n' := s + 1900) (Nat.add_le_add_left (by decide) k) (Nat.add_le_add_left (by decide) s) ?_
  refine r_istore (pc := 720) hC dL_law_720 (by decide) ?_
  first | refine r_aload_n (pc := 722) hC dL_law_722 rfl ?_ | refine r_aload_nN (pc := 722) hC dL_law_722 rfl ?_
  first | refine r_aload_n (pc := 723) hC dL_law_723 rfl ?_ | refine r_aload_nN (pc := 723) hC dL_law_723 rfl ?_
  refine r_iload (pc := 724) hC dL_law_724 rfl ?_
  refine r_iconst (pc := 726) (nI 1) hC dL_law_726 (by decide) ?_
  first | refine rn_iadd (pc := 727) hC dL_law_727 ?_ | refine r_iadd (pc := 727) hC dL_law_727 ?_
  refine r_sld (pc := 728) hC hX hL (by omega) dL_law_728 ?_
  first | refine r_aload_n (pc := 729) hC dL_law_729 rfl ?_ | refine r_aload_nN (pc := 729) hC dL_law_729 rfl ?_
  refine r_iload (pc := 730) hC dL_law_730 rfl ?_
  refine r_iconst (pc := 732) (nI 2) hC dL_law_732 (by decide) ?_
  first | refine rn_iadd (pc := 733) hC dL_law_733 ?_ | refine r_iadd (pc := 733) hC dL_law_733 ?_
  refine r_sld (pc := 734) hC hX hL (by omega) dL_law_734 ?_
  refine r_callV (pc := 735) hC (cq_setRights hC.fl hM1 hJ.1) kv_L_121 cls6 hM1.k6 rfl rfl (Nat.le_of_ble_eq_true rfl) ⟨by decide, by decide, Nat.le_trans (Nat.add_le_add_left (show rm_X5_setRights.cells ≤ 2 by decide) _) hk2, Nat.le_trans (Nat.add_le_add_left (show rm_X5_setRights.slots ≤ 3100 by decide) _) hs2⟩ dL_law_735 (fun _ _ h => h.elim) (fun v2 S2 h2 => ?_)
  refine at_widen (k' := k + 16 + 2) (n' := s + 1900 + 3100) (Nat.add_le_add_left (by decide) _) (Nat.add_le_add_left (by decide) _) ?_
  rcases h2 with ⟨hk0, rfl, hF2, M2, hM2⟩ | ⟨hk0, rfl, hF2, M2, hM2⟩
  · skip
    obtain ⟨⟨Y1, hZ1⟩, hv1⟩ := or_y hR1 hk0
    have hZ2 := hZ1.frM hF2 (fun q _ hp => mcP hp)
    have ho2 := hF2.K ho1
    have hN2 : pN S2 o = 1 := (hF2.N ho1 (ncM ho1)).trans (hN1.trans hoN)
    have hJ2 := li_setRights hJ hk0
    have hv2 := (congrFun (hF2.J ho1 (ncM ho1)) 0).trans hv1
    rw [hk0]
    refine r_istore (pc := 738) hC dL_law_738 (by decide) ?_
    first | refine r_aload_n (pc := 740) hC dL_law_740 rfl ?_ | refine r_aload_nN (pc := 740) hC dL_law_740 rfl ?_
    refine r_callV (pc := 741) hC (cm_thrown hC.fl hM2 hJ2.1) kv_L_91 cls6 hM2.k6 rfl rfl (Nat.le_of_ble_eq_true rfl) ⟨by decide, by decide, hk2, hs2⟩ dL_law_741 (fun _ _ h => h.elim) (fun v3 S3 h3 => ?_)
    obtain ⟨rfl, rfl⟩ := h3
    refine at_widen (k' := k + 20) (n' := s + 5000) (show k + 16 + 2 + 0 ≤ k + 20 by omega) (show s + 1900 + 3100 + 0 ≤ s + 5000 by omega) ?_
    refine r_iload (pc := 744) hC dL_law_744 rfl ?_
    refine r_icmp_eq (pc := 746) (tgt := 751) hC dL_law_746 (by decide) (fun _ => ?_) (fun c => absurd rfl c)
    refine r_iload (pc := 751) hC dL_law_751 rfl ?_
    refine rn_if_ne (pc := 753) (tgt := 768) hC dL_law_753 (by decide) (by omega) (fun c => absurd rfl c) (fun _ => ?_)
    first | refine r_aload_n (pc := 756) hC dL_law_756 rfl ?_ | refine r_aload_nN (pc := 756) hC dL_law_756 rfl ?_
    refine r_iconst (pc := 757) (nI 0) hC dL_law_757 (by decide) ?_
    refine r_jald (pc := 758) hC dL_law_758 ho2 (by rw [hN2]; decide) (by rw [hN2]; decide) hv2 ?_
    refine r_iload (pc := 759) hC dL_law_759 rfl ?_
    refine r_i2l (pc := 761) hC dL_law_761 ?_
    refine r_lcmp (pc := 762) hC dL_law_762 ?_
    rw [(lg_cmp_eq _ _).mpr rfl]
    refine r_if_eq (pc := 763) (tgt := 768) hC dL_law_763 (by decide) (fun _ => ?_) (fun c => absurd rfl c)
    refine r_goto (pc := 768) (tgt := 1628) hC dL_law_768 (by decide) ?_
    refine at_lv (lv' := [(0, .ref b), (1, .ref x), (2, .ref m), (3, .ref o), (4, .int (nI i))]) ⟨rfl, rfl, rfl, rfl, rfl, trivial⟩ ?_
    refine at_widen (k' := k + 20) (n' := s + 5000) (Nat.le_refl _) (Nat.le_refl _) ?_
    exact nx _ ⟨_, _, _, _, hZ2, hM2, hJ2, ho2, hN2⟩
  · skip
    obtain ⟨Y1, hZ1⟩ := or_n hR1 hk0
    have hZ2 := hZ1.frM hF2 (fun q _ hp => mcP hp)
    have ho2 := hF2.K ho1
    have hN2 : pN S2 o = 1 := (hF2.N ho1 (ncM ho1)).trans (hN1.trans hoN)
    have hJ2 := hJ.le (Nat.le_succ n)
    have hk3 := kd_le _ (show ([(1, inB σ (xs (i + 1))), (2, wi 0 255 (xs (i + 2))), (3, decide (hst σ (iN (xs (i + 1))) = 0))]).all (fun q => decide (q.1 ≤ 3)) = true from rfl)
    refine r_istore (pc := 738) hC dL_law_738 (by decide) ?_
    first | refine r_aload_n (pc := 740) hC dL_law_740 rfl ?_ | refine r_aload_nN (pc := 740) hC dL_law_740 rfl ?_
    refine r_callV (pc := 741) hC (cm_thrown hC.fl hM2 hJ2.1) kv_L_91 cls6 hM2.k6 rfl rfl (Nat.le_of_ble_eq_true rfl) ⟨by decide, by decide, hk2, hs2⟩ dL_law_741 (fun _ _ h => h.elim) (fun v3 S3 h3 => ?_)
    obtain ⟨rfl, rfl⟩ := h3
    refine at_widen (k' := k + 20) (n' := s + 5000) (show k + 16 + 2 + 0 ≤ k + 20 by omega) (show s + 1900 + 3100 + 0 ≤ s + 5000 by omega) ?_
    refine r_iload (pc := 744) hC dL_law_744 rfl ?_
    refine r_icmp_eq (pc := 746) (tgt := 751) hC dL_law_746 (by decide) (fun _ => ?_) (fun c => absurd rfl c)
    refine r_iload (pc := 751) hC dL_law_751 rfl ?_
    refine rn_if_ne (pc := 753) (tgt := 768) hC dL_law_753 (by decide) (by omega) (fun _ => ?_) (fun c => absurd c hk0)
    refine r_goto (pc := 768) (tgt := 1628) hC dL_law_768 (by decide) ?_
    refine at_lv (lv' := [(0, .ref b), (1, .ref x), (2, .ref m), (3, .ref o), (4, .int (nI i))]) ⟨rfl, rfl, rfl, rfl, rfl, trivial⟩ ?_
    refine at_widen (k' := k + 20) (n' := s + 5000) (Nat.le_refl _) (Nat.le_refl _) ?_
    exact nx _ ⟨_, _, _, _, hZ2, hM2, hJ2, ho2, hN2⟩
set_option maxHeartbeats 4000000 in
set_option maxRecDepth 100000 in
theorem lc_block {Γ : Cx} {G : Ids} {V : Vx} {S : Ps} {Y : Lay} {σ : Sg} {M : Nat → Nat} {b x m o i n k s t L : Nat} {xs : Nat → Int32} (hC : Ctx Γ G V code RL room_1 9) (hX : ScX Γ V b L xs) (hL : L ≤ 2560) (hi : i + 5 ≤ L) (hn5 : n ≤ 511) (hZ : RC G S Y σ x) (hM : RM S M σ m t) (hJ : Inv σ n) (ho : isK S 10 o) (hoN : pN S o = 1) (hk : k + 20 ≤ 601024) (hs : s + 5000 ≤ 7293034) (nx : ∀ S', JL G S' x m o (n + 1) → At Γ G V (k + 20) (s + 5000) S' [(0, .ref b), (1, .ref x), (2, .ref m), (3, .ref o), (4, .int (nI i))] 1628 []) : At Γ G V k s S [(0, .ref b), (1, .ref x), (2, .ref m), (3, .ref o), (4, .int (nI i))] 771 [] := by
  have hk1 : k + 16 ≤ room_1.cells := Nat.le_trans (Nat.add_le_add_left (by decide) k) hk
  have hk2 : k + 16 + 2 ≤ room_1.cells := Nat.le_trans (Nat.add_le_add_left (show 18 ≤ 20 by decide) k) hk
  have hs1 : s + 1900 ≤ room_1.slots := Nat.le_trans (Nat.add_le_add_left (by decide) s) hs
  have hs2 : s + 1900 + 3100 ≤ room_1.slots := hs
  first | refine r_aload_n (pc := 771) hC dL_law_771 rfl ?_ | refine r_aload_nN (pc := 771) hC dL_law_771 rfl ?_
  first | refine r_aload_n (pc := 772) hC dL_law_772 rfl ?_ | refine r_aload_nN (pc := 772) hC dL_law_772 rfl ?_
  refine r_iload (pc := 773) hC dL_law_773 rfl ?_
  refine r_iconst (pc := 775) (nI 1) hC dL_law_775 (by decide) ?_
  first | refine rn_iadd (pc := 776) hC dL_law_776 ?_ | refine r_iadd (pc := 776) hC dL_law_776 ?_
  refine r_sld (pc := 777) hC hX hL (by omega) dL_law_777 ?_
  first | refine r_aload_n (pc := 778) hC dL_law_778 rfl ?_ | refine r_aload_nN (pc := 778) hC dL_law_778 rfl ?_
  refine r_iload (pc := 779) hC dL_law_779 rfl ?_
  refine r_iconst (pc := 781) (nI 2) hC dL_law_781 (by decide) ?_
  first | refine rn_iadd (pc := 782) hC dL_law_782 ?_ | refine r_iadd (pc := 782) hC dL_law_782 ?_
  refine r_sld (pc := 783) hC hX hL (by omega) dL_law_783 ?_
  first | refine rb_if_eq (pc := 784) (tgt := 791) hC dL_law_784 (by decide) (fun c784 => ?_) (fun c784 => ?_) | refine rn_if_eq (pc := 784) (tgt := 791) hC dL_law_784 (by decide) (by omega) (fun c784 => ?_) (fun c784 => ?_) | refine ri_if_eq (pc := 784) (tgt := 791) hC dL_law_784 (by decide) (fun c784 => ?_) (fun c784 => ?_)
  · -- taken
    refine r_iconst (pc := 791) (nI 0) hC dL_law_791 (by decide) ?_
    first | refine r_aload_n (pc := 792) hC dL_law_792 rfl ?_ | refine r_aload_nN (pc := 792) hC dL_law_792 rfl ?_
    refine r_callSW (pc := 793) hC (cl_block hC.fl hZ hJ hn5 ho hoN (q := false)) ks_L_122 rfl rfl (Nat.le_of_ble_eq_true rfl) ⟨by decide, by decide, Nat.le_trans (Nat.add_le_add_left (show rm_L_block.cells ≤ 16 by decide) _) hk1, Nat.le_trans (Nat.add_le_add_left (show rm_L_block.slots ≤ 1900 by decide) _) hs1⟩ dL_law_793 (fun _ _ h => h.elim) (fun v1 S1 h1 => ?_)
    obtain ⟨rfl, hF1, hN1, hR1⟩ := h1
    have hM1 := hM.fr hF1 (fun q _ hp => hp.elim cmP (fun e => e ▸ ncM ho))
    have ho1 := hF1.K ho
    refine at_widen (k' := k + 16) (n' := s + 1900) (Nat.add_le_add_left (by decide) k) (Nat.add_le_add_left (by decide) s) ?_
    refine r_istore (pc := 796) hC dL_law_796 (by decide) ?_
    first | refine r_aload_n (pc := 798) hC dL_law_798 rfl ?_ | refine r_aload_nN (pc := 798) hC dL_law_798 rfl ?_
    first | refine r_aload_n (pc := 799) hC dL_law_799 rfl ?_ | refine r_aload_nN (pc := 799) hC dL_law_799 rfl ?_
    refine r_iload (pc := 800) hC dL_law_800 rfl ?_
    refine r_iconst (pc := 802) (nI 1) hC dL_law_802 (by decide) ?_
    first | refine rn_iadd (pc := 803) hC dL_law_803 ?_ | refine r_iadd (pc := 803) hC dL_law_803 ?_
    refine r_sld (pc := 804) hC hX hL (by omega) dL_law_804 ?_
    first | refine r_aload_n (pc := 805) hC dL_law_805 rfl ?_ | refine r_aload_nN (pc := 805) hC dL_law_805 rfl ?_
    refine r_iload (pc := 806) hC dL_law_806 rfl ?_
    refine r_iconst (pc := 808) (nI 2) hC dL_law_808 (by decide) ?_
    first | refine rn_iadd (pc := 809) hC dL_law_809 ?_ | refine r_iadd (pc := 809) hC dL_law_809 ?_
    refine r_sld (pc := 810) hC hX hL (by omega) dL_law_810 ?_
    first | refine rb_if_eq (pc := 811) (tgt := 818) hC dL_law_811 (by decide) (fun c811 => ?_) (fun c811 => ?_) | refine rn_if_eq (pc := 811) (tgt := 818) hC dL_law_811 (by decide) (by omega) (fun c811 => ?_) (fun c811 => ?_) | refine ri_if_eq (pc := 811) (tgt := 818) hC dL_law_811 (by decide) (fun c811 => ?_) (fun c811 => ?_)
    · -- taken
      refine r_iconst (pc := 818) (nI 0) hC dL_law_818 (by decide) ?_
      refine r_callV (pc := 819) hC (cq_block hC.fl hM1 hJ.1 (q := false)) kv_L_125 cls6 hM1.k6 rfl rfl (Nat.le_of_ble_eq_true rfl) ⟨by decide, by decide, Nat.le_trans (Nat.add_le_add_left (show rm_X5_block.cells ≤ 2 by decide) _) hk2, Nat.le_trans (Nat.add_le_add_left (show rm_X5_block.slots ≤ 3100 by decide) _) hs2⟩ dL_law_819 (fun _ _ h => h.elim) (fun v2 S2 h2 => ?_)
      refine at_widen (k' := k + 16 + 2) (n' := s + 1900 + 3100) (Nat.add_le_add_left (by decide) _) (Nat.add_le_add_left (by decide) _) ?_
      rcases h2 with ⟨hk0, rfl, hF2, M2, hM2⟩ | ⟨hk0, rfl, hF2, M2, hM2⟩
      · skip
        obtain ⟨⟨Y1, hZ1⟩, hv1⟩ := or_y hR1 hk0
        have hZ2 := hZ1.frM hF2 (fun q _ hp => mcP hp)
        have ho2 := hF2.K ho1
        have hN2 : pN S2 o = 1 := (hF2.N ho1 (ncM ho1)).trans (hN1.trans hoN)
        have hJ2 := li_block (p := xs (i + 1)) (v := false) hJ
        have hv2 := (congrFun (hF2.J ho1 (ncM ho1)) 0).trans hv1
        rw [hk0]
        refine r_istore (pc := 822) hC dL_law_822 (by decide) ?_
        first | refine r_aload_n (pc := 824) hC dL_law_824 rfl ?_ | refine r_aload_nN (pc := 824) hC dL_law_824 rfl ?_
        refine r_callV (pc := 825) hC (cm_thrown hC.fl hM2 hJ2.1) kv_L_91 cls6 hM2.k6 rfl rfl (Nat.le_of_ble_eq_true rfl) ⟨by decide, by decide, hk2, hs2⟩ dL_law_825 (fun _ _ h => h.elim) (fun v3 S3 h3 => ?_)
        obtain ⟨rfl, rfl⟩ := h3
        refine at_widen (k' := k + 20) (n' := s + 5000) (show k + 16 + 2 + 0 ≤ k + 20 by omega) (show s + 1900 + 3100 + 0 ≤ s + 5000 by omega) ?_
        refine r_iload (pc := 828) hC dL_law_828 rfl ?_
        refine r_icmp_eq (pc := 830) (tgt := 835) hC dL_law_830 (by decide) (fun _ => ?_) (fun c => absurd rfl c)
        refine r_iload (pc := 835) hC dL_law_835 rfl ?_
        refine rn_if_ne (pc := 837) (tgt := 859) hC dL_law_837 (by decide) (by omega) (fun c => absurd rfl c) (fun _ => ?_)
        first | refine r_aload_n (pc := 840) hC dL_law_840 rfl ?_ | refine r_aload_nN (pc := 840) hC dL_law_840 rfl ?_
        refine r_iconst (pc := 841) (nI 0) hC dL_law_841 (by decide) ?_
        refine r_jald (pc := 842) hC dL_law_842 ho2 (by rw [hN2]; decide) (by rw [hN2]; decide) hv2 ?_
        refine r_iload (pc := 843) hC dL_law_843 rfl ?_
        first | refine rb_if_eq (pc := 845) (tgt := 852) hC dL_law_845 (by decide) (fun c845 => ?_) (fun c845 => ?_) | refine rn_if_eq (pc := 845) (tgt := 852) hC dL_law_845 (by decide) (by omega) (fun c845 => ?_) (fun c845 => ?_) | refine ri_if_eq (pc := 845) (tgt := 852) hC dL_law_845 (by decide) (fun c845 => ?_) (fun c845 => ?_)
        · -- taken
          refine r_lconst (pc := 852) (0) hC dL_law_852 (by decide) ?_
          first | rw [tI_1 _ c845] | rw [tI_0 _ c845]
          refine r_lcmp (pc := 853) hC dL_law_853 ?_
          rw [(lg_cmp_eq _ _).mpr rfl]
          refine r_if_eq (pc := 854) (tgt := 859) hC dL_law_854 (by decide) (fun _ => ?_) (fun c => absurd rfl c)
          refine r_goto (pc := 859) (tgt := 1628) hC dL_law_859 (by decide) ?_
          refine at_lv (lv' := [(0, .ref b), (1, .ref x), (2, .ref m), (3, .ref o), (4, .int (nI i))]) ⟨rfl, rfl, rfl, rfl, rfl, trivial⟩ ?_
          refine at_widen (k' := k + 20) (n' := s + 5000) (Nat.le_refl _) (Nat.le_refl _) ?_
          exact nx _ ⟨_, _, _, _, hZ2, hM2, hJ2, ho2, hN2⟩
        · -- not
          refine r_lconst (pc := 848) (1) hC dL_law_848 (by decide) ?_
          refine r_goto (pc := 849) (tgt := 853) hC dL_law_849 (by decide) ?_
          first | rw [tI_1 _ c845] | rw [tI_0 _ c845]
          refine r_lcmp (pc := 853) hC dL_law_853 ?_
          rw [(lg_cmp_eq _ _).mpr rfl]
          refine r_if_eq (pc := 854) (tgt := 859) hC dL_law_854 (by decide) (fun _ => ?_) (fun c => absurd rfl c)
          refine r_goto (pc := 859) (tgt := 1628) hC dL_law_859 (by decide) ?_
          refine at_lv (lv' := [(0, .ref b), (1, .ref x), (2, .ref m), (3, .ref o), (4, .int (nI i))]) ⟨rfl, rfl, rfl, rfl, rfl, trivial⟩ ?_
          refine at_widen (k' := k + 20) (n' := s + 5000) (Nat.le_refl _) (Nat.le_refl _) ?_
          exact nx _ ⟨_, _, _, _, hZ2, hM2, hJ2, ho2, hN2⟩
      · skip
        obtain ⟨Y1, hZ1⟩ := or_n hR1 hk0
        have hZ2 := hZ1.frM hF2 (fun q _ hp => mcP hp)
        have ho2 := hF2.K ho1
        have hN2 : pN S2 o = 1 := (hF2.N ho1 (ncM ho1)).trans (hN1.trans hoN)
        have hJ2 := hJ.le (Nat.le_succ n)
        have hk3 := kd_le _ (show ([(1, inB σ (xs (i + 1)))]).all (fun q => decide (q.1 ≤ 3)) = true from rfl)
        refine r_istore (pc := 822) hC dL_law_822 (by decide) ?_
        first | refine r_aload_n (pc := 824) hC dL_law_824 rfl ?_ | refine r_aload_nN (pc := 824) hC dL_law_824 rfl ?_
        refine r_callV (pc := 825) hC (cm_thrown hC.fl hM2 hJ2.1) kv_L_91 cls6 hM2.k6 rfl rfl (Nat.le_of_ble_eq_true rfl) ⟨by decide, by decide, hk2, hs2⟩ dL_law_825 (fun _ _ h => h.elim) (fun v3 S3 h3 => ?_)
        obtain ⟨rfl, rfl⟩ := h3
        refine at_widen (k' := k + 20) (n' := s + 5000) (show k + 16 + 2 + 0 ≤ k + 20 by omega) (show s + 1900 + 3100 + 0 ≤ s + 5000 by omega) ?_
        refine r_iload (pc := 828) hC dL_law_828 rfl ?_
        refine r_icmp_eq (pc := 830) (tgt := 835) hC dL_law_830 (by decide) (fun _ => ?_) (fun c => absurd rfl c)
        refine r_iload (pc := 835) hC dL_law_835 rfl ?_
        refine rn_if_ne (pc := 837) (tgt := 859) hC dL_law_837 (by decide) (by omega) (fun _ => ?_) (fun c => absurd c hk0)
        refine r_goto (pc := 859) (tgt := 1628) hC dL_law_859 (by decide) ?_
        refine at_lv (lv' := [(0, .ref b), (1, .ref x), (2, .ref m), (3, .ref o), (4, .int (nI i))]) ⟨rfl, rfl, rfl, rfl, rfl, trivial⟩ ?_
        refine at_widen (k' := k + 20) (n' := s + 5000) (Nat.le_refl _) (Nat.le_refl _) ?_
        exact nx _ ⟨_, _, _, _, hZ2, hM2, hJ2, ho2, hN2⟩
    · -- not
      exact absurd c784 c811
  · -- not
    refine r_iconst (pc := 787) (nI 1) hC dL_law_787 (by decide) ?_
    refine r_goto (pc := 788) (tgt := 792) hC dL_law_788 (by decide) ?_
    first | refine r_aload_n (pc := 792) hC dL_law_792 rfl ?_ | refine r_aload_nN (pc := 792) hC dL_law_792 rfl ?_
    refine r_callSW (pc := 793) hC (cl_block hC.fl hZ hJ hn5 ho hoN (q := true)) ks_L_122 rfl rfl (Nat.le_of_ble_eq_true rfl) ⟨by decide, by decide, Nat.le_trans (Nat.add_le_add_left (show rm_L_block.cells ≤ 16 by decide) _) hk1, Nat.le_trans (Nat.add_le_add_left (show rm_L_block.slots ≤ 1900 by decide) _) hs1⟩ dL_law_793 (fun _ _ h => h.elim) (fun v1 S1 h1 => ?_)
    obtain ⟨rfl, hF1, hN1, hR1⟩ := h1
    have hM1 := hM.fr hF1 (fun q _ hp => hp.elim cmP (fun e => e ▸ ncM ho))
    have ho1 := hF1.K ho
    refine at_widen (k' := k + 16) (n' := s + 1900) (Nat.add_le_add_left (by decide) k) (Nat.add_le_add_left (by decide) s) ?_
    refine r_istore (pc := 796) hC dL_law_796 (by decide) ?_
    first | refine r_aload_n (pc := 798) hC dL_law_798 rfl ?_ | refine r_aload_nN (pc := 798) hC dL_law_798 rfl ?_
    first | refine r_aload_n (pc := 799) hC dL_law_799 rfl ?_ | refine r_aload_nN (pc := 799) hC dL_law_799 rfl ?_
    refine r_iload (pc := 800) hC dL_law_800 rfl ?_
    refine r_iconst (pc := 802) (nI 1) hC dL_law_802 (by decide) ?_
    first | refine rn_iadd (pc := 803) hC dL_law_803 ?_ | refine r_iadd (pc := 803) hC dL_law_803 ?_
    refine r_sld (pc := 804) hC hX hL (by omega) dL_law_804 ?_
    first | refine r_aload_n (pc := 805) hC dL_law_805 rfl ?_ | refine r_aload_nN (pc := 805) hC dL_law_805 rfl ?_
    refine r_iload (pc := 806) hC dL_law_806 rfl ?_
    refine r_iconst (pc := 808) (nI 2) hC dL_law_808 (by decide) ?_
    first | refine rn_iadd (pc := 809) hC dL_law_809 ?_ | refine r_iadd (pc := 809) hC dL_law_809 ?_
    refine r_sld (pc := 810) hC hX hL (by omega) dL_law_810 ?_
    first | refine rb_if_eq (pc := 811) (tgt := 818) hC dL_law_811 (by decide) (fun c811 => ?_) (fun c811 => ?_) | refine rn_if_eq (pc := 811) (tgt := 818) hC dL_law_811 (by decide) (by omega) (fun c811 => ?_) (fun c811 => ?_) | refine ri_if_eq (pc := 811) (tgt := 818) hC dL_law_811 (by decide) (fun c811 => ?_) (fun c811 => ?_)
    · -- taken
      exact absurd c811 c784
    · -- not
      refine r_iconst (pc := 814) (nI 1) hC dL_law_814 (by decide) ?_
      refine r_goto (pc := 815) (tgt := 819) hC dL_law_815 (by decide) ?_
      refine r_callV (pc := 819) hC (cq_block hC.fl hM1 hJ.1 (q := true)) kv_L_125 cls6 hM1.k6 rfl rfl (Nat.le_of_ble_eq_true rfl) ⟨by decide, by decide, Nat.le_trans (Nat.add_le_add_left (show rm_X5_block.cells ≤ 2 by decide) _) hk2, Nat.le_trans (Nat.add_le_add_left (show rm_X5_block.slots ≤ 3100 by decide) _) hs2⟩ dL_law_819 (fun _ _ h => h.elim) (fun v2 S2 h2 => ?_)
      refine at_widen (k' := k + 16 + 2) (n' := s + 1900 + 3100) (Nat.add_le_add_left (by decide) _) (Nat.add_le_add_left (by decide) _) ?_
      rcases h2 with ⟨hk0, rfl, hF2, M2, hM2⟩ | ⟨hk0, rfl, hF2, M2, hM2⟩
      · skip
        obtain ⟨⟨Y1, hZ1⟩, hv1⟩ := or_y hR1 hk0
        have hZ2 := hZ1.frM hF2 (fun q _ hp => mcP hp)
        have ho2 := hF2.K ho1
        have hN2 : pN S2 o = 1 := (hF2.N ho1 (ncM ho1)).trans (hN1.trans hoN)
        have hJ2 := li_block (p := xs (i + 1)) (v := true) hJ
        have hv2 := (congrFun (hF2.J ho1 (ncM ho1)) 0).trans hv1
        rw [hk0]
        refine r_istore (pc := 822) hC dL_law_822 (by decide) ?_
        first | refine r_aload_n (pc := 824) hC dL_law_824 rfl ?_ | refine r_aload_nN (pc := 824) hC dL_law_824 rfl ?_
        refine r_callV (pc := 825) hC (cm_thrown hC.fl hM2 hJ2.1) kv_L_91 cls6 hM2.k6 rfl rfl (Nat.le_of_ble_eq_true rfl) ⟨by decide, by decide, hk2, hs2⟩ dL_law_825 (fun _ _ h => h.elim) (fun v3 S3 h3 => ?_)
        obtain ⟨rfl, rfl⟩ := h3
        refine at_widen (k' := k + 20) (n' := s + 5000) (show k + 16 + 2 + 0 ≤ k + 20 by omega) (show s + 1900 + 3100 + 0 ≤ s + 5000 by omega) ?_
        refine r_iload (pc := 828) hC dL_law_828 rfl ?_
        refine r_icmp_eq (pc := 830) (tgt := 835) hC dL_law_830 (by decide) (fun _ => ?_) (fun c => absurd rfl c)
        refine r_iload (pc := 835) hC dL_law_835 rfl ?_
        refine rn_if_ne (pc := 837) (tgt := 859) hC dL_law_837 (by decide) (by omega) (fun c => absurd rfl c) (fun _ => ?_)
        first | refine r_aload_n (pc := 840) hC dL_law_840 rfl ?_ | refine r_aload_nN (pc := 840) hC dL_law_840 rfl ?_
        refine r_iconst (pc := 841) (nI 0) hC dL_law_841 (by decide) ?_
        refine r_jald (pc := 842) hC dL_law_842 ho2 (by rw [hN2]; decide) (by rw [hN2]; decide) hv2 ?_
        refine r_iload (pc := 843) hC dL_law_843 rfl ?_
        first | refine rb_if_eq (pc := 845) (tgt := 852) hC dL_law_845 (by decide) (fun c845 => ?_) (fun c845 => ?_) | refine rn_if_eq (pc := 845) (tgt := 852) hC dL_law_845 (by decide) (by omega) (fun c845 => ?_) (fun c845 => ?_) | refine ri_if_eq (pc := 845) (tgt := 852) hC dL_law_845 (by decide) (fun c845 => ?_) (fun c845 => ?_)
        · -- taken
          refine r_lconst (pc := 852) (0) hC dL_law_852 (by decide) ?_
          first | rw [tI_1 _ c845] | rw [tI_0 _ c845]
          refine r_lcmp (pc := 853) hC dL_law_853 ?_
          rw [(lg_cmp_eq _ _).mpr rfl]
          refine r_if_eq (pc := 854) (tgt := 859) hC dL_law_854 (by decide) (fun _ => ?_) (fun c => absurd rfl c)
          refine r_goto (pc := 859) (tgt := 1628) hC dL_law_859 (by decide) ?_
          refine at_lv (lv' := [(0, .ref b), (1, .ref x), (2, .ref m), (3, .ref o), (4, .int (nI i))]) ⟨rfl, rfl, rfl, rfl, rfl, trivial⟩ ?_
          refine at_widen (k' := k + 20) (n' := s + 5000) (Nat.le_refl _) (Nat.le_refl _) ?_
          exact nx _ ⟨_, _, _, _, hZ2, hM2, hJ2, ho2, hN2⟩
        · -- not
          refine r_lconst (pc := 848) (1) hC dL_law_848 (by decide) ?_
          refine r_goto (pc := 849) (tgt := 853) hC dL_law_849 (by decide) ?_
          first | rw [tI_1 _ c845] | rw [tI_0 _ c845]
          refine r_lcmp (pc := 853) hC dL_law_853 ?_
          rw [(lg_cmp_eq _ _).mpr rfl]
          refine r_if_eq (pc := 854) (tgt := 859) hC dL_law_854 (by decide) (fun _ => ?_) (fun c => absurd rfl c)
          refine r_goto (pc := 859) (tgt := 1628) hC dL_law_859 (by decide) ?_
          refine at_lv (lv' := [(0, .ref b), (1, .ref x), (2, .ref m), (3, .ref o), (4, .int (nI i))]) ⟨rfl, rfl, rfl, rfl, rfl, trivial⟩ ?_
          refine at_widen (k' := k + 20) (n' := s + 5000) (Nat.le_refl _) (Nat.le_refl _) ?_
          exact nx _ ⟨_, _, _, _, hZ2, hM2, hJ2, ho2, hN2⟩
      · skip
        obtain ⟨Y1, hZ1⟩ := or_n hR1 hk0
        have hZ2 := hZ1.frM hF2 (fun q _ hp => mcP hp)
        have ho2 := hF2.K ho1
        have hN2 : pN S2 o = 1 := (hF2.N ho1 (ncM ho1)).trans (hN1.trans hoN)
        have hJ2 := hJ.le (Nat.le_succ n)
        have hk3 := kd_le _ (show ([(1, inB σ (xs (i + 1)))]).all (fun q => decide (q.1 ≤ 3)) = true from rfl)
        refine r_istore (pc := 822) hC dL_law_822 (by decide) ?_
        first | refine r_aload_n (pc := 824) hC dL_law_824 rfl ?_ | refine r_aload_nN (pc := 824) hC dL_law_824 rfl ?_
        refine r_callV (pc := 825) hC (cm_thrown hC.fl hM2 hJ2.1) kv_L_91 cls6 hM2.k6 rfl rfl (Nat.le_of_ble_eq_true rfl) ⟨by decide, by decide, hk2, hs2⟩ dL_law_825 (fun _ _ h => h.elim) (fun v3 S3 h3 => ?_)
        obtain ⟨rfl, rfl⟩ := h3
        refine at_widen (k' := k + 20) (n' := s + 5000) (show k + 16 + 2 + 0 ≤ k + 20 by omega) (show s + 1900 + 3100 + 0 ≤ s + 5000 by omega) ?_
        refine r_iload (pc := 828) hC dL_law_828 rfl ?_
        refine r_icmp_eq (pc := 830) (tgt := 835) hC dL_law_830 (by decide) (fun _ => ?_) (fun c => absurd rfl c)
        refine r_iload (pc := 835) hC dL_law_835 rfl ?_
        refine rn_if_ne (pc := 837) (tgt := 859) hC dL_law_837 (by decide) (by omega) (fun _ => ?_) (fun c => absurd c hk0)
        refine r_goto (pc := 859) (tgt := 1628) hC dL_law_859 (by decide) ?_
        refine at_lv (lv' := [(0, .ref b), (1, .ref x), (2, .ref m), (3, .ref o), (4, .int (nI i))]) ⟨rfl, rfl, rfl, rfl, rfl, trivial⟩ ?_
        refine at_widen (k' := k + 20) (n' := s + 5000) (Nat.le_refl _) (Nat.le_refl _) ?_
        exact nx _ ⟨_, _, _, _, hZ2, hM2, hJ2, ho2, hN2⟩
set_option maxHeartbeats 4000000 in
set_option maxRecDepth 100000 in
theorem lc_badge {Γ : Cx} {G : Ids} {V : Vx} {S : Ps} {Y : Lay} {σ : Sg} {M : Nat → Nat} {b x m o i n k s t L : Nat} {xs : Nat → Int32} (hC : Ctx Γ G V code RL room_1 9) (hX : ScX Γ V b L xs) (hL : L ≤ 2560) (hi : i + 5 ≤ L) (hn5 : n ≤ 511) (hZ : RC G S Y σ x) (hM : RM S M σ m t) (hJ : Inv σ n) (ho : isK S 10 o) (hoN : pN S o = 1) (hk : k + 20 ≤ 601024) (hs : s + 5000 ≤ 7293034) (nx : ∀ S', JL G S' x m o (n + 1) → At Γ G V (k + 20) (s + 5000) S' [(0, .ref b), (1, .ref x), (2, .ref m), (3, .ref o), (4, .int (nI i))] 1628 []) : At Γ G V k s S [(0, .ref b), (1, .ref x), (2, .ref m), (3, .ref o), (4, .int (nI i))] 862 [] := by
  have hk1 : k + 16 ≤ room_1.cells := Nat.le_trans (Nat.add_le_add_left (by decide) k) hk
  have hk2 : k + 16 + 2 ≤ room_1.cells := Nat.le_trans (Nat.add_le_add_left (show 18 ≤ 20 by decide) k) hk
  have hs1 : s + 1900 ≤ room_1.slots := Nat.le_trans (Nat.add_le_add_left (by decide) s) hs
  have hs2 : s + 1900 + 3100 ≤ room_1.slots := hs
  first | refine r_aload_n (pc := 862) hC dL_law_862 rfl ?_ | refine r_aload_nN (pc := 862) hC dL_law_862 rfl ?_
  first | refine r_aload_n (pc := 863) hC dL_law_863 rfl ?_ | refine r_aload_nN (pc := 863) hC dL_law_863 rfl ?_
  refine r_iload (pc := 864) hC dL_law_864 rfl ?_
  refine r_iconst (pc := 866) (nI 1) hC dL_law_866 (by decide) ?_
  first | refine rn_iadd (pc := 867) hC dL_law_867 ?_ | refine r_iadd (pc := 867) hC dL_law_867 ?_
  refine r_sld (pc := 868) hC hX hL (by omega) dL_law_868 ?_
  first | refine r_aload_n (pc := 869) hC dL_law_869 rfl ?_ | refine r_aload_nN (pc := 869) hC dL_law_869 rfl ?_
  refine r_iload (pc := 870) hC dL_law_870 rfl ?_
  refine r_iconst (pc := 872) (nI 2) hC dL_law_872 (by decide) ?_
  first | refine rn_iadd (pc := 873) hC dL_law_873 ?_ | refine r_iadd (pc := 873) hC dL_law_873 ?_
  refine r_sld (pc := 874) hC hX hL (by omega) dL_law_874 ?_
  first | refine r_aload_n (pc := 875) hC dL_law_875 rfl ?_ | refine r_aload_nN (pc := 875) hC dL_law_875 rfl ?_
  refine r_callSW (pc := 876) hC (cl_badge hC.fl hZ hJ hn5 ho hoN) ks_L_126 rfl rfl (Nat.le_of_ble_eq_true rfl) ⟨by decide, by decide, Nat.le_trans (Nat.add_le_add_left (show rm_L_badge.cells ≤ 16 by decide) _) hk1, Nat.le_trans (Nat.add_le_add_left (show rm_L_badge.slots ≤ 1900 by decide) _) hs1⟩ dL_law_876 (fun _ _ h => h.elim) (fun v1 S1 h1 => ?_)
  obtain ⟨rfl, hF1, hN1, hR1⟩ := h1
  have hM1 := hM.fr hF1 (fun q _ hp => hp.elim cmP (fun e => e ▸ ncM ho))
  have ho1 := hF1.K ho
  refine at_widen (k' := k + 16) (n' := s + 1900) (Nat.add_le_add_left (by decide) k) (Nat.add_le_add_left (by decide) s) ?_
  refine r_istore (pc := 879) hC dL_law_879 (by decide) ?_
  first | refine r_aload_n (pc := 881) hC dL_law_881 rfl ?_ | refine r_aload_nN (pc := 881) hC dL_law_881 rfl ?_
  first | refine r_aload_n (pc := 882) hC dL_law_882 rfl ?_ | refine r_aload_nN (pc := 882) hC dL_law_882 rfl ?_
  refine r_iload (pc := 883) hC dL_law_883 rfl ?_
  refine r_iconst (pc := 885) (nI 1) hC dL_law_885 (by decide) ?_
  first | refine rn_iadd (pc := 886) hC dL_law_886 ?_ | refine r_iadd (pc := 886) hC dL_law_886 ?_
  refine r_sld (pc := 887) hC hX hL (by omega) dL_law_887 ?_
  first | refine r_aload_n (pc := 888) hC dL_law_888 rfl ?_ | refine r_aload_nN (pc := 888) hC dL_law_888 rfl ?_
  refine r_iload (pc := 889) hC dL_law_889 rfl ?_
  refine r_iconst (pc := 891) (nI 2) hC dL_law_891 (by decide) ?_
  first | refine rn_iadd (pc := 892) hC dL_law_892 ?_ | refine r_iadd (pc := 892) hC dL_law_892 ?_
  refine r_sld (pc := 893) hC hX hL (by omega) dL_law_893 ?_
  refine r_callV (pc := 894) hC (cq_badge hC.fl hM1 hJ.1) kv_L_128 cls6 hM1.k6 rfl rfl (Nat.le_of_ble_eq_true rfl) ⟨by decide, by decide, Nat.le_trans (Nat.add_le_add_left (show rm_X5_badge.cells ≤ 2 by decide) _) hk2, Nat.le_trans (Nat.add_le_add_left (show rm_X5_badge.slots ≤ 3100 by decide) _) hs2⟩ dL_law_894 (fun _ _ h => h.elim) (fun v2 S2 h2 => ?_)
  refine at_widen (k' := k + 16 + 2) (n' := s + 1900 + 3100) (Nat.add_le_add_left (by decide) _) (Nat.add_le_add_left (by decide) _) ?_
  rcases h2 with ⟨hk0, rfl, hF2, M2, hM2⟩ | ⟨hk0, rfl, hF2, M2, hM2⟩
  · skip
    obtain ⟨⟨Y1, hZ1⟩, hv1⟩ := or_y hR1 hk0
    have hZ2 := hZ1.frM hF2 (fun q _ hp => mcP hp)
    have ho2 := hF2.K ho1
    have hN2 : pN S2 o = 1 := (hF2.N ho1 (ncM ho1)).trans (hN1.trans hoN)
    have hJ2 := hJ.le (Nat.le_succ n)
    have hv2 := (congrFun (hF2.J ho1 (ncM ho1)) 0).trans hv1
    rw [hk0]
    refine r_istore (pc := 897) hC dL_law_897 (by decide) ?_
    first | refine r_aload_n (pc := 899) hC dL_law_899 rfl ?_ | refine r_aload_nN (pc := 899) hC dL_law_899 rfl ?_
    refine r_callV (pc := 900) hC (cm_thrown hC.fl hM2 hJ2.1) kv_L_91 cls6 hM2.k6 rfl rfl (Nat.le_of_ble_eq_true rfl) ⟨by decide, by decide, hk2, hs2⟩ dL_law_900 (fun _ _ h => h.elim) (fun v3 S3 h3 => ?_)
    obtain ⟨rfl, rfl⟩ := h3
    refine at_widen (k' := k + 20) (n' := s + 5000) (show k + 16 + 2 + 0 ≤ k + 20 by omega) (show s + 1900 + 3100 + 0 ≤ s + 5000 by omega) ?_
    refine r_iload (pc := 903) hC dL_law_903 rfl ?_
    refine r_icmp_eq (pc := 905) (tgt := 910) hC dL_law_905 (by decide) (fun _ => ?_) (fun c => absurd rfl c)
    refine r_iload (pc := 910) hC dL_law_910 rfl ?_
    refine rn_if_ne (pc := 912) (tgt := 927) hC dL_law_912 (by decide) (by omega) (fun c => absurd rfl c) (fun _ => ?_)
    first | refine r_aload_n (pc := 915) hC dL_law_915 rfl ?_ | refine r_aload_nN (pc := 915) hC dL_law_915 rfl ?_
    refine r_iconst (pc := 916) (nI 0) hC dL_law_916 (by decide) ?_
    refine r_jald (pc := 917) hC dL_law_917 ho2 (by rw [hN2]; decide) (by rw [hN2]; decide) hv2 ?_
    refine r_iload (pc := 918) hC dL_law_918 rfl ?_
    refine r_i2l (pc := 920) hC dL_law_920 ?_
    refine r_lcmp (pc := 921) hC dL_law_921 ?_
    rw [(lg_cmp_eq _ _).mpr rfl]
    refine r_if_eq (pc := 922) (tgt := 927) hC dL_law_922 (by decide) (fun _ => ?_) (fun c => absurd rfl c)
    refine r_goto (pc := 927) (tgt := 1628) hC dL_law_927 (by decide) ?_
    refine at_lv (lv' := [(0, .ref b), (1, .ref x), (2, .ref m), (3, .ref o), (4, .int (nI i))]) ⟨rfl, rfl, rfl, rfl, rfl, trivial⟩ ?_
    refine at_widen (k' := k + 20) (n' := s + 5000) (Nat.le_refl _) (Nat.le_refl _) ?_
    exact nx _ ⟨_, _, _, _, hZ2, hM2, hJ2, ho2, hN2⟩
  · skip
    obtain ⟨Y1, hZ1⟩ := or_n hR1 hk0
    have hZ2 := hZ1.frM hF2 (fun q _ hp => mcP hp)
    have ho2 := hF2.K ho1
    have hN2 : pN S2 o = 1 := (hF2.N ho1 (ncM ho1)).trans (hN1.trans hoN)
    have hJ2 := hJ.le (Nat.le_succ n)
    have hk3 := kd_le _ (show ([(1, inB σ (xs (i + 1))), (1, wi 0 4 (xs (i + 2)))]).all (fun q => decide (q.1 ≤ 3)) = true from rfl)
    refine r_istore (pc := 897) hC dL_law_897 (by decide) ?_
    first | refine r_aload_n (pc := 899) hC dL_law_899 rfl ?_ | refine r_aload_nN (pc := 899) hC dL_law_899 rfl ?_
    refine r_callV (pc := 900) hC (cm_thrown hC.fl hM2 hJ2.1) kv_L_91 cls6 hM2.k6 rfl rfl (Nat.le_of_ble_eq_true rfl) ⟨by decide, by decide, hk2, hs2⟩ dL_law_900 (fun _ _ h => h.elim) (fun v3 S3 h3 => ?_)
    obtain ⟨rfl, rfl⟩ := h3
    refine at_widen (k' := k + 20) (n' := s + 5000) (show k + 16 + 2 + 0 ≤ k + 20 by omega) (show s + 1900 + 3100 + 0 ≤ s + 5000 by omega) ?_
    refine r_iload (pc := 903) hC dL_law_903 rfl ?_
    refine r_icmp_eq (pc := 905) (tgt := 910) hC dL_law_905 (by decide) (fun _ => ?_) (fun c => absurd rfl c)
    refine r_iload (pc := 910) hC dL_law_910 rfl ?_
    refine rn_if_ne (pc := 912) (tgt := 927) hC dL_law_912 (by decide) (by omega) (fun _ => ?_) (fun c => absurd c hk0)
    refine r_goto (pc := 927) (tgt := 1628) hC dL_law_927 (by decide) ?_
    refine at_lv (lv' := [(0, .ref b), (1, .ref x), (2, .ref m), (3, .ref o), (4, .int (nI i))]) ⟨rfl, rfl, rfl, rfl, rfl, trivial⟩ ?_
    refine at_widen (k' := k + 20) (n' := s + 5000) (Nat.le_refl _) (Nat.le_refl _) ?_
    exact nx _ ⟨_, _, _, _, hZ2, hM2, hJ2, ho2, hN2⟩
set_option maxHeartbeats 4000000 in
set_option maxRecDepth 100000 in
theorem lc_tick {Γ : Cx} {G : Ids} {V : Vx} {S : Ps} {Y : Lay} {σ : Sg} {M : Nat → Nat} {b x m o i n k s t L : Nat} {xs : Nat → Int32} (hC : Ctx Γ G V code RL room_1 9) (hX : ScX Γ V b L xs) (hL : L ≤ 2560) (hi : i + 5 ≤ L) (hn5 : n ≤ 511) (hZ : RC G S Y σ x) (hM : RM S M σ m t) (hJ : Inv σ n) (ho : isK S 10 o) (hoN : pN S o = 1) (hk : k + 20 ≤ 601024) (hs : s + 5000 ≤ 7293034) (nx : ∀ S', JL G S' x m o (n + 1) → At Γ G V (k + 20) (s + 5000) S' [(0, .ref b), (1, .ref x), (2, .ref m), (3, .ref o), (4, .int (nI i))] 1628 []) : At Γ G V k s S [(0, .ref b), (1, .ref x), (2, .ref m), (3, .ref o), (4, .int (nI i))] 930 [] := by
  have hk1 : k + 16 ≤ room_1.cells := Nat.le_trans (Nat.add_le_add_left (by decide) k) hk
  have hk2 : k + 16 + 2 ≤ room_1.cells := Nat.le_trans (Nat.add_le_add_left (show 18 ≤ 20 by decide) k) hk
  have hs1 : s + 1900 ≤ room_1.slots := Nat.le_trans (Nat.add_le_add_left (by decide) s) hs
  have hs2 : s + 1900 + 3100 ≤ room_1.slots := hs
  first | refine r_aload_n (pc := 930) hC dL_law_930 rfl ?_ | refine r_aload_nN (pc := 930) hC dL_law_930 rfl ?_
  first | refine r_aload_n (pc := 931) hC dL_law_931 rfl ?_ | refine r_aload_nN (pc := 931) hC dL_law_931 rfl ?_
  refine r_iload (pc := 932) hC dL_law_932 rfl ?_
  refine r_iconst (pc := 934) (nI 1) hC dL_law_934 (by decide) ?_
  first | refine rn_iadd (pc := 935) hC dL_law_935 ?_ | refine r_iadd (pc := 935) hC dL_law_935 ?_
  refine r_sld (pc := 936) hC hX hL (by omega) dL_law_936 ?_
  first | refine r_aload_n (pc := 937) hC dL_law_937 rfl ?_ | refine r_aload_nN (pc := 937) hC dL_law_937 rfl ?_
  refine r_callSW (pc := 938) hC (cl_tick hC.fl hZ hJ hn5 ho hoN) ks_L_129 rfl rfl (Nat.le_of_ble_eq_true rfl) ⟨by decide, by decide, Nat.le_trans (Nat.add_le_add_left (show rm_L_tick.cells ≤ 16 by decide) _) hk1, Nat.le_trans (Nat.add_le_add_left (show rm_L_tick.slots ≤ 1900 by decide) _) hs1⟩ dL_law_938 (fun _ _ h => h.elim) (fun v1 S1 h1 => ?_)
  obtain ⟨rfl, hF1, hN1, hR1⟩ := h1
  have hM1 := hM.fr hF1 (fun q _ hp => hp.elim cmP (fun e => e ▸ ncM ho))
  have ho1 := hF1.K ho
  refine at_widen (k' := k + 16) (n' := s + 1900) (Nat.add_le_add_left (by decide) k) (Nat.add_le_add_left (by decide) s) ?_
  refine r_istore (pc := 941) hC dL_law_941 (by decide) ?_
  first | refine r_aload_n (pc := 943) hC dL_law_943 rfl ?_ | refine r_aload_nN (pc := 943) hC dL_law_943 rfl ?_
  first | refine r_aload_n (pc := 944) hC dL_law_944 rfl ?_ | refine r_aload_nN (pc := 944) hC dL_law_944 rfl ?_
  refine r_iload (pc := 945) hC dL_law_945 rfl ?_
  refine r_iconst (pc := 947) (nI 1) hC dL_law_947 (by decide) ?_
  first | refine rn_iadd (pc := 948) hC dL_law_948 ?_ | refine r_iadd (pc := 948) hC dL_law_948 ?_
  refine r_sld (pc := 949) hC hX hL (by omega) dL_law_949 ?_
  refine r_callV (pc := 950) hC (cq_tick hC.fl hM1 hJ.1) kv_L_131 cls6 hM1.k6 rfl rfl (Nat.le_of_ble_eq_true rfl) ⟨by decide, by decide, Nat.le_trans (Nat.add_le_add_left (show rm_X5_tick.cells ≤ 2 by decide) _) hk2, Nat.le_trans (Nat.add_le_add_left (show rm_X5_tick.slots ≤ 3100 by decide) _) hs2⟩ dL_law_950 (fun _ _ h => h.elim) (fun v2 S2 h2 => ?_)
  refine at_widen (k' := k + 16 + 2) (n' := s + 1900 + 3100) (Nat.add_le_add_left (by decide) _) (Nat.add_le_add_left (by decide) _) ?_
  rcases h2 with ⟨hk0, rfl, hF2, M2, hM2⟩ | ⟨hk0, rfl, hF2, M2, hM2⟩
  · skip
    obtain ⟨⟨Y1, hZ1⟩, hv1⟩ := or_y hR1 hk0
    have hZ2 := hZ1.frM hF2 (fun q _ hp => mcP hp)
    have ho2 := hF2.K ho1
    have hN2 : pN S2 o = 1 := (hF2.N ho1 (ncM ho1)).trans (hN1.trans hoN)
    have hJ2 := li_tick hJ hk0
    have hv2 := (congrFun (hF2.J ho1 (ncM ho1)) 0).trans hv1
    rw [hk0]
    refine r_istore (pc := 953) hC dL_law_953 (by decide) ?_
    first | refine r_aload_n (pc := 955) hC dL_law_955 rfl ?_ | refine r_aload_nN (pc := 955) hC dL_law_955 rfl ?_
    refine r_callV (pc := 956) hC (cm_thrown hC.fl hM2 hJ2.1) kv_L_91 cls6 hM2.k6 rfl rfl (Nat.le_of_ble_eq_true rfl) ⟨by decide, by decide, hk2, hs2⟩ dL_law_956 (fun _ _ h => h.elim) (fun v3 S3 h3 => ?_)
    obtain ⟨rfl, rfl⟩ := h3
    refine at_widen (k' := k + 20) (n' := s + 5000) (show k + 16 + 2 + 0 ≤ k + 20 by omega) (show s + 1900 + 3100 + 0 ≤ s + 5000 by omega) ?_
    refine r_iload (pc := 959) hC dL_law_959 rfl ?_
    refine r_icmp_eq (pc := 961) (tgt := 966) hC dL_law_961 (by decide) (fun _ => ?_) (fun c => absurd rfl c)
    refine r_iload (pc := 966) hC dL_law_966 rfl ?_
    refine rn_if_ne (pc := 968) (tgt := 983) hC dL_law_968 (by decide) (by omega) (fun c => absurd rfl c) (fun _ => ?_)
    first | refine r_aload_n (pc := 971) hC dL_law_971 rfl ?_ | refine r_aload_nN (pc := 971) hC dL_law_971 rfl ?_
    refine r_iconst (pc := 972) (nI 0) hC dL_law_972 (by decide) ?_
    refine r_jald (pc := 973) hC dL_law_973 ho2 (by rw [hN2]; decide) (by rw [hN2]; decide) hv2 ?_
    refine r_iload (pc := 974) hC dL_law_974 rfl ?_
    refine r_i2l (pc := 976) hC dL_law_976 ?_
    refine r_lcmp (pc := 977) hC dL_law_977 ?_
    rw [(lg_cmp_eq _ _).mpr rfl]
    refine r_if_eq (pc := 978) (tgt := 983) hC dL_law_978 (by decide) (fun _ => ?_) (fun c => absurd rfl c)
    refine r_goto (pc := 983) (tgt := 1628) hC dL_law_983 (by decide) ?_
    refine at_lv (lv' := [(0, .ref b), (1, .ref x), (2, .ref m), (3, .ref o), (4, .int (nI i))]) ⟨rfl, rfl, rfl, rfl, rfl, trivial⟩ ?_
    refine at_widen (k' := k + 20) (n' := s + 5000) (Nat.le_refl _) (Nat.le_refl _) ?_
    exact nx _ ⟨_, _, _, _, hZ2, hM2, hJ2, ho2, hN2⟩
  · skip
    obtain ⟨Y1, hZ1⟩ := or_n hR1 hk0
    have hZ2 := hZ1.frM hF2 (fun q _ hp => mcP hp)
    have ho2 := hF2.K ho1
    have hN2 : pN S2 o = 1 := (hF2.N ho1 (ncM ho1)).trans (hN1.trans hoN)
    have hJ2 := hJ.le (Nat.le_succ n)
    have hk3 := kd_le _ (show ([(1, wi 1 2000 (xs (i + 1))), (2, decide ((xs (i + 1)).toInt + mi σ ≤ 99999))]).all (fun q => decide (q.1 ≤ 3)) = true from rfl)
    refine r_istore (pc := 953) hC dL_law_953 (by decide) ?_
    first | refine r_aload_n (pc := 955) hC dL_law_955 rfl ?_ | refine r_aload_nN (pc := 955) hC dL_law_955 rfl ?_
    refine r_callV (pc := 956) hC (cm_thrown hC.fl hM2 hJ2.1) kv_L_91 cls6 hM2.k6 rfl rfl (Nat.le_of_ble_eq_true rfl) ⟨by decide, by decide, hk2, hs2⟩ dL_law_956 (fun _ _ h => h.elim) (fun v3 S3 h3 => ?_)
    obtain ⟨rfl, rfl⟩ := h3
    refine at_widen (k' := k + 20) (n' := s + 5000) (show k + 16 + 2 + 0 ≤ k + 20 by omega) (show s + 1900 + 3100 + 0 ≤ s + 5000 by omega) ?_
    refine r_iload (pc := 959) hC dL_law_959 rfl ?_
    refine r_icmp_eq (pc := 961) (tgt := 966) hC dL_law_961 (by decide) (fun _ => ?_) (fun c => absurd rfl c)
    refine r_iload (pc := 966) hC dL_law_966 rfl ?_
    refine rn_if_ne (pc := 968) (tgt := 983) hC dL_law_968 (by decide) (by omega) (fun _ => ?_) (fun c => absurd c hk0)
    refine r_goto (pc := 983) (tgt := 1628) hC dL_law_983 (by decide) ?_
    refine at_lv (lv' := [(0, .ref b), (1, .ref x), (2, .ref m), (3, .ref o), (4, .int (nI i))]) ⟨rfl, rfl, rfl, rfl, rfl, trivial⟩ ?_
    refine at_widen (k' := k + 20) (n' := s + 5000) (Nat.le_refl _) (Nat.le_refl _) ?_
    exact nx _ ⟨_, _, _, _, hZ2, hM2, hJ2, ho2, hN2⟩
set_option maxHeartbeats 4000000 in
set_option maxRecDepth 100000 in
theorem lc_alarm {Γ : Cx} {G : Ids} {V : Vx} {S : Ps} {Y : Lay} {σ : Sg} {M : Nat → Nat} {b x m o i n k s t L : Nat} {xs : Nat → Int32} (hC : Ctx Γ G V code RL room_1 9) (hX : ScX Γ V b L xs) (hL : L ≤ 2560) (hi : i + 5 ≤ L) (hn5 : n ≤ 511) (hZ : RC G S Y σ x) (hM : RM S M σ m t) (hJ : Inv σ n) (ho : isK S 10 o) (hoN : pN S o = 1) (hk : k + 20 ≤ 601024) (hs : s + 5000 ≤ 7293034) (nx : ∀ S', JL G S' x m o (n + 1) → At Γ G V (k + 20) (s + 5000) S' [(0, .ref b), (1, .ref x), (2, .ref m), (3, .ref o), (4, .int (nI i))] 1628 []) : At Γ G V k s S [(0, .ref b), (1, .ref x), (2, .ref m), (3, .ref o), (4, .int (nI i))] 986 [] := by
  have hk1 : k + 16 ≤ room_1.cells := Nat.le_trans (Nat.add_le_add_left (by decide) k) hk
  have hk2 : k + 16 + 2 ≤ room_1.cells := Nat.le_trans (Nat.add_le_add_left (show 18 ≤ 20 by decide) k) hk
  have hs1 : s + 1900 ≤ room_1.slots := Nat.le_trans (Nat.add_le_add_left (by decide) s) hs
  have hs2 : s + 1900 + 3100 ≤ room_1.slots := hs
  first | refine r_aload_n (pc := 986) hC dL_law_986 rfl ?_ | refine r_aload_nN (pc := 986) hC dL_law_986 rfl ?_
  first | refine r_aload_n (pc := 987) hC dL_law_987 rfl ?_ | refine r_aload_nN (pc := 987) hC dL_law_987 rfl ?_
  refine r_iload (pc := 988) hC dL_law_988 rfl ?_
  refine r_iconst (pc := 990) (nI 1) hC dL_law_990 (by decide) ?_
  first | refine rn_iadd (pc := 991) hC dL_law_991 ?_ | refine r_iadd (pc := 991) hC dL_law_991 ?_
  refine r_sld (pc := 992) hC hX hL (by omega) dL_law_992 ?_
  first | refine rb_if_eq (pc := 993) (tgt := 1000) hC dL_law_993 (by decide) (fun c993 => ?_) (fun c993 => ?_) | refine rn_if_eq (pc := 993) (tgt := 1000) hC dL_law_993 (by decide) (by omega) (fun c993 => ?_) (fun c993 => ?_) | refine ri_if_eq (pc := 993) (tgt := 1000) hC dL_law_993 (by decide) (fun c993 => ?_) (fun c993 => ?_)
  · -- taken
    refine r_iconst (pc := 1000) (nI 0) hC dL_law_1000 (by decide) ?_
    refine r_callV (pc := 1001) hC (cp_alarm hC.fl hZ hJ hn5 (q := false)) kv_L_132 cls5 hZ.kx rfl rfl (Nat.le_of_ble_eq_true rfl) ⟨by decide, by decide, Nat.le_trans (Nat.add_le_add_left (show rm_X4_alarm.cells ≤ 16 by decide) _) hk1, Nat.le_trans (Nat.add_le_add_left (show rm_X4_alarm.slots ≤ 1900 by decide) _) hs1⟩ dL_law_1001 (fun _ _ h => h.elim) (fun v1 S1 h1 => ?_)
    obtain ⟨rfl, hF1, Y1, hZ1⟩ := h1
    have hM1 := hM.fr hF1 (fun q _ hp => cmP hp)
    have ho1 := hF1.K ho
    have hN1 := hF1.N ho (ncP ho)
    refine at_widen (k' := k + 16) (n' := s + 1900) (Nat.add_le_add_left (by decide) k) (Nat.add_le_add_left (by decide) s) ?_
    first | refine r_aload_n (pc := 1004) hC dL_law_1004 rfl ?_ | refine r_aload_nN (pc := 1004) hC dL_law_1004 rfl ?_
    first | refine r_aload_n (pc := 1005) hC dL_law_1005 rfl ?_ | refine r_aload_nN (pc := 1005) hC dL_law_1005 rfl ?_
    refine r_iload (pc := 1006) hC dL_law_1006 rfl ?_
    refine r_iconst (pc := 1008) (nI 1) hC dL_law_1008 (by decide) ?_
    first | refine rn_iadd (pc := 1009) hC dL_law_1009 ?_ | refine r_iadd (pc := 1009) hC dL_law_1009 ?_
    refine r_sld (pc := 1010) hC hX hL (by omega) dL_law_1010 ?_
    first | refine rb_if_eq (pc := 1011) (tgt := 1018) hC dL_law_1011 (by decide) (fun c1011 => ?_) (fun c1011 => ?_) | refine rn_if_eq (pc := 1011) (tgt := 1018) hC dL_law_1011 (by decide) (by omega) (fun c1011 => ?_) (fun c1011 => ?_) | refine ri_if_eq (pc := 1011) (tgt := 1018) hC dL_law_1011 (by decide) (fun c1011 => ?_) (fun c1011 => ?_)
    · -- taken
      refine r_iconst (pc := 1018) (nI 0) hC dL_law_1018 (by decide) ?_
      refine r_callV (pc := 1019) hC (cq_alarm hC.fl hM1 hJ.1 (q := false)) kv_L_136 cls6 hM1.k6 rfl rfl (Nat.le_of_ble_eq_true rfl) ⟨by decide, by decide, Nat.le_trans (Nat.add_le_add_left (show rm_X5_alarm.cells ≤ 2 by decide) _) hk2, Nat.le_trans (Nat.add_le_add_left (show rm_X5_alarm.slots ≤ 3100 by decide) _) hs2⟩ dL_law_1019 (fun _ _ h => h.elim) (fun v2 S2 h2 => ?_)
      refine at_widen (k' := k + 16 + 2) (n' := s + 1900 + 3100) (Nat.add_le_add_left (by decide) _) (Nat.add_le_add_left (by decide) _) ?_
      rcases h2 with ⟨-, rfl, hF2, M2, hM2⟩ | ⟨hk0, -⟩
      · skip
        have hZ2 := hZ1.frM hF2 (fun q _ hp => mcP hp)
        have ho2 := hF2.K ho1
        have hN2 : pN S2 o = 1 := (hF2.N ho1 (ncM ho1)).trans (hN1.trans hoN)
        have hJ2 := li_alarm (v := false) hJ
        refine r_icmp_eq (pc := 1022) (tgt := 1628) hC dL_law_1022 (by decide) (fun _ => ?_) (fun c => absurd rfl c)
        refine at_lv (lv' := [(0, .ref b), (1, .ref x), (2, .ref m), (3, .ref o), (4, .int (nI i))]) ⟨rfl, rfl, rfl, rfl, rfl, trivial⟩ ?_
        refine at_widen (k' := k + 20) (n' := s + 5000) (show k + 16 + 2 ≤ k + 20 by omega) (Nat.le_refl _) ?_
        exact nx _ ⟨_, _, _, _, hZ2, hM2, hJ2, ho2, hN2⟩
      · exact absurd rfl hk0
    · -- not
      exact absurd c993 c1011
  · -- not
    refine r_iconst (pc := 996) (nI 1) hC dL_law_996 (by decide) ?_
    refine r_goto (pc := 997) (tgt := 1001) hC dL_law_997 (by decide) ?_
    refine r_callV (pc := 1001) hC (cp_alarm hC.fl hZ hJ hn5 (q := true)) kv_L_132 cls5 hZ.kx rfl rfl (Nat.le_of_ble_eq_true rfl) ⟨by decide, by decide, Nat.le_trans (Nat.add_le_add_left (show rm_X4_alarm.cells ≤ 16 by decide) _) hk1, Nat.le_trans (Nat.add_le_add_left (show rm_X4_alarm.slots ≤ 1900 by decide) _) hs1⟩ dL_law_1001 (fun _ _ h => h.elim) (fun v1 S1 h1 => ?_)
    obtain ⟨rfl, hF1, Y1, hZ1⟩ := h1
    have hM1 := hM.fr hF1 (fun q _ hp => cmP hp)
    have ho1 := hF1.K ho
    have hN1 := hF1.N ho (ncP ho)
    refine at_widen (k' := k + 16) (n' := s + 1900) (Nat.add_le_add_left (by decide) k) (Nat.add_le_add_left (by decide) s) ?_
    first | refine r_aload_n (pc := 1004) hC dL_law_1004 rfl ?_ | refine r_aload_nN (pc := 1004) hC dL_law_1004 rfl ?_
    first | refine r_aload_n (pc := 1005) hC dL_law_1005 rfl ?_ | refine r_aload_nN (pc := 1005) hC dL_law_1005 rfl ?_
    refine r_iload (pc := 1006) hC dL_law_1006 rfl ?_
    refine r_iconst (pc := 1008) (nI 1) hC dL_law_1008 (by decide) ?_
    first | refine rn_iadd (pc := 1009) hC dL_law_1009 ?_ | refine r_iadd (pc := 1009) hC dL_law_1009 ?_
    refine r_sld (pc := 1010) hC hX hL (by omega) dL_law_1010 ?_
    first | refine rb_if_eq (pc := 1011) (tgt := 1018) hC dL_law_1011 (by decide) (fun c1011 => ?_) (fun c1011 => ?_) | refine rn_if_eq (pc := 1011) (tgt := 1018) hC dL_law_1011 (by decide) (by omega) (fun c1011 => ?_) (fun c1011 => ?_) | refine ri_if_eq (pc := 1011) (tgt := 1018) hC dL_law_1011 (by decide) (fun c1011 => ?_) (fun c1011 => ?_)
    · -- taken
      exact absurd c1011 c993
    · -- not
      refine r_iconst (pc := 1014) (nI 1) hC dL_law_1014 (by decide) ?_
      refine r_goto (pc := 1015) (tgt := 1019) hC dL_law_1015 (by decide) ?_
      refine r_callV (pc := 1019) hC (cq_alarm hC.fl hM1 hJ.1 (q := true)) kv_L_136 cls6 hM1.k6 rfl rfl (Nat.le_of_ble_eq_true rfl) ⟨by decide, by decide, Nat.le_trans (Nat.add_le_add_left (show rm_X5_alarm.cells ≤ 2 by decide) _) hk2, Nat.le_trans (Nat.add_le_add_left (show rm_X5_alarm.slots ≤ 3100 by decide) _) hs2⟩ dL_law_1019 (fun _ _ h => h.elim) (fun v2 S2 h2 => ?_)
      refine at_widen (k' := k + 16 + 2) (n' := s + 1900 + 3100) (Nat.add_le_add_left (by decide) _) (Nat.add_le_add_left (by decide) _) ?_
      rcases h2 with ⟨-, rfl, hF2, M2, hM2⟩ | ⟨hk0, -⟩
      · skip
        have hZ2 := hZ1.frM hF2 (fun q _ hp => mcP hp)
        have ho2 := hF2.K ho1
        have hN2 : pN S2 o = 1 := (hF2.N ho1 (ncM ho1)).trans (hN1.trans hoN)
        have hJ2 := li_alarm (v := true) hJ
        refine r_icmp_eq (pc := 1022) (tgt := 1628) hC dL_law_1022 (by decide) (fun _ => ?_) (fun c => absurd rfl c)
        refine at_lv (lv' := [(0, .ref b), (1, .ref x), (2, .ref m), (3, .ref o), (4, .int (nI i))]) ⟨rfl, rfl, rfl, rfl, rfl, trivial⟩ ?_
        refine at_widen (k' := k + 20) (n' := s + 5000) (show k + 16 + 2 ≤ k + 20 by omega) (Nat.le_refl _) ?_
        exact nx _ ⟨_, _, _, _, hZ2, hM2, hJ2, ho2, hN2⟩
      · exact absurd rfl hk0
set_option maxHeartbeats 4000000 in
set_option maxRecDepth 100000 in
theorem lc_request {Γ : Cx} {G : Ids} {V : Vx} {S : Ps} {Y : Lay} {σ : Sg} {M : Nat → Nat} {b x m o i n k s t L : Nat} {xs : Nat → Int32} (hC : Ctx Γ G V code RL room_1 9) (hX : ScX Γ V b L xs) (hL : L ≤ 2560) (hi : i + 5 ≤ L) (hn5 : n ≤ 511) (hZ : RC G S Y σ x) (hM : RM S M σ m t) (hJ : Inv σ n) (ho : isK S 10 o) (hoN : pN S o = 1) (hk : k + 20 ≤ 601024) (hs : s + 5000 ≤ 7293034) (nx : ∀ S', JL G S' x m o (n + 1) → At Γ G V (k + 20) (s + 5000) S' [(0, .ref b), (1, .ref x), (2, .ref m), (3, .ref o), (4, .int (nI i))] 1628 []) : At Γ G V k s S [(0, .ref b), (1, .ref x), (2, .ref m), (3, .ref o), (4, .int (nI i))] 1027 [] := by
  have hk1 : k + 16 ≤ room_1.cells := Nat.le_trans (Nat.add_le_add_left (by decide) k) hk
  have hk2 : k + 16 + 2 ≤ room_1.cells := Nat.le_trans (Nat.add_le_add_left (show 18 ≤ 20 by decide) k) hk
  have hs1 : s + 1900 ≤ room_1.slots := Nat.le_trans (Nat.add_le_add_left (by decide) s) hs
  have hs2 : s + 1900 + 3100 ≤ room_1.slots := hs
  have hmv : mv σ ≤ 511 := by have := hJ.2.2.1.1; omega
  first | refine r_aload_n (pc := 1027) hC dL_law_1027 rfl ?_ | refine r_aload_nN (pc := 1027) hC dL_law_1027 rfl ?_
  first | refine r_aload_n (pc := 1028) hC dL_law_1028 rfl ?_ | refine r_aload_nN (pc := 1028) hC dL_law_1028 rfl ?_
  refine r_iload (pc := 1029) hC dL_law_1029 rfl ?_
  refine r_iconst (pc := 1031) (nI 1) hC dL_law_1031 (by decide) ?_
  first | refine rn_iadd (pc := 1032) hC dL_law_1032 ?_ | refine r_iadd (pc := 1032) hC dL_law_1032 ?_
  refine r_sld (pc := 1033) hC hX hL (by omega) dL_law_1033 ?_
  first | refine r_aload_n (pc := 1034) hC dL_law_1034 rfl ?_ | refine r_aload_nN (pc := 1034) hC dL_law_1034 rfl ?_
  refine r_iload (pc := 1035) hC dL_law_1035 rfl ?_
  refine r_iconst (pc := 1037) (nI 2) hC dL_law_1037 (by decide) ?_
  first | refine rn_iadd (pc := 1038) hC dL_law_1038 ?_ | refine r_iadd (pc := 1038) hC dL_law_1038 ?_
  refine r_sld (pc := 1039) hC hX hL (by omega) dL_law_1039 ?_
  first | refine r_aload_n (pc := 1040) hC dL_law_1040 rfl ?_ | refine r_aload_nN (pc := 1040) hC dL_law_1040 rfl ?_
  refine r_callSW (pc := 1041) hC (cl_request hC.fl hZ hJ hn5 ho hoN) ks_L_137 rfl rfl (Nat.le_of_ble_eq_true rfl) ⟨by decide, by decide, Nat.le_trans (Nat.add_le_add_left (show rm_L_request.cells ≤ 16 by decide) _) hk1, Nat.le_trans (Nat.add_le_add_left (show rm_L_request.slots ≤ 1900 by decide) _) hs1⟩ dL_law_1041 (fun _ _ h => h.elim) (fun v1 S1 h1 => ?_)
  obtain ⟨rfl, hF1, hN1, hR1⟩ := h1
  have hM1 := hM.fr hF1 (fun q _ hp => hp.elim cmP (fun e => e ▸ ncM ho))
  have ho1 := hF1.K ho
  refine at_widen (k' := k + 16) (n' := s + 1900) (Nat.add_le_add_left (by decide) k) (Nat.add_le_add_left (by decide) s) ?_
  refine r_istore (pc := 1044) hC dL_law_1044 (by decide) ?_
  first | refine r_aload_n (pc := 1046) hC dL_law_1046 rfl ?_ | refine r_aload_nN (pc := 1046) hC dL_law_1046 rfl ?_
  first | refine r_aload_n (pc := 1047) hC dL_law_1047 rfl ?_ | refine r_aload_nN (pc := 1047) hC dL_law_1047 rfl ?_
  refine r_iload (pc := 1048) hC dL_law_1048 rfl ?_
  refine r_iconst (pc := 1050) (nI 1) hC dL_law_1050 (by decide) ?_
  first | refine rn_iadd (pc := 1051) hC dL_law_1051 ?_ | refine r_iadd (pc := 1051) hC dL_law_1051 ?_
  refine r_sld (pc := 1052) hC hX hL (by omega) dL_law_1052 ?_
  first | refine r_aload_n (pc := 1053) hC dL_law_1053 rfl ?_ | refine r_aload_nN (pc := 1053) hC dL_law_1053 rfl ?_
  refine r_iload (pc := 1054) hC dL_law_1054 rfl ?_
  refine r_iconst (pc := 1056) (nI 2) hC dL_law_1056 (by decide) ?_
  first | refine rn_iadd (pc := 1057) hC dL_law_1057 ?_ | refine r_iadd (pc := 1057) hC dL_law_1057 ?_
  refine r_sld (pc := 1058) hC hX hL (by omega) dL_law_1058 ?_
  refine r_callV (pc := 1059) hC (cq_request hC.fl hM1 hJ.1 hmv) kv_L_139 cls6 hM1.k6 rfl rfl (Nat.le_of_ble_eq_true rfl) ⟨by decide, by decide, Nat.le_trans (Nat.add_le_add_left (show rm_X5_request.cells ≤ 2 by decide) _) hk2, Nat.le_trans (Nat.add_le_add_left (show rm_X5_request.slots ≤ 3100 by decide) _) hs2⟩ dL_law_1059 (fun _ _ h => h.elim) (fun v2 S2 h2 => ?_)
  refine at_widen (k' := k + 16 + 2) (n' := s + 1900 + 3100) (Nat.add_le_add_left (by decide) _) (Nat.add_le_add_left (by decide) _) ?_
  rcases h2 with ⟨hk0, rfl, hF2, M2, hM2⟩ | ⟨hk0, rfl, hF2, M2, hM2⟩
  · skip
    obtain ⟨⟨Y1, hZ1⟩, hv1⟩ := or_y hR1 hk0
    have hZ2 := hZ1.frM hF2 (fun q _ hp => mcP hp)
    have ho2 := hF2.K ho1
    have hN2 : pN S2 o = 1 := (hF2.N ho1 (ncM ho1)).trans (hN1.trans hoN)
    have hJ2 := li_request hJ hk0
    have hv2 := (congrFun (hF2.J ho1 (ncM ho1)) 0).trans hv1
    rw [hk0]
    refine r_istore (pc := 1062) hC dL_law_1062 (by decide) ?_
    first | refine r_aload_n (pc := 1064) hC dL_law_1064 rfl ?_ | refine r_aload_nN (pc := 1064) hC dL_law_1064 rfl ?_
    refine r_callV (pc := 1065) hC (cm_thrown hC.fl hM2 hJ2.1) kv_L_91 cls6 hM2.k6 rfl rfl (Nat.le_of_ble_eq_true rfl) ⟨by decide, by decide, hk2, hs2⟩ dL_law_1065 (fun _ _ h => h.elim) (fun v3 S3 h3 => ?_)
    obtain ⟨rfl, rfl⟩ := h3
    refine at_widen (k' := k + 20) (n' := s + 5000) (show k + 16 + 2 + 0 ≤ k + 20 by omega) (show s + 1900 + 3100 + 0 ≤ s + 5000 by omega) ?_
    refine r_iload (pc := 1068) hC dL_law_1068 rfl ?_
    refine r_icmp_eq (pc := 1070) (tgt := 1075) hC dL_law_1070 (by decide) (fun _ => ?_) (fun c => absurd rfl c)
    refine r_iload (pc := 1075) hC dL_law_1075 rfl ?_
    refine rn_if_ne (pc := 1077) (tgt := 1092) hC dL_law_1077 (by decide) (by omega) (fun c => absurd rfl c) (fun _ => ?_)
    first | refine r_aload_n (pc := 1080) hC dL_law_1080 rfl ?_ | refine r_aload_nN (pc := 1080) hC dL_law_1080 rfl ?_
    refine r_iconst (pc := 1081) (nI 0) hC dL_law_1081 (by decide) ?_
    refine r_jald (pc := 1082) hC dL_law_1082 ho2 (by rw [hN2]; decide) (by rw [hN2]; decide) hv2 ?_
    refine r_iload (pc := 1083) hC dL_law_1083 rfl ?_
    refine r_i2l (pc := 1085) hC dL_law_1085 ?_
    refine r_lcmp (pc := 1086) hC dL_law_1086 ?_
    rw [(lg_cmp_eq _ _).mpr rfl]
    refine r_if_eq (pc := 1087) (tgt := 1092) hC dL_law_1087 (by decide) (fun _ => ?_) (fun c => absurd rfl c)
    refine r_goto (pc := 1092) (tgt := 1628) hC dL_law_1092 (by decide) ?_
    refine at_lv (lv' := [(0, .ref b), (1, .ref x), (2, .ref m), (3, .ref o), (4, .int (nI i))]) ⟨rfl, rfl, rfl, rfl, rfl, trivial⟩ ?_
    refine at_widen (k' := k + 20) (n' := s + 5000) (Nat.le_refl _) (Nat.le_refl _) ?_
    exact nx _ ⟨_, _, _, _, hZ2, hM2, hJ2, ho2, hN2⟩
  · skip
    obtain ⟨Y1, hZ1⟩ := or_n hR1 hk0
    have hZ2 := hZ1.frM hF2 (fun q _ hp => mcP hp)
    have ho2 := hF2.K ho1
    have hN2 : pN S2 o = 1 := (hF2.N ho1 (ncM ho1)).trans (hN1.trans hoN)
    have hJ2 := hJ.le (Nat.le_succ n)
    have hk3 := kd_le _ (show ([(1, inB σ (xs (i + 1))), (1, inD σ (xs (i + 2)))]).all (fun q => decide (q.1 ≤ 3)) = true from rfl)
    refine r_istore (pc := 1062) hC dL_law_1062 (by decide) ?_
    first | refine r_aload_n (pc := 1064) hC dL_law_1064 rfl ?_ | refine r_aload_nN (pc := 1064) hC dL_law_1064 rfl ?_
    refine r_callV (pc := 1065) hC (cm_thrown hC.fl hM2 hJ2.1) kv_L_91 cls6 hM2.k6 rfl rfl (Nat.le_of_ble_eq_true rfl) ⟨by decide, by decide, hk2, hs2⟩ dL_law_1065 (fun _ _ h => h.elim) (fun v3 S3 h3 => ?_)
    obtain ⟨rfl, rfl⟩ := h3
    refine at_widen (k' := k + 20) (n' := s + 5000) (show k + 16 + 2 + 0 ≤ k + 20 by omega) (show s + 1900 + 3100 + 0 ≤ s + 5000 by omega) ?_
    refine r_iload (pc := 1068) hC dL_law_1068 rfl ?_
    refine r_icmp_eq (pc := 1070) (tgt := 1075) hC dL_law_1070 (by decide) (fun _ => ?_) (fun c => absurd rfl c)
    refine r_iload (pc := 1075) hC dL_law_1075 rfl ?_
    refine rn_if_ne (pc := 1077) (tgt := 1092) hC dL_law_1077 (by decide) (by omega) (fun _ => ?_) (fun c => absurd c hk0)
    refine r_goto (pc := 1092) (tgt := 1628) hC dL_law_1092 (by decide) ?_
    refine at_lv (lv' := [(0, .ref b), (1, .ref x), (2, .ref m), (3, .ref o), (4, .int (nI i))]) ⟨rfl, rfl, rfl, rfl, rfl, trivial⟩ ?_
    refine at_widen (k' := k + 20) (n' := s + 5000) (Nat.le_refl _) (Nat.le_refl _) ?_
    exact nx _ ⟨_, _, _, _, hZ2, hM2, hJ2, ho2, hN2⟩
set_option maxHeartbeats 4000000 in
set_option maxRecDepth 100000 in
theorem lc_wouldBe {Γ : Cx} {G : Ids} {V : Vx} {S : Ps} {Y : Lay} {σ : Sg} {M : Nat → Nat} {b x m o i n k s t L : Nat} {xs : Nat → Int32} (hC : Ctx Γ G V code RL room_1 9) (hX : ScX Γ V b L xs) (hL : L ≤ 2560) (hi : i + 5 ≤ L) (hn5 : n ≤ 511) (hZ : RC G S Y σ x) (hM : RM S M σ m t) (hJ : Inv σ n) (ho : isK S 10 o) (hoN : pN S o = 1) (hk : k + 20 ≤ 601024) (hs : s + 5000 ≤ 7293034) (nx : ∀ S', JL G S' x m o (n + 1) → At Γ G V (k + 20) (s + 5000) S' [(0, .ref b), (1, .ref x), (2, .ref m), (3, .ref o), (4, .int (nI i))] 1628 []) : At Γ G V k s S [(0, .ref b), (1, .ref x), (2, .ref m), (3, .ref o), (4, .int (nI i))] 1095 [] := by
  have hk1 : k + 16 ≤ room_1.cells := Nat.le_trans (Nat.add_le_add_left (by decide) k) hk
  have hk2 : k + 16 + 2 ≤ room_1.cells := Nat.le_trans (Nat.add_le_add_left (show 18 ≤ 20 by decide) k) hk
  have hs1 : s + 1900 ≤ room_1.slots := Nat.le_trans (Nat.add_le_add_left (by decide) s) hs
  have hs2 : s + 1900 + 3100 ≤ room_1.slots := hs
  first | refine r_aload_n (pc := 1095) hC dL_law_1095 rfl ?_ | refine r_aload_nN (pc := 1095) hC dL_law_1095 rfl ?_
  first | refine r_aload_n (pc := 1096) hC dL_law_1096 rfl ?_ | refine r_aload_nN (pc := 1096) hC dL_law_1096 rfl ?_
  refine r_iload (pc := 1097) hC dL_law_1097 rfl ?_
  refine r_iconst (pc := 1099) (nI 1) hC dL_law_1099 (by decide) ?_
  first | refine rn_iadd (pc := 1100) hC dL_law_1100 ?_ | refine r_iadd (pc := 1100) hC dL_law_1100 ?_
  refine r_sld (pc := 1101) hC hX hL (by omega) dL_law_1101 ?_
  first | refine r_aload_n (pc := 1102) hC dL_law_1102 rfl ?_ | refine r_aload_nN (pc := 1102) hC dL_law_1102 rfl ?_
  refine r_iload (pc := 1103) hC dL_law_1103 rfl ?_
  refine r_iconst (pc := 1105) (nI 2) hC dL_law_1105 (by decide) ?_
  first | refine rn_iadd (pc := 1106) hC dL_law_1106 ?_ | refine r_iadd (pc := 1106) hC dL_law_1106 ?_
  refine r_sld (pc := 1107) hC hX hL (by omega) dL_law_1107 ?_
  first | refine r_aload_n (pc := 1108) hC dL_law_1108 rfl ?_ | refine r_aload_nN (pc := 1108) hC dL_law_1108 rfl ?_
  refine r_callSW (pc := 1109) hC (cl_wouldBe hC.fl hZ hJ hn5 ho hoN) ks_L_140 rfl rfl (Nat.le_of_ble_eq_true rfl) ⟨by decide, by decide, Nat.le_trans (Nat.add_le_add_left (show rm_L_wouldBe.cells ≤ 16 by decide) _) hk1, Nat.le_trans (Nat.add_le_add_left (show rm_L_wouldBe.slots ≤ 1900 by decide) _) hs1⟩ dL_law_1109 (fun _ _ h => h.elim) (fun v1 S1 h1 => ?_)
  obtain ⟨rfl, hF1, hN1, hR1⟩ := h1
  have hM1 := hM.fr hF1 (fun q _ hp => hp.elim cmP (fun e => e ▸ ncM ho))
  have ho1 := hF1.K ho
  refine at_widen (k' := k + 16) (n' := s + 1900) (Nat.add_le_add_left (by decide) k) (Nat.add_le_add_left (by decide) s) ?_
  refine r_istore (pc := 1112) hC dL_law_1112 (by decide) ?_
  first | refine r_aload_n (pc := 1114) hC dL_law_1114 rfl ?_ | refine r_aload_nN (pc := 1114) hC dL_law_1114 rfl ?_
  first | refine r_aload_n (pc := 1115) hC dL_law_1115 rfl ?_ | refine r_aload_nN (pc := 1115) hC dL_law_1115 rfl ?_
  refine r_iload (pc := 1116) hC dL_law_1116 rfl ?_
  refine r_iconst (pc := 1118) (nI 1) hC dL_law_1118 (by decide) ?_
  first | refine rn_iadd (pc := 1119) hC dL_law_1119 ?_ | refine r_iadd (pc := 1119) hC dL_law_1119 ?_
  refine r_sld (pc := 1120) hC hX hL (by omega) dL_law_1120 ?_
  first | refine r_aload_n (pc := 1121) hC dL_law_1121 rfl ?_ | refine r_aload_nN (pc := 1121) hC dL_law_1121 rfl ?_
  refine r_iload (pc := 1122) hC dL_law_1122 rfl ?_
  refine r_iconst (pc := 1124) (nI 2) hC dL_law_1124 (by decide) ?_
  first | refine rn_iadd (pc := 1125) hC dL_law_1125 ?_ | refine r_iadd (pc := 1125) hC dL_law_1125 ?_
  refine r_sld (pc := 1126) hC hX hL (by omega) dL_law_1126 ?_
  refine r_callV (pc := 1127) hC (cq_wouldBe hC.fl hM1 hJ.1) kv_L_142 cls6 hM1.k6 rfl rfl (Nat.le_of_ble_eq_true rfl) ⟨by decide, by decide, Nat.le_trans (Nat.add_le_add_left (show rm_X5_wouldBe.cells ≤ 2 by decide) _) hk2, Nat.le_trans (Nat.add_le_add_left (show rm_X5_wouldBe.slots ≤ 3100 by decide) _) hs2⟩ dL_law_1127 (fun _ _ h => h.elim) (fun v2 S2 h2 => ?_)
  refine at_widen (k' := k + 16 + 2) (n' := s + 1900 + 3100) (Nat.add_le_add_left (by decide) _) (Nat.add_le_add_left (by decide) _) ?_
  rcases h2 with ⟨hk0, rfl, hF2, M2, hM2⟩ | ⟨hk0, rfl, hF2, M2, hM2⟩
  · skip
    obtain ⟨⟨Y1, hZ1⟩, hv1⟩ := or_y hR1 hk0
    have hZ2 := hZ1.frM hF2 (fun q _ hp => mcP hp)
    have ho2 := hF2.K ho1
    have hN2 : pN S2 o = 1 := (hF2.N ho1 (ncM ho1)).trans (hN1.trans hoN)
    have hJ2 := hJ.le (Nat.le_succ n)
    have hv2 := (congrFun (hF2.J ho1 (ncM ho1)) 0).trans hv1
    rw [hk0]
    refine r_istore (pc := 1130) hC dL_law_1130 (by decide) ?_
    first | refine r_aload_n (pc := 1132) hC dL_law_1132 rfl ?_ | refine r_aload_nN (pc := 1132) hC dL_law_1132 rfl ?_
    refine r_callV (pc := 1133) hC (cm_thrown hC.fl hM2 hJ2.1) kv_L_91 cls6 hM2.k6 rfl rfl (Nat.le_of_ble_eq_true rfl) ⟨by decide, by decide, hk2, hs2⟩ dL_law_1133 (fun _ _ h => h.elim) (fun v3 S3 h3 => ?_)
    obtain ⟨rfl, rfl⟩ := h3
    refine at_widen (k' := k + 20) (n' := s + 5000) (show k + 16 + 2 + 0 ≤ k + 20 by omega) (show s + 1900 + 3100 + 0 ≤ s + 5000 by omega) ?_
    refine r_iload (pc := 1136) hC dL_law_1136 rfl ?_
    refine r_icmp_eq (pc := 1138) (tgt := 1143) hC dL_law_1138 (by decide) (fun _ => ?_) (fun c => absurd rfl c)
    refine r_iload (pc := 1143) hC dL_law_1143 rfl ?_
    refine rn_if_ne (pc := 1145) (tgt := 1160) hC dL_law_1145 (by decide) (by omega) (fun c => absurd rfl c) (fun _ => ?_)
    first | refine r_aload_n (pc := 1148) hC dL_law_1148 rfl ?_ | refine r_aload_nN (pc := 1148) hC dL_law_1148 rfl ?_
    refine r_iconst (pc := 1149) (nI 0) hC dL_law_1149 (by decide) ?_
    refine r_jald (pc := 1150) hC dL_law_1150 ho2 (by rw [hN2]; decide) (by rw [hN2]; decide) hv2 ?_
    refine r_iload (pc := 1151) hC dL_law_1151 rfl ?_
    refine r_i2l (pc := 1153) hC dL_law_1153 ?_
    refine r_lcmp (pc := 1154) hC dL_law_1154 ?_
    rw [(lg_cmp_eq _ _).mpr rfl]
    refine r_if_eq (pc := 1155) (tgt := 1160) hC dL_law_1155 (by decide) (fun _ => ?_) (fun c => absurd rfl c)
    refine r_goto (pc := 1160) (tgt := 1628) hC dL_law_1160 (by decide) ?_
    refine at_lv (lv' := [(0, .ref b), (1, .ref x), (2, .ref m), (3, .ref o), (4, .int (nI i))]) ⟨rfl, rfl, rfl, rfl, rfl, trivial⟩ ?_
    refine at_widen (k' := k + 20) (n' := s + 5000) (Nat.le_refl _) (Nat.le_refl _) ?_
    exact nx _ ⟨_, _, _, _, hZ2, hM2, hJ2, ho2, hN2⟩
  · skip
    obtain ⟨Y1, hZ1⟩ := or_n hR1 hk0
    have hZ2 := hZ1.frM hF2 (fun q _ hp => mcP hp)
    have ho2 := hF2.K ho1
    have hN2 : pN S2 o = 1 := (hF2.N ho1 (ncM ho1)).trans (hN1.trans hoN)
    have hJ2 := hJ.le (Nat.le_succ n)
    have hk3 := kd_le _ (show ([(1, inB σ (xs (i + 1))), (1, inD σ (xs (i + 2)))]).all (fun q => decide (q.1 ≤ 3)) = true from rfl)
    refine r_istore (pc := 1130) hC dL_law_1130 (by decide) ?_
    first | refine r_aload_n (pc := 1132) hC dL_law_1132 rfl ?_ | refine r_aload_nN (pc := 1132) hC dL_law_1132 rfl ?_
    refine r_callV (pc := 1133) hC (cm_thrown hC.fl hM2 hJ2.1) kv_L_91 cls6 hM2.k6 rfl rfl (Nat.le_of_ble_eq_true rfl) ⟨by decide, by decide, hk2, hs2⟩ dL_law_1133 (fun _ _ h => h.elim) (fun v3 S3 h3 => ?_)
    obtain ⟨rfl, rfl⟩ := h3
    refine at_widen (k' := k + 20) (n' := s + 5000) (show k + 16 + 2 + 0 ≤ k + 20 by omega) (show s + 1900 + 3100 + 0 ≤ s + 5000 by omega) ?_
    refine r_iload (pc := 1136) hC dL_law_1136 rfl ?_
    refine r_icmp_eq (pc := 1138) (tgt := 1143) hC dL_law_1138 (by decide) (fun _ => ?_) (fun c => absurd rfl c)
    refine r_iload (pc := 1143) hC dL_law_1143 rfl ?_
    refine rn_if_ne (pc := 1145) (tgt := 1160) hC dL_law_1145 (by decide) (by omega) (fun _ => ?_) (fun c => absurd c hk0)
    refine r_goto (pc := 1160) (tgt := 1628) hC dL_law_1160 (by decide) ?_
    refine at_lv (lv' := [(0, .ref b), (1, .ref x), (2, .ref m), (3, .ref o), (4, .int (nI i))]) ⟨rfl, rfl, rfl, rfl, rfl, trivial⟩ ?_
    refine at_widen (k' := k + 20) (n' := s + 5000) (Nat.le_refl _) (Nat.le_refl _) ?_
    exact nx _ ⟨_, _, _, _, hZ2, hM2, hJ2, ho2, hN2⟩
set_option maxHeartbeats 4000000 in
set_option maxRecDepth 100000 in
theorem lc_now {Γ : Cx} {G : Ids} {V : Vx} {S : Ps} {Y : Lay} {σ : Sg} {M : Nat → Nat} {b x m o i n k s t L : Nat} {xs : Nat → Int32} (hC : Ctx Γ G V code RL room_1 9) (hX : ScX Γ V b L xs) (hL : L ≤ 2560) (hi : i + 5 ≤ L) (hn5 : n ≤ 511) (hZ : RC G S Y σ x) (hM : RM S M σ m t) (hJ : Inv σ n) (ho : isK S 10 o) (hoN : pN S o = 1) (hk : k + 20 ≤ 601024) (hs : s + 5000 ≤ 7293034) (nx : ∀ S', JL G S' x m o (n + 1) → At Γ G V (k + 20) (s + 5000) S' [(0, .ref b), (1, .ref x), (2, .ref m), (3, .ref o), (4, .int (nI i))] 1628 []) : At Γ G V k s S [(0, .ref b), (1, .ref x), (2, .ref m), (3, .ref o), (4, .int (nI i))] 1163 [] := by
  have hk1 : k + 16 ≤ room_1.cells := Nat.le_trans (Nat.add_le_add_left (by decide) k) hk
  have hk2 : k + 16 + 2 ≤ room_1.cells := Nat.le_trans (Nat.add_le_add_left (show 18 ≤ 20 by decide) k) hk
  have hs1 : s + 1900 ≤ room_1.slots := Nat.le_trans (Nat.add_le_add_left (by decide) s) hs
  have hs2 : s + 1900 + 3100 ≤ room_1.slots := hs
  first | refine r_aload_n (pc := 1163) hC dL_law_1163 rfl ?_ | refine r_aload_nN (pc := 1163) hC dL_law_1163 rfl ?_
  refine r_callV (pc := 1164) hC (cp_now hC.fl hZ hJ hn5) kv_L_143 cls5 hZ.kx rfl rfl (Nat.le_of_ble_eq_true rfl) ⟨by decide, by decide, Nat.le_trans (Nat.add_le_add_left (show rm_X4_now.cells ≤ 16 by decide) _) hk1, Nat.le_trans (Nat.add_le_add_left (show rm_X4_now.slots ≤ 1900 by decide) _) hs1⟩ dL_law_1164 (fun _ _ h => h.elim) (fun v1 S1 h1 => ?_)
  obtain ⟨rfl, hF1, Y1, hZ1⟩ := h1
  have hM1 := hM.fr hF1 (fun q _ hp => cmP hp)
  have ho1 := hF1.K ho
  have hN1 := hF1.N ho (ncP ho)
  refine at_widen (k' := k + 16) (n' := s + 1900) (Nat.add_le_add_left (by decide) k) (Nat.add_le_add_left (by decide) s) ?_
  first | refine r_aload_n (pc := 1167) hC dL_law_1167 rfl ?_ | refine r_aload_nN (pc := 1167) hC dL_law_1167 rfl ?_
  refine r_callV (pc := 1168) hC (cq_now hC.fl hM1 hJ.1) kv_L_146 cls6 hM1.k6 rfl rfl (Nat.le_of_ble_eq_true rfl) ⟨by decide, by decide, Nat.le_trans (Nat.add_le_add_left (show rm_X5_now.cells ≤ 2 by decide) _) hk2, Nat.le_trans (Nat.add_le_add_left (show rm_X5_now.slots ≤ 3100 by decide) _) hs2⟩ dL_law_1168 (fun _ _ h => h.elim) (fun v2 S2 h2 => ?_)
  refine at_widen (k' := k + 16 + 2) (n' := s + 1900 + 3100) (Nat.add_le_add_left (by decide) _) (Nat.add_le_add_left (by decide) _) ?_
  rcases h2 with ⟨-, rfl, hF2, M2, hM2⟩ | ⟨hk0, -⟩
  · skip
    have hZ2 := hZ1.frM hF2 (fun q _ hp => mcP hp)
    have ho2 := hF2.K ho1
    have hN2 : pN S2 o = 1 := (hF2.N ho1 (ncM ho1)).trans (hN1.trans hoN)
    have hJ2 := hJ.le (Nat.le_succ n)
    refine r_icmp_eq (pc := 1171) (tgt := 1628) hC dL_law_1171 (by decide) (fun _ => ?_) (fun c => absurd rfl c)
    refine at_lv (lv' := [(0, .ref b), (1, .ref x), (2, .ref m), (3, .ref o), (4, .int (nI i))]) ⟨rfl, rfl, rfl, rfl, rfl, trivial⟩ ?_
    refine at_widen (k' := k + 20) (n' := s + 5000) (show k + 16 + 2 ≤ k + 20 by omega) (Nat.le_refl _) ?_
    exact nx _ ⟨_, _, _, _, hZ2, hM2, hJ2, ho2, hN2⟩
  · exact absurd rfl hk0
set_option maxHeartbeats 4000000 in
set_option maxRecDepth 100000 in
theorem lc_inside {Γ : Cx} {G : Ids} {V : Vx} {S : Ps} {Y : Lay} {σ : Sg} {M : Nat → Nat} {b x m o i n k s t L : Nat} {xs : Nat → Int32} (hC : Ctx Γ G V code RL room_1 9) (hX : ScX Γ V b L xs) (hL : L ≤ 2560) (hi : i + 5 ≤ L) (hn5 : n ≤ 511) (hZ : RC G S Y σ x) (hM : RM S M σ m t) (hJ : Inv σ n) (ho : isK S 10 o) (hoN : pN S o = 1) (hk : k + 20 ≤ 601024) (hs : s + 5000 ≤ 7293034) (nx : ∀ S', JL G S' x m o (n + 1) → At Γ G V (k + 20) (s + 5000) S' [(0, .ref b), (1, .ref x), (2, .ref m), (3, .ref o), (4, .int (nI i))] 1628 []) : At Γ G V k s S [(0, .ref b), (1, .ref x), (2, .ref m), (3, .ref o), (4, .int (nI i))] 1176 [] := by
  have hk1 : k + 16 ≤ room_1.cells := Nat.le_trans (Nat.add_le_add_left (by decide) k) hk
  have hk2 : k + 16 + 2 ≤ room_1.cells := Nat.le_trans (Nat.add_le_add_left (show 18 ≤ 20 by decide) k) hk
  have hs1 : s + 1900 ≤ room_1.slots := Nat.le_trans (Nat.add_le_add_left (by decide) s) hs
  have hs2 : s + 1900 + 3100 ≤ room_1.slots := hs
  first | refine r_aload_n (pc := 1176) hC dL_law_1176 rfl ?_ | refine r_aload_nN (pc := 1176) hC dL_law_1176 rfl ?_
  first | refine r_aload_n (pc := 1177) hC dL_law_1177 rfl ?_ | refine r_aload_nN (pc := 1177) hC dL_law_1177 rfl ?_
  refine r_iload (pc := 1178) hC dL_law_1178 rfl ?_
  refine r_iconst (pc := 1180) (nI 1) hC dL_law_1180 (by decide) ?_
  first | refine rn_iadd (pc := 1181) hC dL_law_1181 ?_ | refine r_iadd (pc := 1181) hC dL_law_1181 ?_
  refine r_sld (pc := 1182) hC hX hL (by omega) dL_law_1182 ?_
  first | refine r_aload_n (pc := 1183) hC dL_law_1183 rfl ?_ | refine r_aload_nN (pc := 1183) hC dL_law_1183 rfl ?_
  refine r_callSW (pc := 1184) hC (cl_inside hC.fl hZ hJ hn5 ho hoN) ks_L_147 rfl rfl (Nat.le_of_ble_eq_true rfl) ⟨by decide, by decide, Nat.le_trans (Nat.add_le_add_left (show rm_L_inside.cells ≤ 16 by decide) _) hk1, Nat.le_trans (Nat.add_le_add_left (show rm_L_inside.slots ≤ 1900 by decide) _) hs1⟩ dL_law_1184 (fun _ _ h => h.elim) (fun v1 S1 h1 => ?_)
  obtain ⟨rfl, hF1, hN1, hR1⟩ := h1
  have hM1 := hM.fr hF1 (fun q _ hp => hp.elim cmP (fun e => e ▸ ncM ho))
  have ho1 := hF1.K ho
  refine at_widen (k' := k + 16) (n' := s + 1900) (Nat.add_le_add_left (by decide) k) (Nat.add_le_add_left (by decide) s) ?_
  refine r_istore (pc := 1187) hC dL_law_1187 (by decide) ?_
  first | refine r_aload_n (pc := 1189) hC dL_law_1189 rfl ?_ | refine r_aload_nN (pc := 1189) hC dL_law_1189 rfl ?_
  first | refine r_aload_n (pc := 1190) hC dL_law_1190 rfl ?_ | refine r_aload_nN (pc := 1190) hC dL_law_1190 rfl ?_
  refine r_iload (pc := 1191) hC dL_law_1191 rfl ?_
  refine r_iconst (pc := 1193) (nI 1) hC dL_law_1193 (by decide) ?_
  first | refine rn_iadd (pc := 1194) hC dL_law_1194 ?_ | refine r_iadd (pc := 1194) hC dL_law_1194 ?_
  refine r_sld (pc := 1195) hC hX hL (by omega) dL_law_1195 ?_
  refine r_callV (pc := 1196) hC (cq_inside hC.fl hM1 hJ.1) kv_L_149 cls6 hM1.k6 rfl rfl (Nat.le_of_ble_eq_true rfl) ⟨by decide, by decide, Nat.le_trans (Nat.add_le_add_left (show rm_X5_inside.cells ≤ 2 by decide) _) hk2, Nat.le_trans (Nat.add_le_add_left (show rm_X5_inside.slots ≤ 3100 by decide) _) hs2⟩ dL_law_1196 (fun _ _ h => h.elim) (fun v2 S2 h2 => ?_)
  refine at_widen (k' := k + 16 + 2) (n' := s + 1900 + 3100) (Nat.add_le_add_left (by decide) _) (Nat.add_le_add_left (by decide) _) ?_
  rcases h2 with ⟨hk0, rfl, hF2, M2, hM2⟩ | ⟨hk0, rfl, hF2, M2, hM2⟩
  · skip
    obtain ⟨⟨Y1, hZ1⟩, hv1⟩ := or_y hR1 hk0
    have hZ2 := hZ1.frM hF2 (fun q _ hp => mcP hp)
    have ho2 := hF2.K ho1
    have hN2 : pN S2 o = 1 := (hF2.N ho1 (ncM ho1)).trans (hN1.trans hoN)
    have hJ2 := hJ.le (Nat.le_succ n)
    have hv2 := (congrFun (hF2.J ho1 (ncM ho1)) 0).trans hv1
    rw [hk0]
    refine r_istore (pc := 1199) hC dL_law_1199 (by decide) ?_
    first | refine r_aload_n (pc := 1201) hC dL_law_1201 rfl ?_ | refine r_aload_nN (pc := 1201) hC dL_law_1201 rfl ?_
    refine r_callV (pc := 1202) hC (cm_thrown hC.fl hM2 hJ2.1) kv_L_91 cls6 hM2.k6 rfl rfl (Nat.le_of_ble_eq_true rfl) ⟨by decide, by decide, hk2, hs2⟩ dL_law_1202 (fun _ _ h => h.elim) (fun v3 S3 h3 => ?_)
    obtain ⟨rfl, rfl⟩ := h3
    refine at_widen (k' := k + 20) (n' := s + 5000) (show k + 16 + 2 + 0 ≤ k + 20 by omega) (show s + 1900 + 3100 + 0 ≤ s + 5000 by omega) ?_
    refine r_iload (pc := 1205) hC dL_law_1205 rfl ?_
    refine r_icmp_eq (pc := 1207) (tgt := 1212) hC dL_law_1207 (by decide) (fun _ => ?_) (fun c => absurd rfl c)
    refine r_iload (pc := 1212) hC dL_law_1212 rfl ?_
    refine rn_if_ne (pc := 1214) (tgt := 1229) hC dL_law_1214 (by decide) (by omega) (fun c => absurd rfl c) (fun _ => ?_)
    first | refine r_aload_n (pc := 1217) hC dL_law_1217 rfl ?_ | refine r_aload_nN (pc := 1217) hC dL_law_1217 rfl ?_
    refine r_iconst (pc := 1218) (nI 0) hC dL_law_1218 (by decide) ?_
    refine r_jald (pc := 1219) hC dL_law_1219 ho2 (by rw [hN2]; decide) (by rw [hN2]; decide) hv2 ?_
    refine r_iload (pc := 1220) hC dL_law_1220 rfl ?_
    refine r_i2l (pc := 1222) hC dL_law_1222 ?_
    refine r_lcmp (pc := 1223) hC dL_law_1223 ?_
    rw [(lg_cmp_eq _ _).mpr rfl]
    refine r_if_eq (pc := 1224) (tgt := 1229) hC dL_law_1224 (by decide) (fun _ => ?_) (fun c => absurd rfl c)
    refine r_goto (pc := 1229) (tgt := 1628) hC dL_law_1229 (by decide) ?_
    refine at_lv (lv' := [(0, .ref b), (1, .ref x), (2, .ref m), (3, .ref o), (4, .int (nI i))]) ⟨rfl, rfl, rfl, rfl, rfl, trivial⟩ ?_
    refine at_widen (k' := k + 20) (n' := s + 5000) (Nat.le_refl _) (Nat.le_refl _) ?_
    exact nx _ ⟨_, _, _, _, hZ2, hM2, hJ2, ho2, hN2⟩
  · skip
    obtain ⟨Y1, hZ1⟩ := or_n hR1 hk0
    have hZ2 := hZ1.frM hF2 (fun q _ hp => mcP hp)
    have ho2 := hF2.K ho1
    have hN2 : pN S2 o = 1 := (hF2.N ho1 (ncM ho1)).trans (hN1.trans hoN)
    have hJ2 := hJ.le (Nat.le_succ n)
    have hk3 := kd_le _ (show ([(1, inZ σ (xs (i + 1)))]).all (fun q => decide (q.1 ≤ 3)) = true from rfl)
    refine r_istore (pc := 1199) hC dL_law_1199 (by decide) ?_
    first | refine r_aload_n (pc := 1201) hC dL_law_1201 rfl ?_ | refine r_aload_nN (pc := 1201) hC dL_law_1201 rfl ?_
    refine r_callV (pc := 1202) hC (cm_thrown hC.fl hM2 hJ2.1) kv_L_91 cls6 hM2.k6 rfl rfl (Nat.le_of_ble_eq_true rfl) ⟨by decide, by decide, hk2, hs2⟩ dL_law_1202 (fun _ _ h => h.elim) (fun v3 S3 h3 => ?_)
    obtain ⟨rfl, rfl⟩ := h3
    refine at_widen (k' := k + 20) (n' := s + 5000) (show k + 16 + 2 + 0 ≤ k + 20 by omega) (show s + 1900 + 3100 + 0 ≤ s + 5000 by omega) ?_
    refine r_iload (pc := 1205) hC dL_law_1205 rfl ?_
    refine r_icmp_eq (pc := 1207) (tgt := 1212) hC dL_law_1207 (by decide) (fun _ => ?_) (fun c => absurd rfl c)
    refine r_iload (pc := 1212) hC dL_law_1212 rfl ?_
    refine rn_if_ne (pc := 1214) (tgt := 1229) hC dL_law_1214 (by decide) (by omega) (fun _ => ?_) (fun c => absurd c hk0)
    refine r_goto (pc := 1229) (tgt := 1628) hC dL_law_1229 (by decide) ?_
    refine at_lv (lv' := [(0, .ref b), (1, .ref x), (2, .ref m), (3, .ref o), (4, .int (nI i))]) ⟨rfl, rfl, rfl, rfl, rfl, trivial⟩ ?_
    refine at_widen (k' := k + 20) (n' := s + 5000) (Nat.le_refl _) (Nat.le_refl _) ?_
    exact nx _ ⟨_, _, _, _, hZ2, hM2, hJ2, ho2, hN2⟩
set_option maxHeartbeats 4000000 in
set_option maxRecDepth 100000 in
theorem lc_alone {Γ : Cx} {G : Ids} {V : Vx} {S : Ps} {Y : Lay} {σ : Sg} {M : Nat → Nat} {b x m o i n k s t L : Nat} {xs : Nat → Int32} (hC : Ctx Γ G V code RL room_1 9) (hX : ScX Γ V b L xs) (hL : L ≤ 2560) (hi : i + 5 ≤ L) (hn5 : n ≤ 511) (hZ : RC G S Y σ x) (hM : RM S M σ m t) (hJ : Inv σ n) (ho : isK S 10 o) (hoN : pN S o = 1) (hk : k + 20 ≤ 601024) (hs : s + 5000 ≤ 7293034) (nx : ∀ S', JL G S' x m o (n + 1) → At Γ G V (k + 20) (s + 5000) S' [(0, .ref b), (1, .ref x), (2, .ref m), (3, .ref o), (4, .int (nI i))] 1628 []) : At Γ G V k s S [(0, .ref b), (1, .ref x), (2, .ref m), (3, .ref o), (4, .int (nI i))] 1232 [] := by
  have hk1 : k + 16 ≤ room_1.cells := Nat.le_trans (Nat.add_le_add_left (by decide) k) hk
  have hk2 : k + 16 + 2 ≤ room_1.cells := Nat.le_trans (Nat.add_le_add_left (show 18 ≤ 20 by decide) k) hk
  have hs1 : s + 1900 ≤ room_1.slots := Nat.le_trans (Nat.add_le_add_left (by decide) s) hs
  have hs2 : s + 1900 + 3100 ≤ room_1.slots := hs
  first | refine r_aload_n (pc := 1232) hC dL_law_1232 rfl ?_ | refine r_aload_nN (pc := 1232) hC dL_law_1232 rfl ?_
  refine r_callV (pc := 1233) hC (cp_alone hC.fl hZ hJ hn5) kv_L_150 cls5 hZ.kx rfl rfl (Nat.le_of_ble_eq_true rfl) ⟨by decide, by decide, Nat.le_trans (Nat.add_le_add_left (show rm_X4_alone.cells ≤ 16 by decide) _) hk1, Nat.le_trans (Nat.add_le_add_left (show rm_X4_alone.slots ≤ 1900 by decide) _) hs1⟩ dL_law_1233 (fun _ _ h => h.elim) (fun v1 S1 h1 => ?_)
  obtain ⟨rfl, hF1, Y1, hZ1⟩ := h1
  have hM1 := hM.fr hF1 (fun q _ hp => cmP hp)
  have ho1 := hF1.K ho
  have hN1 := hF1.N ho (ncP ho)
  refine at_widen (k' := k + 16) (n' := s + 1900) (Nat.add_le_add_left (by decide) k) (Nat.add_le_add_left (by decide) s) ?_
  first | refine r_aload_n (pc := 1236) hC dL_law_1236 rfl ?_ | refine r_aload_nN (pc := 1236) hC dL_law_1236 rfl ?_
  refine r_callV (pc := 1237) hC (cq_alone hC.fl hM1 hJ.1) kv_L_153 cls6 hM1.k6 rfl rfl (Nat.le_of_ble_eq_true rfl) ⟨by decide, by decide, Nat.le_trans (Nat.add_le_add_left (show rm_X5_alone.cells ≤ 2 by decide) _) hk2, Nat.le_trans (Nat.add_le_add_left (show rm_X5_alone.slots ≤ 3100 by decide) _) hs2⟩ dL_law_1237 (fun _ _ h => h.elim) (fun v2 S2 h2 => ?_)
  refine at_widen (k' := k + 16 + 2) (n' := s + 1900 + 3100) (Nat.add_le_add_left (by decide) _) (Nat.add_le_add_left (by decide) _) ?_
  rcases h2 with ⟨-, rfl, hF2, M2, hM2⟩ | ⟨hk0, -⟩
  · skip
    have hZ2 := hZ1.frM hF2 (fun q _ hp => mcP hp)
    have ho2 := hF2.K ho1
    have hN2 : pN S2 o = 1 := (hF2.N ho1 (ncM ho1)).trans (hN1.trans hoN)
    have hJ2 := hJ.le (Nat.le_succ n)
    refine r_icmp_eq (pc := 1240) (tgt := 1628) hC dL_law_1240 (by decide) (fun _ => ?_) (fun c => absurd rfl c)
    refine at_lv (lv' := [(0, .ref b), (1, .ref x), (2, .ref m), (3, .ref o), (4, .int (nI i))]) ⟨rfl, rfl, rfl, rfl, rfl, trivial⟩ ?_
    refine at_widen (k' := k + 20) (n' := s + 5000) (show k + 16 + 2 ≤ k + 20 by omega) (Nat.le_refl _) ?_
    exact nx _ ⟨_, _, _, _, hZ2, hM2, hJ2, ho2, hN2⟩
  · exact absurd rfl hk0
set_option maxHeartbeats 4000000 in
set_option maxRecDepth 100000 in
theorem lc_wasIn {Γ : Cx} {G : Ids} {V : Vx} {S : Ps} {Y : Lay} {σ : Sg} {M : Nat → Nat} {b x m o i n k s t L : Nat} {xs : Nat → Int32} (hC : Ctx Γ G V code RL room_1 9) (hX : ScX Γ V b L xs) (hL : L ≤ 2560) (hi : i + 5 ≤ L) (hn5 : n ≤ 511) (hZ : RC G S Y σ x) (hM : RM S M σ m t) (hJ : Inv σ n) (ho : isK S 10 o) (hoN : pN S o = 1) (hk : k + 20 ≤ 601024) (hs : s + 5000 ≤ 7293034) (nx : ∀ S', JL G S' x m o (n + 1) → At Γ G V (k + 20) (s + 5000) S' [(0, .ref b), (1, .ref x), (2, .ref m), (3, .ref o), (4, .int (nI i))] 1628 []) : At Γ G V k s S [(0, .ref b), (1, .ref x), (2, .ref m), (3, .ref o), (4, .int (nI i))] 1245 [] := by
  have hk1 : k + 16 ≤ room_1.cells := Nat.le_trans (Nat.add_le_add_left (by decide) k) hk
  have hk2 : k + 16 + 2 ≤ room_1.cells := Nat.le_trans (Nat.add_le_add_left (show 18 ≤ 20 by decide) k) hk
  have hs1 : s + 1900 ≤ room_1.slots := Nat.le_trans (Nat.add_le_add_left (by decide) s) hs
  have hs2 : s + 1900 + 3100 ≤ room_1.slots := hs
  first | refine r_aload_n (pc := 1245) hC dL_law_1245 rfl ?_ | refine r_aload_nN (pc := 1245) hC dL_law_1245 rfl ?_
  first | refine r_aload_n (pc := 1246) hC dL_law_1246 rfl ?_ | refine r_aload_nN (pc := 1246) hC dL_law_1246 rfl ?_
  refine r_iload (pc := 1247) hC dL_law_1247 rfl ?_
  refine r_iconst (pc := 1249) (nI 1) hC dL_law_1249 (by decide) ?_
  first | refine rn_iadd (pc := 1250) hC dL_law_1250 ?_ | refine r_iadd (pc := 1250) hC dL_law_1250 ?_
  refine r_sld (pc := 1251) hC hX hL (by omega) dL_law_1251 ?_
  first | refine r_aload_n (pc := 1252) hC dL_law_1252 rfl ?_ | refine r_aload_nN (pc := 1252) hC dL_law_1252 rfl ?_
  refine r_iload (pc := 1253) hC dL_law_1253 rfl ?_
  refine r_iconst (pc := 1255) (nI 2) hC dL_law_1255 (by decide) ?_
  first | refine rn_iadd (pc := 1256) hC dL_law_1256 ?_ | refine r_iadd (pc := 1256) hC dL_law_1256 ?_
  refine r_sld (pc := 1257) hC hX hL (by omega) dL_law_1257 ?_
  first | refine r_aload_n (pc := 1258) hC dL_law_1258 rfl ?_ | refine r_aload_nN (pc := 1258) hC dL_law_1258 rfl ?_
  refine r_callSW (pc := 1259) hC (cl_wasIn hC.fl hZ hJ hn5 ho hoN) ks_L_154 rfl rfl (Nat.le_of_ble_eq_true rfl) ⟨by decide, by decide, Nat.le_trans (Nat.add_le_add_left (show rm_L_wasIn.cells ≤ 16 by decide) _) hk1, Nat.le_trans (Nat.add_le_add_left (show rm_L_wasIn.slots ≤ 1900 by decide) _) hs1⟩ dL_law_1259 (fun _ _ h => h.elim) (fun v1 S1 h1 => ?_)
  obtain ⟨rfl, hF1, hN1, hR1⟩ := h1
  have hM1 := hM.fr hF1 (fun q _ hp => hp.elim cmP (fun e => e ▸ ncM ho))
  have ho1 := hF1.K ho
  refine at_widen (k' := k + 16) (n' := s + 1900) (Nat.add_le_add_left (by decide) k) (Nat.add_le_add_left (by decide) s) ?_
  refine r_istore (pc := 1262) hC dL_law_1262 (by decide) ?_
  first | refine r_aload_n (pc := 1264) hC dL_law_1264 rfl ?_ | refine r_aload_nN (pc := 1264) hC dL_law_1264 rfl ?_
  first | refine r_aload_n (pc := 1265) hC dL_law_1265 rfl ?_ | refine r_aload_nN (pc := 1265) hC dL_law_1265 rfl ?_
  refine r_iload (pc := 1266) hC dL_law_1266 rfl ?_
  refine r_iconst (pc := 1268) (nI 1) hC dL_law_1268 (by decide) ?_
  first | refine rn_iadd (pc := 1269) hC dL_law_1269 ?_ | refine r_iadd (pc := 1269) hC dL_law_1269 ?_
  refine r_sld (pc := 1270) hC hX hL (by omega) dL_law_1270 ?_
  first | refine r_aload_n (pc := 1271) hC dL_law_1271 rfl ?_ | refine r_aload_nN (pc := 1271) hC dL_law_1271 rfl ?_
  refine r_iload (pc := 1272) hC dL_law_1272 rfl ?_
  refine r_iconst (pc := 1274) (nI 2) hC dL_law_1274 (by decide) ?_
  first | refine rn_iadd (pc := 1275) hC dL_law_1275 ?_ | refine r_iadd (pc := 1275) hC dL_law_1275 ?_
  refine r_sld (pc := 1276) hC hX hL (by omega) dL_law_1276 ?_
  refine r_callV (pc := 1277) hC (cq_wasIn hC.fl hM1 hJ.1 hJ) kv_L_156 cls6 hM1.k6 rfl rfl (Nat.le_of_ble_eq_true rfl) ⟨by decide, by decide, Nat.le_trans (Nat.add_le_add_left (show rm_X5_wasIn.cells ≤ 2 by decide) _) hk2, Nat.le_trans (Nat.add_le_add_left (show rm_X5_wasIn.slots ≤ 3100 by decide) _) hs2⟩ dL_law_1277 (fun _ _ h => h.elim) (fun v2 S2 h2 => ?_)
  refine at_widen (k' := k + 16 + 2) (n' := s + 1900 + 3100) (Nat.add_le_add_left (by decide) _) (Nat.add_le_add_left (by decide) _) ?_
  rcases h2 with ⟨hk0, rfl, hF2, M2, hM2⟩ | ⟨hk0, rfl, hF2, M2, hM2⟩
  · skip
    obtain ⟨⟨Y1, hZ1⟩, hv1⟩ := or_y hR1 hk0
    have hZ2 := hZ1.frM hF2 (fun q _ hp => mcP hp)
    have ho2 := hF2.K ho1
    have hN2 : pN S2 o = 1 := (hF2.N ho1 (ncM ho1)).trans (hN1.trans hoN)
    have hJ2 := hJ.le (Nat.le_succ n)
    have hv2 := (congrFun (hF2.J ho1 (ncM ho1)) 0).trans hv1
    rw [hk0]
    refine r_istore (pc := 1280) hC dL_law_1280 (by decide) ?_
    first | refine r_aload_n (pc := 1282) hC dL_law_1282 rfl ?_ | refine r_aload_nN (pc := 1282) hC dL_law_1282 rfl ?_
    refine r_callV (pc := 1283) hC (cm_thrown hC.fl hM2 hJ2.1) kv_L_91 cls6 hM2.k6 rfl rfl (Nat.le_of_ble_eq_true rfl) ⟨by decide, by decide, hk2, hs2⟩ dL_law_1283 (fun _ _ h => h.elim) (fun v3 S3 h3 => ?_)
    obtain ⟨rfl, rfl⟩ := h3
    refine at_widen (k' := k + 20) (n' := s + 5000) (show k + 16 + 2 + 0 ≤ k + 20 by omega) (show s + 1900 + 3100 + 0 ≤ s + 5000 by omega) ?_
    refine r_iload (pc := 1286) hC dL_law_1286 rfl ?_
    refine r_icmp_eq (pc := 1288) (tgt := 1293) hC dL_law_1288 (by decide) (fun _ => ?_) (fun c => absurd rfl c)
    refine r_iload (pc := 1293) hC dL_law_1293 rfl ?_
    refine rn_if_ne (pc := 1295) (tgt := 1310) hC dL_law_1295 (by decide) (by omega) (fun c => absurd rfl c) (fun _ => ?_)
    first | refine r_aload_n (pc := 1298) hC dL_law_1298 rfl ?_ | refine r_aload_nN (pc := 1298) hC dL_law_1298 rfl ?_
    refine r_iconst (pc := 1299) (nI 0) hC dL_law_1299 (by decide) ?_
    refine r_jald (pc := 1300) hC dL_law_1300 ho2 (by rw [hN2]; decide) (by rw [hN2]; decide) hv2 ?_
    refine r_iload (pc := 1301) hC dL_law_1301 rfl ?_
    refine r_i2l (pc := 1303) hC dL_law_1303 ?_
    refine r_lcmp (pc := 1304) hC dL_law_1304 ?_
    rw [(lg_cmp_eq _ _).mpr rfl]
    refine r_if_eq (pc := 1305) (tgt := 1310) hC dL_law_1305 (by decide) (fun _ => ?_) (fun c => absurd rfl c)
    refine r_goto (pc := 1310) (tgt := 1628) hC dL_law_1310 (by decide) ?_
    refine at_lv (lv' := [(0, .ref b), (1, .ref x), (2, .ref m), (3, .ref o), (4, .int (nI i))]) ⟨rfl, rfl, rfl, rfl, rfl, trivial⟩ ?_
    refine at_widen (k' := k + 20) (n' := s + 5000) (Nat.le_refl _) (Nat.le_refl _) ?_
    exact nx _ ⟨_, _, _, _, hZ2, hM2, hJ2, ho2, hN2⟩
  · skip
    obtain ⟨Y1, hZ1⟩ := or_n hR1 hk0
    have hZ2 := hZ1.frM hF2 (fun q _ hp => mcP hp)
    have ho2 := hF2.K ho1
    have hN2 : pN S2 o = 1 := (hF2.N ho1 (ncM ho1)).trans (hN1.trans hoN)
    have hJ2 := hJ.le (Nat.le_succ n)
    have hk3 := kd_le _ (show ([(1, inB σ (xs (i + 1))), (2, wi 0 (mi σ) (xs (i + 2)))]).all (fun q => decide (q.1 ≤ 3)) = true from rfl)
    refine r_istore (pc := 1280) hC dL_law_1280 (by decide) ?_
    first | refine r_aload_n (pc := 1282) hC dL_law_1282 rfl ?_ | refine r_aload_nN (pc := 1282) hC dL_law_1282 rfl ?_
    refine r_callV (pc := 1283) hC (cm_thrown hC.fl hM2 hJ2.1) kv_L_91 cls6 hM2.k6 rfl rfl (Nat.le_of_ble_eq_true rfl) ⟨by decide, by decide, hk2, hs2⟩ dL_law_1283 (fun _ _ h => h.elim) (fun v3 S3 h3 => ?_)
    obtain ⟨rfl, rfl⟩ := h3
    refine at_widen (k' := k + 20) (n' := s + 5000) (show k + 16 + 2 + 0 ≤ k + 20 by omega) (show s + 1900 + 3100 + 0 ≤ s + 5000 by omega) ?_
    refine r_iload (pc := 1286) hC dL_law_1286 rfl ?_
    refine r_icmp_eq (pc := 1288) (tgt := 1293) hC dL_law_1288 (by decide) (fun _ => ?_) (fun c => absurd rfl c)
    refine r_iload (pc := 1293) hC dL_law_1293 rfl ?_
    refine rn_if_ne (pc := 1295) (tgt := 1310) hC dL_law_1295 (by decide) (by omega) (fun _ => ?_) (fun c => absurd c hk0)
    refine r_goto (pc := 1310) (tgt := 1628) hC dL_law_1310 (by decide) ?_
    refine at_lv (lv' := [(0, .ref b), (1, .ref x), (2, .ref m), (3, .ref o), (4, .int (nI i))]) ⟨rfl, rfl, rfl, rfl, rfl, trivial⟩ ?_
    refine at_widen (k' := k + 20) (n' := s + 5000) (Nat.le_refl _) (Nat.le_refl _) ?_
    exact nx _ ⟨_, _, _, _, hZ2, hM2, hJ2, ho2, hN2⟩
set_option maxHeartbeats 4000000 in
set_option maxRecDepth 100000 in
theorem lc_minutesIn {Γ : Cx} {G : Ids} {V : Vx} {S : Ps} {Y : Lay} {σ : Sg} {M : Nat → Nat} {b x m o i n k s t L : Nat} {xs : Nat → Int32} (hC : Ctx Γ G V code RL room_1 9) (hX : ScX Γ V b L xs) (hL : L ≤ 2560) (hi : i + 5 ≤ L) (hn5 : n ≤ 511) (hZ : RC G S Y σ x) (hM : RM S M σ m t) (hJ : Inv σ n) (ho : isK S 10 o) (hoN : pN S o = 1) (hk : k + 20 ≤ 601024) (hs : s + 5000 ≤ 7293034) (nx : ∀ S', JL G S' x m o (n + 1) → At Γ G V (k + 20) (s + 5000) S' [(0, .ref b), (1, .ref x), (2, .ref m), (3, .ref o), (4, .int (nI i))] 1628 []) : At Γ G V k s S [(0, .ref b), (1, .ref x), (2, .ref m), (3, .ref o), (4, .int (nI i))] 1313 [] := by
  have hk1 : k + 16 ≤ room_1.cells := Nat.le_trans (Nat.add_le_add_left (by decide) k) hk
  have hk2 : k + 16 + 2 ≤ room_1.cells := Nat.le_trans (Nat.add_le_add_left (show 18 ≤ 20 by decide) k) hk
  have hs1 : s + 1900 ≤ room_1.slots := Nat.le_trans (Nat.add_le_add_left (by decide) s) hs
  have hs2 : s + 1900 + 3100 ≤ room_1.slots := hs
  first | refine r_aload_n (pc := 1313) hC dL_law_1313 rfl ?_ | refine r_aload_nN (pc := 1313) hC dL_law_1313 rfl ?_
  first | refine r_aload_n (pc := 1314) hC dL_law_1314 rfl ?_ | refine r_aload_nN (pc := 1314) hC dL_law_1314 rfl ?_
  refine r_iload (pc := 1315) hC dL_law_1315 rfl ?_
  refine r_iconst (pc := 1317) (nI 1) hC dL_law_1317 (by decide) ?_
  first | refine rn_iadd (pc := 1318) hC dL_law_1318 ?_ | refine r_iadd (pc := 1318) hC dL_law_1318 ?_
  refine r_sld (pc := 1319) hC hX hL (by omega) dL_law_1319 ?_
  first | refine r_aload_n (pc := 1320) hC dL_law_1320 rfl ?_ | refine r_aload_nN (pc := 1320) hC dL_law_1320 rfl ?_
  refine r_iload (pc := 1321) hC dL_law_1321 rfl ?_
  refine r_iconst (pc := 1323) (nI 2) hC dL_law_1323 (by decide) ?_
  first | refine rn_iadd (pc := 1324) hC dL_law_1324 ?_ | refine r_iadd (pc := 1324) hC dL_law_1324 ?_
  refine r_sld (pc := 1325) hC hX hL (by omega) dL_law_1325 ?_
  first | refine r_aload_n (pc := 1326) hC dL_law_1326 rfl ?_ | refine r_aload_nN (pc := 1326) hC dL_law_1326 rfl ?_
  refine r_callSW (pc := 1327) hC (cl_minutesIn hC.fl hZ hJ hn5 ho hoN) ks_L_157 rfl rfl (Nat.le_of_ble_eq_true rfl) ⟨by decide, by decide, Nat.le_trans (Nat.add_le_add_left (show rm_L_minutesIn.cells ≤ 16 by decide) _) hk1, Nat.le_trans (Nat.add_le_add_left (show rm_L_minutesIn.slots ≤ 1900 by decide) _) hs1⟩ dL_law_1327 (fun _ _ h => h.elim) (fun v1 S1 h1 => ?_)
  obtain ⟨rfl, hF1, hN1, hR1⟩ := h1
  have hM1 := hM.fr hF1 (fun q _ hp => hp.elim cmP (fun e => e ▸ ncM ho))
  have ho1 := hF1.K ho
  refine at_widen (k' := k + 16) (n' := s + 1900) (Nat.add_le_add_left (by decide) k) (Nat.add_le_add_left (by decide) s) ?_
  refine r_istore (pc := 1330) hC dL_law_1330 (by decide) ?_
  first | refine r_aload_n (pc := 1332) hC dL_law_1332 rfl ?_ | refine r_aload_nN (pc := 1332) hC dL_law_1332 rfl ?_
  first | refine r_aload_n (pc := 1333) hC dL_law_1333 rfl ?_ | refine r_aload_nN (pc := 1333) hC dL_law_1333 rfl ?_
  refine r_iload (pc := 1334) hC dL_law_1334 rfl ?_
  refine r_iconst (pc := 1336) (nI 1) hC dL_law_1336 (by decide) ?_
  first | refine rn_iadd (pc := 1337) hC dL_law_1337 ?_ | refine r_iadd (pc := 1337) hC dL_law_1337 ?_
  refine r_sld (pc := 1338) hC hX hL (by omega) dL_law_1338 ?_
  first | refine r_aload_n (pc := 1339) hC dL_law_1339 rfl ?_ | refine r_aload_nN (pc := 1339) hC dL_law_1339 rfl ?_
  refine r_iload (pc := 1340) hC dL_law_1340 rfl ?_
  refine r_iconst (pc := 1342) (nI 2) hC dL_law_1342 (by decide) ?_
  first | refine rn_iadd (pc := 1343) hC dL_law_1343 ?_ | refine r_iadd (pc := 1343) hC dL_law_1343 ?_
  refine r_sld (pc := 1344) hC hX hL (by omega) dL_law_1344 ?_
  refine r_callV (pc := 1345) hC (cq_minutesIn hC.fl hM1 hJ.1 hJ) kv_L_159 cls6 hM1.k6 rfl rfl (Nat.le_of_ble_eq_true rfl) ⟨by decide, by decide, Nat.le_trans (Nat.add_le_add_left (show rm_X5_minutesIn.cells ≤ 2 by decide) _) hk2, Nat.le_trans (Nat.add_le_add_left (show rm_X5_minutesIn.slots ≤ 3100 by decide) _) hs2⟩ dL_law_1345 (fun _ _ h => h.elim) (fun v2 S2 h2 => ?_)
  refine at_widen (k' := k + 16 + 2) (n' := s + 1900 + 3100) (Nat.add_le_add_left (by decide) _) (Nat.add_le_add_left (by decide) _) ?_
  rcases h2 with ⟨hk0, rfl, hF2, M2, hM2⟩ | ⟨hk0, rfl, hF2, M2, hM2⟩
  · skip
    obtain ⟨⟨Y1, hZ1⟩, hv1⟩ := or_y hR1 hk0
    have hZ2 := hZ1.frM hF2 (fun q _ hp => mcP hp)
    have ho2 := hF2.K ho1
    have hN2 : pN S2 o = 1 := (hF2.N ho1 (ncM ho1)).trans (hN1.trans hoN)
    have hJ2 := hJ.le (Nat.le_succ n)
    have hv2 := (congrFun (hF2.J ho1 (ncM ho1)) 0).trans hv1
    rw [hk0]
    refine r_istore (pc := 1348) hC dL_law_1348 (by decide) ?_
    first | refine r_aload_n (pc := 1350) hC dL_law_1350 rfl ?_ | refine r_aload_nN (pc := 1350) hC dL_law_1350 rfl ?_
    refine r_callV (pc := 1351) hC (cm_thrown hC.fl hM2 hJ2.1) kv_L_91 cls6 hM2.k6 rfl rfl (Nat.le_of_ble_eq_true rfl) ⟨by decide, by decide, hk2, hs2⟩ dL_law_1351 (fun _ _ h => h.elim) (fun v3 S3 h3 => ?_)
    obtain ⟨rfl, rfl⟩ := h3
    refine at_widen (k' := k + 20) (n' := s + 5000) (show k + 16 + 2 + 0 ≤ k + 20 by omega) (show s + 1900 + 3100 + 0 ≤ s + 5000 by omega) ?_
    refine r_iload (pc := 1354) hC dL_law_1354 rfl ?_
    refine r_icmp_eq (pc := 1356) (tgt := 1361) hC dL_law_1356 (by decide) (fun _ => ?_) (fun c => absurd rfl c)
    refine r_iload (pc := 1361) hC dL_law_1361 rfl ?_
    refine rn_if_ne (pc := 1363) (tgt := 1378) hC dL_law_1363 (by decide) (by omega) (fun c => absurd rfl c) (fun _ => ?_)
    first | refine r_aload_n (pc := 1366) hC dL_law_1366 rfl ?_ | refine r_aload_nN (pc := 1366) hC dL_law_1366 rfl ?_
    refine r_iconst (pc := 1367) (nI 0) hC dL_law_1367 (by decide) ?_
    refine r_jald (pc := 1368) hC dL_law_1368 ho2 (by rw [hN2]; decide) (by rw [hN2]; decide) hv2 ?_
    refine r_iload (pc := 1369) hC dL_law_1369 rfl ?_
    refine r_i2l (pc := 1371) hC dL_law_1371 ?_
    refine r_lcmp (pc := 1372) hC dL_law_1372 ?_
    rw [(lg_cmp_eq _ _).mpr rfl]
    refine r_if_eq (pc := 1373) (tgt := 1378) hC dL_law_1373 (by decide) (fun _ => ?_) (fun c => absurd rfl c)
    refine r_goto (pc := 1378) (tgt := 1628) hC dL_law_1378 (by decide) ?_
    refine at_lv (lv' := [(0, .ref b), (1, .ref x), (2, .ref m), (3, .ref o), (4, .int (nI i))]) ⟨rfl, rfl, rfl, rfl, rfl, trivial⟩ ?_
    refine at_widen (k' := k + 20) (n' := s + 5000) (Nat.le_refl _) (Nat.le_refl _) ?_
    exact nx _ ⟨_, _, _, _, hZ2, hM2, hJ2, ho2, hN2⟩
  · skip
    obtain ⟨Y1, hZ1⟩ := or_n hR1 hk0
    have hZ2 := hZ1.frM hF2 (fun q _ hp => mcP hp)
    have ho2 := hF2.K ho1
    have hN2 : pN S2 o = 1 := (hF2.N ho1 (ncM ho1)).trans (hN1.trans hoN)
    have hJ2 := hJ.le (Nat.le_succ n)
    have hk3 := kd_le _ (show ([(1, inB σ (xs (i + 1))), (1, inZ σ (xs (i + 2)))]).all (fun q => decide (q.1 ≤ 3)) = true from rfl)
    refine r_istore (pc := 1348) hC dL_law_1348 (by decide) ?_
    first | refine r_aload_n (pc := 1350) hC dL_law_1350 rfl ?_ | refine r_aload_nN (pc := 1350) hC dL_law_1350 rfl ?_
    refine r_callV (pc := 1351) hC (cm_thrown hC.fl hM2 hJ2.1) kv_L_91 cls6 hM2.k6 rfl rfl (Nat.le_of_ble_eq_true rfl) ⟨by decide, by decide, hk2, hs2⟩ dL_law_1351 (fun _ _ h => h.elim) (fun v3 S3 h3 => ?_)
    obtain ⟨rfl, rfl⟩ := h3
    refine at_widen (k' := k + 20) (n' := s + 5000) (show k + 16 + 2 + 0 ≤ k + 20 by omega) (show s + 1900 + 3100 + 0 ≤ s + 5000 by omega) ?_
    refine r_iload (pc := 1354) hC dL_law_1354 rfl ?_
    refine r_icmp_eq (pc := 1356) (tgt := 1361) hC dL_law_1356 (by decide) (fun _ => ?_) (fun c => absurd rfl c)
    refine r_iload (pc := 1361) hC dL_law_1361 rfl ?_
    refine rn_if_ne (pc := 1363) (tgt := 1378) hC dL_law_1363 (by decide) (by omega) (fun _ => ?_) (fun c => absurd c hk0)
    refine r_goto (pc := 1378) (tgt := 1628) hC dL_law_1378 (by decide) ?_
    refine at_lv (lv' := [(0, .ref b), (1, .ref x), (2, .ref m), (3, .ref o), (4, .int (nI i))]) ⟨rfl, rfl, rfl, rfl, rfl, trivial⟩ ?_
    refine at_widen (k' := k + 20) (n' := s + 5000) (Nat.le_refl _) (Nat.le_refl _) ?_
    exact nx _ ⟨_, _, _, _, hZ2, hM2, hJ2, ho2, hN2⟩
set_option maxHeartbeats 4000000 in
set_option maxRecDepth 100000 in
theorem lc_presence {Γ : Cx} {G : Ids} {V : Vx} {S : Ps} {Y : Lay} {σ : Sg} {M : Nat → Nat} {b x m o i n k s t L : Nat} {xs : Nat → Int32} (hC : Ctx Γ G V code RL room_1 9) (hX : ScX Γ V b L xs) (hL : L ≤ 2560) (hi : i + 5 ≤ L) (hn5 : n ≤ 511) (hZ : RC G S Y σ x) (hM : RM S M σ m t) (hJ : Inv σ n) (ho : isK S 10 o) (hoN : pN S o = 1) (hk : k + 20 ≤ 601024) (hs : s + 5000 ≤ 7293034) (nx : ∀ S', JL G S' x m o (n + 1) → At Γ G V (k + 20) (s + 5000) S' [(0, .ref b), (1, .ref x), (2, .ref m), (3, .ref o), (4, .int (nI i))] 1628 []) : At Γ G V k s S [(0, .ref b), (1, .ref x), (2, .ref m), (3, .ref o), (4, .int (nI i))] 1381 [] := by
  have hk1 : k + 16 ≤ room_1.cells := Nat.le_trans (Nat.add_le_add_left (by decide) k) hk
  have hk2 : k + 16 + 2 ≤ room_1.cells := Nat.le_trans (Nat.add_le_add_left (show 18 ≤ 20 by decide) k) hk
  have hs1 : s + 1900 ≤ room_1.slots := Nat.le_trans (Nat.add_le_add_left (by decide) s) hs
  have hs2 : s + 1900 + 3100 ≤ room_1.slots := hs
  first | refine r_aload_n (pc := 1381) hC dL_law_1381 rfl ?_ | refine r_aload_nN (pc := 1381) hC dL_law_1381 rfl ?_
  refine r_callV (pc := 1382) hC (cp_presence hC.fl hZ hJ hn5) kv_L_160 cls5 hZ.kx rfl rfl (Nat.le_of_ble_eq_true rfl) ⟨by decide, by decide, Nat.le_trans (Nat.add_le_add_left (show rm_X4_presence.cells ≤ 16 by decide) _) hk1, Nat.le_trans (Nat.add_le_add_left (show rm_X4_presence.slots ≤ 1900 by decide) _) hs1⟩ dL_law_1382 (fun _ _ h => h.elim) (fun v1 S1 h1 => ?_)
  obtain ⟨rfl, hF1, Y1, hZ1⟩ := h1
  have hM1 := hM.fr hF1 (fun q _ hp => cmP hp)
  have ho1 := hF1.K ho
  have hN1 := hF1.N ho (ncP ho)
  refine at_widen (k' := k + 16) (n' := s + 1900) (Nat.add_le_add_left (by decide) k) (Nat.add_le_add_left (by decide) s) ?_
  refine r_dstore (pc := 1385) hC dL_law_1385 (by decide) ?_
  first | refine r_aload_n (pc := 1387) hC dL_law_1387 rfl ?_ | refine r_aload_nN (pc := 1387) hC dL_law_1387 rfl ?_
  refine r_callV (pc := 1388) hC (cq_presence hC.fl hM1 hJ.1) kv_L_164 cls6 hM1.k6 rfl rfl (Nat.le_of_ble_eq_true rfl) ⟨by decide, by decide, Nat.le_trans (Nat.add_le_add_left (show rm_X5_presence.cells ≤ 2 by decide) _) hk2, Nat.le_trans (Nat.add_le_add_left (show rm_X5_presence.slots ≤ 3100 by decide) _) hs2⟩ dL_law_1388 (fun _ _ h => h.elim) (fun v2 S2 h2 => ?_)
  refine at_widen (k' := k + 16 + 2) (n' := s + 1900 + 3100) (Nat.add_le_add_left (by decide) _) (Nat.add_le_add_left (by decide) _) ?_
  rcases h2 with ⟨-, rfl, hF2, M2, hM2⟩ | ⟨hk0, -⟩
  · skip
    have hZ2 := hZ1.frM hF2 (fun q _ hp => mcP hp)
    have ho2 := hF2.K ho1
    have hN2 : pN S2 o = 1 := (hF2.N ho1 (ncM ho1)).trans (hN1.trans hoN)
    have hJ2 := hJ.le (Nat.le_succ n)
    refine r_dstore (pc := 1391) hC dL_law_1391 (by decide) ?_
    refine r_dload (pc := 1393) hC dL_law_1393 rfl ?_
    refine r_dload (pc := 1395) hC dL_law_1395 rfl ?_
    refine r_dcmp (pc := 1397) hC dL_law_1397 ?_
    rw [pr_cmp hJ.1.n.2.2.2.1]
    refine r_if_eq (pc := 1398) (tgt := 1419) hC dL_law_1398 (by decide) (fun _ => ?_) (fun c => absurd rfl c)
    refine r_goto (pc := 1419) (tgt := 1628) hC dL_law_1419 (by decide) ?_
    refine at_lv (lv' := [(0, .ref b), (1, .ref x), (2, .ref m), (3, .ref o), (4, .int (nI i))]) ⟨rfl, rfl, rfl, rfl, rfl, trivial⟩ ?_
    refine at_widen (k' := k + 20) (n' := s + 5000) (show k + 16 + 2 ≤ k + 20 by omega) (Nat.le_refl _) ?_
    exact nx _ ⟨_, _, _, _, hZ2, hM2, hJ2, ho2, hN2⟩
  · exact absurd rfl hk0
set_option maxHeartbeats 4000000 in
set_option maxRecDepth 100000 in
theorem lc_way {Γ : Cx} {G : Ids} {V : Vx} {S : Ps} {Y : Lay} {σ : Sg} {M : Nat → Nat} {b x m o i n k s t L : Nat} {xs : Nat → Int32} (hC : Ctx Γ G V code RL room_1 9) (hX : ScX Γ V b L xs) (hL : L ≤ 2560) (hi : i + 5 ≤ L) (hn5 : n ≤ 511) (hZ : RC G S Y σ x) (hM : RM S M σ m t) (hJ : Inv σ n) (ho : isK S 10 o) (hoN : pN S o = 1) (hk : k + 20 ≤ 601024) (hs : s + 5000 ≤ 7293034) (nx : ∀ S', JL G S' x m o (n + 1) → At Γ G V (k + 20) (s + 5000) S' [(0, .ref b), (1, .ref x), (2, .ref m), (3, .ref o), (4, .int (nI i))] 1628 []) : At Γ G V k s S [(0, .ref b), (1, .ref x), (2, .ref m), (3, .ref o), (4, .int (nI i))] 1422 [] := by
  have hk1 : k + 16 ≤ room_1.cells := Nat.le_trans (Nat.add_le_add_left (by decide) k) hk
  have hk2 : k + 16 + 2 ≤ room_1.cells := Nat.le_trans (Nat.add_le_add_left (show 18 ≤ 20 by decide) k) hk
  have hs1 : s + 1900 ≤ room_1.slots := Nat.le_trans (Nat.add_le_add_left (by decide) s) hs
  have hs2 : s + 1900 + 3100 ≤ room_1.slots := hs
  first | refine r_aload_n (pc := 1422) hC dL_law_1422 rfl ?_ | refine r_aload_nN (pc := 1422) hC dL_law_1422 rfl ?_
  first | refine r_aload_n (pc := 1423) hC dL_law_1423 rfl ?_ | refine r_aload_nN (pc := 1423) hC dL_law_1423 rfl ?_
  refine r_iload (pc := 1424) hC dL_law_1424 rfl ?_
  refine r_iconst (pc := 1426) (nI 1) hC dL_law_1426 (by decide) ?_
  first | refine rn_iadd (pc := 1427) hC dL_law_1427 ?_ | refine r_iadd (pc := 1427) hC dL_law_1427 ?_
  refine r_sld (pc := 1428) hC hX hL (by omega) dL_law_1428 ?_
  first | refine r_aload_n (pc := 1429) hC dL_law_1429 rfl ?_ | refine r_aload_nN (pc := 1429) hC dL_law_1429 rfl ?_
  refine r_iload (pc := 1430) hC dL_law_1430 rfl ?_
  refine r_iconst (pc := 1432) (nI 2) hC dL_law_1432 (by decide) ?_
  first | refine rn_iadd (pc := 1433) hC dL_law_1433 ?_ | refine r_iadd (pc := 1433) hC dL_law_1433 ?_
  refine r_sld (pc := 1434) hC hX hL (by omega) dL_law_1434 ?_
  first | refine r_aload_n (pc := 1435) hC dL_law_1435 rfl ?_ | refine r_aload_nN (pc := 1435) hC dL_law_1435 rfl ?_
  refine r_callSW (pc := 1436) hC (cl_way hC.fl hZ hJ hn5 ho hoN) ks_L_165 rfl rfl (Nat.le_of_ble_eq_true rfl) ⟨by decide, by decide, Nat.le_trans (Nat.add_le_add_left (show rm_L_way.cells ≤ 16 by decide) _) hk1, Nat.le_trans (Nat.add_le_add_left (show rm_L_way.slots ≤ 1900 by decide) _) hs1⟩ dL_law_1436 (fun _ _ h => h.elim) (fun v1 S1 h1 => ?_)
  obtain ⟨rfl, hF1, hN1, hR1⟩ := h1
  have hM1 := hM.fr hF1 (fun q _ hp => hp.elim cmP (fun e => e ▸ ncM ho))
  have ho1 := hF1.K ho
  refine at_widen (k' := k + 16) (n' := s + 1900) (Nat.add_le_add_left (by decide) k) (Nat.add_le_add_left (by decide) s) ?_
  refine r_istore (pc := 1439) hC dL_law_1439 (by decide) ?_
  first | refine r_aload_n (pc := 1441) hC dL_law_1441 rfl ?_ | refine r_aload_nN (pc := 1441) hC dL_law_1441 rfl ?_
  first | refine r_aload_n (pc := 1442) hC dL_law_1442 rfl ?_ | refine r_aload_nN (pc := 1442) hC dL_law_1442 rfl ?_
  refine r_iload (pc := 1443) hC dL_law_1443 rfl ?_
  refine r_iconst (pc := 1445) (nI 1) hC dL_law_1445 (by decide) ?_
  first | refine rn_iadd (pc := 1446) hC dL_law_1446 ?_ | refine r_iadd (pc := 1446) hC dL_law_1446 ?_
  refine r_sld (pc := 1447) hC hX hL (by omega) dL_law_1447 ?_
  first | refine r_aload_n (pc := 1448) hC dL_law_1448 rfl ?_ | refine r_aload_nN (pc := 1448) hC dL_law_1448 rfl ?_
  refine r_iload (pc := 1449) hC dL_law_1449 rfl ?_
  refine r_iconst (pc := 1451) (nI 2) hC dL_law_1451 (by decide) ?_
  first | refine rn_iadd (pc := 1452) hC dL_law_1452 ?_ | refine r_iadd (pc := 1452) hC dL_law_1452 ?_
  refine r_sld (pc := 1453) hC hX hL (by omega) dL_law_1453 ?_
  refine r_callV (pc := 1454) hC (cq_way hC.fl hM1 hJ.1) kv_L_167 cls6 hM1.k6 rfl rfl (Nat.le_of_ble_eq_true rfl) ⟨by decide, by decide, Nat.le_trans (Nat.add_le_add_left (show rm_X5_way.cells ≤ 2 by decide) _) hk2, Nat.le_trans (Nat.add_le_add_left (show rm_X5_way.slots ≤ 3100 by decide) _) hs2⟩ dL_law_1454 (fun _ _ h => h.elim) (fun v2 S2 h2 => ?_)
  refine at_widen (k' := k + 16 + 2) (n' := s + 1900 + 3100) (Nat.add_le_add_left (by decide) _) (Nat.add_le_add_left (by decide) _) ?_
  rcases h2 with ⟨hk0, rfl, hF2, M2, hM2⟩ | ⟨hk0, rfl, hF2, M2, hM2⟩
  · skip
    obtain ⟨⟨Y1, hZ1⟩, hv1⟩ := or_y hR1 hk0
    have hZ2 := hZ1.frM hF2 (fun q _ hp => mcP hp)
    have ho2 := hF2.K ho1
    have hN2 : pN S2 o = 1 := (hF2.N ho1 (ncM ho1)).trans (hN1.trans hoN)
    have hJ2 := hJ.le (Nat.le_succ n)
    have hv2 := (congrFun (hF2.J ho1 (ncM ho1)) 0).trans hv1
    rw [hk0]
    refine r_istore (pc := 1457) hC dL_law_1457 (by decide) ?_
    first | refine r_aload_n (pc := 1459) hC dL_law_1459 rfl ?_ | refine r_aload_nN (pc := 1459) hC dL_law_1459 rfl ?_
    refine r_callV (pc := 1460) hC (cm_thrown hC.fl hM2 hJ2.1) kv_L_91 cls6 hM2.k6 rfl rfl (Nat.le_of_ble_eq_true rfl) ⟨by decide, by decide, hk2, hs2⟩ dL_law_1460 (fun _ _ h => h.elim) (fun v3 S3 h3 => ?_)
    obtain ⟨rfl, rfl⟩ := h3
    refine at_widen (k' := k + 20) (n' := s + 5000) (show k + 16 + 2 + 0 ≤ k + 20 by omega) (show s + 1900 + 3100 + 0 ≤ s + 5000 by omega) ?_
    refine r_iload (pc := 1463) hC dL_law_1463 rfl ?_
    refine r_icmp_eq (pc := 1465) (tgt := 1470) hC dL_law_1465 (by decide) (fun _ => ?_) (fun c => absurd rfl c)
    refine r_iload (pc := 1470) hC dL_law_1470 rfl ?_
    refine rn_if_ne (pc := 1472) (tgt := 1487) hC dL_law_1472 (by decide) (by omega) (fun c => absurd rfl c) (fun _ => ?_)
    first | refine r_aload_n (pc := 1475) hC dL_law_1475 rfl ?_ | refine r_aload_nN (pc := 1475) hC dL_law_1475 rfl ?_
    refine r_iconst (pc := 1476) (nI 0) hC dL_law_1476 (by decide) ?_
    refine r_jald (pc := 1477) hC dL_law_1477 ho2 (by rw [hN2]; decide) (by rw [hN2]; decide) hv2 ?_
    refine r_iload (pc := 1478) hC dL_law_1478 rfl ?_
    refine r_i2l (pc := 1480) hC dL_law_1480 ?_
    refine r_lcmp (pc := 1481) hC dL_law_1481 ?_
    rw [(lg_cmp_eq _ _).mpr rfl]
    refine r_if_eq (pc := 1482) (tgt := 1487) hC dL_law_1482 (by decide) (fun _ => ?_) (fun c => absurd rfl c)
    refine r_goto (pc := 1487) (tgt := 1628) hC dL_law_1487 (by decide) ?_
    refine at_lv (lv' := [(0, .ref b), (1, .ref x), (2, .ref m), (3, .ref o), (4, .int (nI i))]) ⟨rfl, rfl, rfl, rfl, rfl, trivial⟩ ?_
    refine at_widen (k' := k + 20) (n' := s + 5000) (Nat.le_refl _) (Nat.le_refl _) ?_
    exact nx _ ⟨_, _, _, _, hZ2, hM2, hJ2, ho2, hN2⟩
  · skip
    obtain ⟨Y1, hZ1⟩ := or_n hR1 hk0
    have hZ2 := hZ1.frM hF2 (fun q _ hp => mcP hp)
    have ho2 := hF2.K ho1
    have hN2 : pN S2 o = 1 := (hF2.N ho1 (ncM ho1)).trans (hN1.trans hoN)
    have hJ2 := hJ.le (Nat.le_succ n)
    have hk3 := kd_le _ (show ([(1, inB σ (xs (i + 1))), (1, inZ σ (xs (i + 2)))]).all (fun q => decide (q.1 ≤ 3)) = true from rfl)
    refine r_istore (pc := 1457) hC dL_law_1457 (by decide) ?_
    first | refine r_aload_n (pc := 1459) hC dL_law_1459 rfl ?_ | refine r_aload_nN (pc := 1459) hC dL_law_1459 rfl ?_
    refine r_callV (pc := 1460) hC (cm_thrown hC.fl hM2 hJ2.1) kv_L_91 cls6 hM2.k6 rfl rfl (Nat.le_of_ble_eq_true rfl) ⟨by decide, by decide, hk2, hs2⟩ dL_law_1460 (fun _ _ h => h.elim) (fun v3 S3 h3 => ?_)
    obtain ⟨rfl, rfl⟩ := h3
    refine at_widen (k' := k + 20) (n' := s + 5000) (show k + 16 + 2 + 0 ≤ k + 20 by omega) (show s + 1900 + 3100 + 0 ≤ s + 5000 by omega) ?_
    refine r_iload (pc := 1463) hC dL_law_1463 rfl ?_
    refine r_icmp_eq (pc := 1465) (tgt := 1470) hC dL_law_1465 (by decide) (fun _ => ?_) (fun c => absurd rfl c)
    refine r_iload (pc := 1470) hC dL_law_1470 rfl ?_
    refine rn_if_ne (pc := 1472) (tgt := 1487) hC dL_law_1472 (by decide) (by omega) (fun _ => ?_) (fun c => absurd c hk0)
    refine r_goto (pc := 1487) (tgt := 1628) hC dL_law_1487 (by decide) ?_
    refine at_lv (lv' := [(0, .ref b), (1, .ref x), (2, .ref m), (3, .ref o), (4, .int (nI i))]) ⟨rfl, rfl, rfl, rfl, rfl, trivial⟩ ?_
    refine at_widen (k' := k + 20) (n' := s + 5000) (Nat.le_refl _) (Nat.le_refl _) ?_
    exact nx _ ⟨_, _, _, _, hZ2, hM2, hJ2, ho2, hN2⟩
set_option maxHeartbeats 4000000 in
set_option maxRecDepth 100000 in
theorem lc_next {Γ : Cx} {G : Ids} {V : Vx} {S : Ps} {Y : Lay} {σ : Sg} {M : Nat → Nat} {b x m o i n k s t L : Nat} {xs : Nat → Int32} (hC : Ctx Γ G V code RL room_1 9) (hX : ScX Γ V b L xs) (hL : L ≤ 2560) (hi : i + 5 ≤ L) (hn5 : n ≤ 511) (hZ : RC G S Y σ x) (hM : RM S M σ m t) (hJ : Inv σ n) (ho : isK S 10 o) (hoN : pN S o = 1) (hk : k + 20 ≤ 601024) (hs : s + 5000 ≤ 7293034) (nx : ∀ S', JL G S' x m o (n + 1) → At Γ G V (k + 20) (s + 5000) S' [(0, .ref b), (1, .ref x), (2, .ref m), (3, .ref o), (4, .int (nI i))] 1628 []) : At Γ G V k s S [(0, .ref b), (1, .ref x), (2, .ref m), (3, .ref o), (4, .int (nI i))] 1490 [] := by
  have hk1 : k + 16 ≤ room_1.cells := Nat.le_trans (Nat.add_le_add_left (by decide) k) hk
  have hk2 : k + 16 + 2 ≤ room_1.cells := Nat.le_trans (Nat.add_le_add_left (show 18 ≤ 20 by decide) k) hk
  have hs1 : s + 1900 ≤ room_1.slots := Nat.le_trans (Nat.add_le_add_left (by decide) s) hs
  have hs2 : s + 1900 + 3100 ≤ room_1.slots := hs
  first | refine r_aload_n (pc := 1490) hC dL_law_1490 rfl ?_ | refine r_aload_nN (pc := 1490) hC dL_law_1490 rfl ?_
  first | refine r_aload_n (pc := 1491) hC dL_law_1491 rfl ?_ | refine r_aload_nN (pc := 1491) hC dL_law_1491 rfl ?_
  refine r_iload (pc := 1492) hC dL_law_1492 rfl ?_
  refine r_iconst (pc := 1494) (nI 1) hC dL_law_1494 (by decide) ?_
  first | refine rn_iadd (pc := 1495) hC dL_law_1495 ?_ | refine r_iadd (pc := 1495) hC dL_law_1495 ?_
  refine r_sld (pc := 1496) hC hX hL (by omega) dL_law_1496 ?_
  first | refine r_aload_n (pc := 1497) hC dL_law_1497 rfl ?_ | refine r_aload_nN (pc := 1497) hC dL_law_1497 rfl ?_
  refine r_iload (pc := 1498) hC dL_law_1498 rfl ?_
  refine r_iconst (pc := 1500) (nI 2) hC dL_law_1500 (by decide) ?_
  first | refine rn_iadd (pc := 1501) hC dL_law_1501 ?_ | refine r_iadd (pc := 1501) hC dL_law_1501 ?_
  refine r_sld (pc := 1502) hC hX hL (by omega) dL_law_1502 ?_
  first | refine r_aload_n (pc := 1503) hC dL_law_1503 rfl ?_ | refine r_aload_nN (pc := 1503) hC dL_law_1503 rfl ?_
  refine r_callSW (pc := 1504) hC (cl_next hC.fl hZ hJ hn5 ho hoN) ks_L_168 rfl rfl (Nat.le_of_ble_eq_true rfl) ⟨by decide, by decide, Nat.le_trans (Nat.add_le_add_left (show rm_L_next.cells ≤ 16 by decide) _) hk1, Nat.le_trans (Nat.add_le_add_left (show rm_L_next.slots ≤ 1900 by decide) _) hs1⟩ dL_law_1504 (fun _ _ h => h.elim) (fun v1 S1 h1 => ?_)
  obtain ⟨rfl, hF1, hN1, hR1⟩ := h1
  have hM1 := hM.fr hF1 (fun q _ hp => hp.elim cmP (fun e => e ▸ ncM ho))
  have ho1 := hF1.K ho
  refine at_widen (k' := k + 16) (n' := s + 1900) (Nat.add_le_add_left (by decide) k) (Nat.add_le_add_left (by decide) s) ?_
  refine r_istore (pc := 1507) hC dL_law_1507 (by decide) ?_
  first | refine r_aload_n (pc := 1509) hC dL_law_1509 rfl ?_ | refine r_aload_nN (pc := 1509) hC dL_law_1509 rfl ?_
  first | refine r_aload_n (pc := 1510) hC dL_law_1510 rfl ?_ | refine r_aload_nN (pc := 1510) hC dL_law_1510 rfl ?_
  refine r_iload (pc := 1511) hC dL_law_1511 rfl ?_
  refine r_iconst (pc := 1513) (nI 1) hC dL_law_1513 (by decide) ?_
  first | refine rn_iadd (pc := 1514) hC dL_law_1514 ?_ | refine r_iadd (pc := 1514) hC dL_law_1514 ?_
  refine r_sld (pc := 1515) hC hX hL (by omega) dL_law_1515 ?_
  first | refine r_aload_n (pc := 1516) hC dL_law_1516 rfl ?_ | refine r_aload_nN (pc := 1516) hC dL_law_1516 rfl ?_
  refine r_iload (pc := 1517) hC dL_law_1517 rfl ?_
  refine r_iconst (pc := 1519) (nI 2) hC dL_law_1519 (by decide) ?_
  first | refine rn_iadd (pc := 1520) hC dL_law_1520 ?_ | refine r_iadd (pc := 1520) hC dL_law_1520 ?_
  refine r_sld (pc := 1521) hC hX hL (by omega) dL_law_1521 ?_
  refine r_callV (pc := 1522) hC (cq_next hC.fl hM1 hJ.1) kv_L_170 cls6 hM1.k6 rfl rfl (Nat.le_of_ble_eq_true rfl) ⟨by decide, by decide, Nat.le_trans (Nat.add_le_add_left (show rm_X5_next.cells ≤ 2 by decide) _) hk2, Nat.le_trans (Nat.add_le_add_left (show rm_X5_next.slots ≤ 3100 by decide) _) hs2⟩ dL_law_1522 (fun _ _ h => h.elim) (fun v2 S2 h2 => ?_)
  refine at_widen (k' := k + 16 + 2) (n' := s + 1900 + 3100) (Nat.add_le_add_left (by decide) _) (Nat.add_le_add_left (by decide) _) ?_
  rcases h2 with ⟨hk0, rfl, hF2, M2, hM2⟩ | ⟨hk0, rfl, hF2, M2, hM2⟩
  · skip
    obtain ⟨⟨Y1, hZ1⟩, hv1⟩ := or_y hR1 hk0
    have hZ2 := hZ1.frM hF2 (fun q _ hp => mcP hp)
    have ho2 := hF2.K ho1
    have hN2 : pN S2 o = 1 := (hF2.N ho1 (ncM ho1)).trans (hN1.trans hoN)
    have hJ2 := hJ.le (Nat.le_succ n)
    have hv2 := (congrFun (hF2.J ho1 (ncM ho1)) 0).trans hv1
    rw [hk0]
    refine r_istore (pc := 1525) hC dL_law_1525 (by decide) ?_
    first | refine r_aload_n (pc := 1527) hC dL_law_1527 rfl ?_ | refine r_aload_nN (pc := 1527) hC dL_law_1527 rfl ?_
    refine r_callV (pc := 1528) hC (cm_thrown hC.fl hM2 hJ2.1) kv_L_91 cls6 hM2.k6 rfl rfl (Nat.le_of_ble_eq_true rfl) ⟨by decide, by decide, hk2, hs2⟩ dL_law_1528 (fun _ _ h => h.elim) (fun v3 S3 h3 => ?_)
    obtain ⟨rfl, rfl⟩ := h3
    refine at_widen (k' := k + 20) (n' := s + 5000) (show k + 16 + 2 + 0 ≤ k + 20 by omega) (show s + 1900 + 3100 + 0 ≤ s + 5000 by omega) ?_
    refine r_iload (pc := 1531) hC dL_law_1531 rfl ?_
    refine r_icmp_eq (pc := 1533) (tgt := 1538) hC dL_law_1533 (by decide) (fun _ => ?_) (fun c => absurd rfl c)
    refine r_iload (pc := 1538) hC dL_law_1538 rfl ?_
    refine rn_if_ne (pc := 1540) (tgt := 1555) hC dL_law_1540 (by decide) (by omega) (fun c => absurd rfl c) (fun _ => ?_)
    first | refine r_aload_n (pc := 1543) hC dL_law_1543 rfl ?_ | refine r_aload_nN (pc := 1543) hC dL_law_1543 rfl ?_
    refine r_iconst (pc := 1544) (nI 0) hC dL_law_1544 (by decide) ?_
    refine r_jald (pc := 1545) hC dL_law_1545 ho2 (by rw [hN2]; decide) (by rw [hN2]; decide) hv2 ?_
    refine r_iload (pc := 1546) hC dL_law_1546 rfl ?_
    refine r_i2l (pc := 1548) hC dL_law_1548 ?_
    refine r_lcmp (pc := 1549) hC dL_law_1549 ?_
    rw [(lg_cmp_eq _ _).mpr rfl]
    refine r_if_eq (pc := 1550) (tgt := 1555) hC dL_law_1550 (by decide) (fun _ => ?_) (fun c => absurd rfl c)
    refine r_goto (pc := 1555) (tgt := 1628) hC dL_law_1555 (by decide) ?_
    refine at_lv (lv' := [(0, .ref b), (1, .ref x), (2, .ref m), (3, .ref o), (4, .int (nI i))]) ⟨rfl, rfl, rfl, rfl, rfl, trivial⟩ ?_
    refine at_widen (k' := k + 20) (n' := s + 5000) (Nat.le_refl _) (Nat.le_refl _) ?_
    exact nx _ ⟨_, _, _, _, hZ2, hM2, hJ2, ho2, hN2⟩
  · skip
    obtain ⟨Y1, hZ1⟩ := or_n hR1 hk0
    have hZ2 := hZ1.frM hF2 (fun q _ hp => mcP hp)
    have ho2 := hF2.K ho1
    have hN2 : pN S2 o = 1 := (hF2.N ho1 (ncM ho1)).trans (hN1.trans hoN)
    have hJ2 := hJ.le (Nat.le_succ n)
    have hk3 := kd_le _ (show ([(1, inB σ (xs (i + 1))), (1, inZ σ (xs (i + 2)))]).all (fun q => decide (q.1 ≤ 3)) = true from rfl)
    refine r_istore (pc := 1525) hC dL_law_1525 (by decide) ?_
    first | refine r_aload_n (pc := 1527) hC dL_law_1527 rfl ?_ | refine r_aload_nN (pc := 1527) hC dL_law_1527 rfl ?_
    refine r_callV (pc := 1528) hC (cm_thrown hC.fl hM2 hJ2.1) kv_L_91 cls6 hM2.k6 rfl rfl (Nat.le_of_ble_eq_true rfl) ⟨by decide, by decide, hk2, hs2⟩ dL_law_1528 (fun _ _ h => h.elim) (fun v3 S3 h3 => ?_)
    obtain ⟨rfl, rfl⟩ := h3
    refine at_widen (k' := k + 20) (n' := s + 5000) (show k + 16 + 2 + 0 ≤ k + 20 by omega) (show s + 1900 + 3100 + 0 ≤ s + 5000 by omega) ?_
    refine r_iload (pc := 1531) hC dL_law_1531 rfl ?_
    refine r_icmp_eq (pc := 1533) (tgt := 1538) hC dL_law_1533 (by decide) (fun _ => ?_) (fun c => absurd rfl c)
    refine r_iload (pc := 1538) hC dL_law_1538 rfl ?_
    refine rn_if_ne (pc := 1540) (tgt := 1555) hC dL_law_1540 (by decide) (by omega) (fun _ => ?_) (fun c => absurd c hk0)
    refine r_goto (pc := 1555) (tgt := 1628) hC dL_law_1555 (by decide) ?_
    refine at_lv (lv' := [(0, .ref b), (1, .ref x), (2, .ref m), (3, .ref o), (4, .int (nI i))]) ⟨rfl, rfl, rfl, rfl, rfl, trivial⟩ ?_
    refine at_widen (k' := k + 20) (n' := s + 5000) (Nat.le_refl _) (Nat.le_refl _) ?_
    exact nx _ ⟨_, _, _, _, hZ2, hM2, hJ2, ho2, hN2⟩
set_option maxHeartbeats 4000000 in
set_option maxRecDepth 100000 in
theorem lc_canCome {Γ : Cx} {G : Ids} {V : Vx} {S : Ps} {Y : Lay} {σ : Sg} {M : Nat → Nat} {b x m o i n k s t L : Nat} {xs : Nat → Int32} (hC : Ctx Γ G V code RL room_1 9) (hX : ScX Γ V b L xs) (hL : L ≤ 2560) (hi : i + 5 ≤ L) (hn5 : n ≤ 511) (hZ : RC G S Y σ x) (hM : RM S M σ m t) (hJ : Inv σ n) (ho : isK S 10 o) (hoN : pN S o = 1) (hk : k + 20 ≤ 601024) (hs : s + 5000 ≤ 7293034) (nx : ∀ S', JL G S' x m o (n + 1) → At Γ G V (k + 20) (s + 5000) S' [(0, .ref b), (1, .ref x), (2, .ref m), (3, .ref o), (4, .int (nI i))] 1628 []) : At Γ G V k s S [(0, .ref b), (1, .ref x), (2, .ref m), (3, .ref o), (4, .int (nI i))] 1558 [] := by
  have hk1 : k + 16 ≤ room_1.cells := Nat.le_trans (Nat.add_le_add_left (by decide) k) hk
  have hk2 : k + 16 + 2 ≤ room_1.cells := Nat.le_trans (Nat.add_le_add_left (show 18 ≤ 20 by decide) k) hk
  have hs1 : s + 1900 ≤ room_1.slots := Nat.le_trans (Nat.add_le_add_left (by decide) s) hs
  have hs2 : s + 1900 + 3100 ≤ room_1.slots := hs
  first | refine r_aload_n (pc := 1558) hC dL_law_1558 rfl ?_ | refine r_aload_nN (pc := 1558) hC dL_law_1558 rfl ?_
  first | refine r_aload_n (pc := 1559) hC dL_law_1559 rfl ?_ | refine r_aload_nN (pc := 1559) hC dL_law_1559 rfl ?_
  refine r_iload (pc := 1560) hC dL_law_1560 rfl ?_
  refine r_iconst (pc := 1562) (nI 1) hC dL_law_1562 (by decide) ?_
  first | refine rn_iadd (pc := 1563) hC dL_law_1563 ?_ | refine r_iadd (pc := 1563) hC dL_law_1563 ?_
  refine r_sld (pc := 1564) hC hX hL (by omega) dL_law_1564 ?_
  first | refine r_aload_n (pc := 1565) hC dL_law_1565 rfl ?_ | refine r_aload_nN (pc := 1565) hC dL_law_1565 rfl ?_
  refine r_callSW (pc := 1566) hC (cl_canCome hC.fl hZ hJ hn5 ho hoN) ks_L_171 rfl rfl (Nat.le_of_ble_eq_true rfl) ⟨by decide, by decide, Nat.le_trans (Nat.add_le_add_left (show rm_L_canCome.cells ≤ 16 by decide) _) hk1, Nat.le_trans (Nat.add_le_add_left (show rm_L_canCome.slots ≤ 1900 by decide) _) hs1⟩ dL_law_1566 (fun _ _ h => h.elim) (fun v1 S1 h1 => ?_)
  obtain ⟨rfl, hF1, hN1, hR1⟩ := h1
  have hM1 := hM.fr hF1 (fun q _ hp => hp.elim cmP (fun e => e ▸ ncM ho))
  have ho1 := hF1.K ho
  refine at_widen (k' := k + 16) (n' := s + 1900) (Nat.add_le_add_left (by decide) k) (Nat.add_le_add_left (by decide) s) ?_
  refine r_istore (pc := 1569) hC dL_law_1569 (by decide) ?_
  first | refine r_aload_n (pc := 1571) hC dL_law_1571 rfl ?_ | refine r_aload_nN (pc := 1571) hC dL_law_1571 rfl ?_
  first | refine r_aload_n (pc := 1572) hC dL_law_1572 rfl ?_ | refine r_aload_nN (pc := 1572) hC dL_law_1572 rfl ?_
  refine r_iload (pc := 1573) hC dL_law_1573 rfl ?_
  refine r_iconst (pc := 1575) (nI 1) hC dL_law_1575 (by decide) ?_
  first | refine rn_iadd (pc := 1576) hC dL_law_1576 ?_ | refine r_iadd (pc := 1576) hC dL_law_1576 ?_
  refine r_sld (pc := 1577) hC hX hL (by omega) dL_law_1577 ?_
  refine r_callV (pc := 1578) hC (cq_canCome hC.fl hM1 hJ.1) kv_L_173 cls6 hM1.k6 rfl rfl (Nat.le_of_ble_eq_true rfl) ⟨by decide, by decide, Nat.le_trans (Nat.add_le_add_left (show rm_X5_canCome.cells ≤ 2 by decide) _) hk2, Nat.le_trans (Nat.add_le_add_left (show rm_X5_canCome.slots ≤ 3100 by decide) _) hs2⟩ dL_law_1578 (fun _ _ h => h.elim) (fun v2 S2 h2 => ?_)
  refine at_widen (k' := k + 16 + 2) (n' := s + 1900 + 3100) (Nat.add_le_add_left (by decide) _) (Nat.add_le_add_left (by decide) _) ?_
  rcases h2 with ⟨hk0, rfl, hF2, M2, hM2⟩ | ⟨hk0, rfl, hF2, M2, hM2⟩
  · skip
    obtain ⟨⟨Y1, hZ1⟩, hv1⟩ := or_y hR1 hk0
    have hZ2 := hZ1.frM hF2 (fun q _ hp => mcP hp)
    have ho2 := hF2.K ho1
    have hN2 : pN S2 o = 1 := (hF2.N ho1 (ncM ho1)).trans (hN1.trans hoN)
    have hJ2 := hJ.le (Nat.le_succ n)
    have hv2 := (congrFun (hF2.J ho1 (ncM ho1)) 0).trans hv1
    rw [hk0]
    refine r_istore (pc := 1581) hC dL_law_1581 (by decide) ?_
    first | refine r_aload_n (pc := 1583) hC dL_law_1583 rfl ?_ | refine r_aload_nN (pc := 1583) hC dL_law_1583 rfl ?_
    refine r_callV (pc := 1584) hC (cm_thrown hC.fl hM2 hJ2.1) kv_L_91 cls6 hM2.k6 rfl rfl (Nat.le_of_ble_eq_true rfl) ⟨by decide, by decide, hk2, hs2⟩ dL_law_1584 (fun _ _ h => h.elim) (fun v3 S3 h3 => ?_)
    obtain ⟨rfl, rfl⟩ := h3
    refine at_widen (k' := k + 20) (n' := s + 5000) (show k + 16 + 2 + 0 ≤ k + 20 by omega) (show s + 1900 + 3100 + 0 ≤ s + 5000 by omega) ?_
    refine r_iload (pc := 1587) hC dL_law_1587 rfl ?_
    refine r_icmp_eq (pc := 1589) (tgt := 1594) hC dL_law_1589 (by decide) (fun _ => ?_) (fun c => absurd rfl c)
    refine r_iload (pc := 1594) hC dL_law_1594 rfl ?_
    refine rn_if_ne (pc := 1596) (tgt := 1611) hC dL_law_1596 (by decide) (by omega) (fun c => absurd rfl c) (fun _ => ?_)
    first | refine r_aload_n (pc := 1599) hC dL_law_1599 rfl ?_ | refine r_aload_nN (pc := 1599) hC dL_law_1599 rfl ?_
    refine r_iconst (pc := 1600) (nI 0) hC dL_law_1600 (by decide) ?_
    refine r_jald (pc := 1601) hC dL_law_1601 ho2 (by rw [hN2]; decide) (by rw [hN2]; decide) hv2 ?_
    refine r_iload (pc := 1602) hC dL_law_1602 rfl ?_
    refine r_i2l (pc := 1604) hC dL_law_1604 ?_
    refine r_lcmp (pc := 1605) hC dL_law_1605 ?_
    rw [(lg_cmp_eq _ _).mpr rfl]
    refine r_if_eq (pc := 1606) (tgt := 1611) hC dL_law_1606 (by decide) (fun _ => ?_) (fun c => absurd rfl c)
    refine r_goto (pc := 1611) (tgt := 1628) hC dL_law_1611 (by decide) ?_
    refine at_lv (lv' := [(0, .ref b), (1, .ref x), (2, .ref m), (3, .ref o), (4, .int (nI i))]) ⟨rfl, rfl, rfl, rfl, rfl, trivial⟩ ?_
    refine at_widen (k' := k + 20) (n' := s + 5000) (Nat.le_refl _) (Nat.le_refl _) ?_
    exact nx _ ⟨_, _, _, _, hZ2, hM2, hJ2, ho2, hN2⟩
  · skip
    obtain ⟨Y1, hZ1⟩ := or_n hR1 hk0
    have hZ2 := hZ1.frM hF2 (fun q _ hp => mcP hp)
    have ho2 := hF2.K ho1
    have hN2 : pN S2 o = 1 := (hF2.N ho1 (ncM ho1)).trans (hN1.trans hoN)
    have hJ2 := hJ.le (Nat.le_succ n)
    have hk3 := kd_le _ (show ([(1, inZ σ (xs (i + 1)))]).all (fun q => decide (q.1 ≤ 3)) = true from rfl)
    refine r_istore (pc := 1581) hC dL_law_1581 (by decide) ?_
    first | refine r_aload_n (pc := 1583) hC dL_law_1583 rfl ?_ | refine r_aload_nN (pc := 1583) hC dL_law_1583 rfl ?_
    refine r_callV (pc := 1584) hC (cm_thrown hC.fl hM2 hJ2.1) kv_L_91 cls6 hM2.k6 rfl rfl (Nat.le_of_ble_eq_true rfl) ⟨by decide, by decide, hk2, hs2⟩ dL_law_1584 (fun _ _ h => h.elim) (fun v3 S3 h3 => ?_)
    obtain ⟨rfl, rfl⟩ := h3
    refine at_widen (k' := k + 20) (n' := s + 5000) (show k + 16 + 2 + 0 ≤ k + 20 by omega) (show s + 1900 + 3100 + 0 ≤ s + 5000 by omega) ?_
    refine r_iload (pc := 1587) hC dL_law_1587 rfl ?_
    refine r_icmp_eq (pc := 1589) (tgt := 1594) hC dL_law_1589 (by decide) (fun _ => ?_) (fun c => absurd rfl c)
    refine r_iload (pc := 1594) hC dL_law_1594 rfl ?_
    refine rn_if_ne (pc := 1596) (tgt := 1611) hC dL_law_1596 (by decide) (by omega) (fun _ => ?_) (fun c => absurd c hk0)
    refine r_goto (pc := 1611) (tgt := 1628) hC dL_law_1611 (by decide) ?_
    refine at_lv (lv' := [(0, .ref b), (1, .ref x), (2, .ref m), (3, .ref o), (4, .int (nI i))]) ⟨rfl, rfl, rfl, rfl, rfl, trivial⟩ ?_
    refine at_widen (k' := k + 20) (n' := s + 5000) (Nat.le_refl _) (Nat.le_refl _) ?_
    exact nx _ ⟨_, _, _, _, hZ2, hM2, hJ2, ho2, hN2⟩
set_option maxHeartbeats 4000000 in
set_option maxRecDepth 100000 in
theorem lc_digest {Γ : Cx} {G : Ids} {V : Vx} {S : Ps} {Y : Lay} {σ : Sg} {M : Nat → Nat} {b x m o i n k s t L : Nat} {xs : Nat → Int32} (hC : Ctx Γ G V code RL room_1 9) (hX : ScX Γ V b L xs) (hL : L ≤ 2560) (hi : i + 5 ≤ L) (hn5 : n ≤ 511) (hZ : RC G S Y σ x) (hM : RM S M σ m t) (hJ : Inv σ n) (ho : isK S 10 o) (hoN : pN S o = 1) (hk : k + 20 ≤ 601024) (hs : s + 5000 ≤ 7293034) (nx : ∀ S', JL G S' x m o (n + 1) → At Γ G V (k + 20) (s + 5000) S' [(0, .ref b), (1, .ref x), (2, .ref m), (3, .ref o), (4, .int (nI i))] 1628 []) : At Γ G V k s S [(0, .ref b), (1, .ref x), (2, .ref m), (3, .ref o), (4, .int (nI i))] 1614 [] := by
  have hk1 : k + 16 ≤ room_1.cells := Nat.le_trans (Nat.add_le_add_left (by decide) k) hk
  have hk2 : k + 16 + 2 ≤ room_1.cells := Nat.le_trans (Nat.add_le_add_left (show 18 ≤ 20 by decide) k) hk
  have hs1 : s + 1900 ≤ room_1.slots := Nat.le_trans (Nat.add_le_add_left (by decide) s) hs
  have hs2 : s + 1900 + 3100 ≤ room_1.slots := hs
  first | refine r_aload_n (pc := 1614) hC dL_law_1614 rfl ?_ | refine r_aload_nN (pc := 1614) hC dL_law_1614 rfl ?_
  refine r_callV (pc := 1615) hC (cp_digest hC.fl hZ hJ hn5) kv_L_174 cls5 hZ.kx rfl rfl (Nat.le_of_ble_eq_true rfl) ⟨by decide, by decide, Nat.le_trans (Nat.add_le_add_left (show rm_X4_digest.cells ≤ 16 by decide) _) hk1, Nat.le_trans (Nat.add_le_add_left (show rm_X4_digest.slots ≤ 1900 by decide) _) hs1⟩ dL_law_1615 (fun _ _ h => h.elim) (fun v1 S1 h1 => ?_)
  obtain ⟨rfl, hF1, Y1, hZ1⟩ := h1
  have hM1 := hM.fr hF1 (fun q _ hp => cmP hp)
  have ho1 := hF1.K ho
  have hN1 := hF1.N ho (ncP ho)
  refine at_widen (k' := k + 16) (n' := s + 1900) (Nat.add_le_add_left (by decide) k) (Nat.add_le_add_left (by decide) s) ?_
  first | refine r_aload_n (pc := 1618) hC dL_law_1618 rfl ?_ | refine r_aload_nN (pc := 1618) hC dL_law_1618 rfl ?_
  refine r_callV (pc := 1619) hC (cq_digest hC.fl hM1 hJ.1) kv_L_178 cls6 hM1.k6 rfl rfl (Nat.le_of_ble_eq_true rfl) ⟨by decide, by decide, Nat.le_trans (Nat.add_le_add_left (show rm_X5_digest.cells ≤ 2 by decide) _) hk2, Nat.le_trans (Nat.add_le_add_left (show rm_X5_digest.slots ≤ 3100 by decide) _) hs2⟩ dL_law_1619 (fun _ _ h => h.elim) (fun v2 S2 h2 => ?_)
  refine at_widen (k' := k + 16 + 2) (n' := s + 1900 + 3100) (Nat.add_le_add_left (by decide) _) (Nat.add_le_add_left (by decide) _) ?_
  rcases h2 with ⟨-, rfl, hF2, M2, hM2⟩ | ⟨hk0, -⟩
  · skip
    have hZ2 := hZ1.frM hF2 (fun q _ hp => mcP hp)
    have ho2 := hF2.K ho1
    have hN2 : pN S2 o = 1 := (hF2.N ho1 (ncM ho1)).trans (hN1.trans hoN)
    have hJ2 := hJ.le (Nat.le_succ n)
    refine r_lcmp (pc := 1622) hC dL_law_1622 ?_
    rw [(lg_cmp_eq _ _).mpr rfl]
    refine r_if_eq (pc := 1623) (tgt := 1628) hC dL_law_1623 (by decide) (fun _ => ?_) (fun c => absurd rfl c)
    refine at_lv (lv' := [(0, .ref b), (1, .ref x), (2, .ref m), (3, .ref o), (4, .int (nI i))]) ⟨rfl, rfl, rfl, rfl, rfl, trivial⟩ ?_
    refine at_widen (k' := k + 20) (n' := s + 5000) (show k + 16 + 2 ≤ k + 20 by omega) (Nat.le_refl _) ?_
    exact nx _ ⟨_, _, _, _, hZ2, hM2, hJ2, ho2, hN2⟩
  · exact absurd rfl hk0
