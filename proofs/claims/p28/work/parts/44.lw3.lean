/-! THE LAW'S ROUND: what is asked, then the looks. -/
theorem H28.bd {σ σ' : Sg} (h : H28 σ σ') (hB : Bd28 σ) : Bd28 σ' := by
  obtain ⟨s1, s2, s3, s4, s5⟩ := h
  unfold Bd28
  rw [s1, s2, s3]
  exact hB
set_option maxHeartbeats 4000000 in
set_option maxRecDepth 100000 in
theorem sg_act {Γ : Cx} {G : Ids} {V : Vx} {b L x c z d t k s : Nat} {xs : Nat → Int32} {w : Bool} {σ : Sg} {S : Ps} (hC : Ctx Γ G V code RL room_1 15) (hX : ScX Γ V b L xs) (hL : L ≤ 260) (hJ : Inv σ t) (hB : Bd28 σ) (ht : t < 40) (hm : mi σ ≤ 40 * t) (hP : w = false → P28 σ) (hk : k + 6 ≤ 600104) (hs : s + 840 ≤ 7301314) (hZ : ZW G S x c z d σ) (nx : ∀ (σ9 : Sg) (w : Bool) (e : Nat) (S9 : Ps), ZW G S9 x c z d σ9 → Inv σ9 (t + 1) → Bd28 σ9 → (w = false → P28 σ9) → mi σ9 ≤ 40 * (t + 1) → e < nb σ9 → At Γ G V (k + 6) (s + 840) S9 [(0, .ref b), (1, .ref x), (2, .ref c), (3, .ref z), (4, .ref d), (6, .int (nI (bN w))), (7, .int (nI t)), (9, .int (nI e))] 202 []) : At Γ G V k s S [(0, .ref b), (1, .ref x), (2, .ref c), (3, .ref z), (4, .ref d), (6, .int (nI (bN w))), (7, .int (nI t))] 59 [] := by
  obtain ⟨⟨Y, hR⟩, hA⟩ := id hZ
  obtain ⟨b1, b2, b3, b4, b5⟩ := id hB
  have hn := hJ.1.n
  have hw := bN_le w
  have hn5 : t ≤ 511 := by omega
  first | refine r_aload_n (pc := 59) hC dL_law_59 rfl ?_ | refine r_aload_nN (pc := 59) hC dL_law_59 rfl ?_
  refine r_bipush (pc := 60) (nI 11) hC dL_law_60 (by decide) ?_
  refine r_iload (pc := 62) hC dL_law_62 rfl ?_
  refine r_bipush (pc := 64) (nI 9) hC dL_law_64 (by decide) ?_
  refine rn_irem (pc := 66) hC dL_law_66 (by omega) (by omega) (by omega) ?_
  first | refine rn_iadd (pc := 67) hC dL_law_67 ?_ | refine r_iadd (pc := 67) hC dL_law_67 ?_
  refine q_callSX (pc := 68) (k' := k) (n' := s) hC hX (ct_cell hC.fl hL (by omega)) ks_L_9 rfl rfl (Nat.le_of_ble_eq_true rfl) ⟨by decide, by decide⟩ (show k + 0 ≤ k by omega) (show k ≤ 600104 by omega) (show s + 0 ≤ s by omega) (show s ≤ 7301314 by omega) dL_law_68 (fun _ _ h => h) (fun v68 S1 h68 => ?_)
  obtain ⟨⟨y, rfl⟩, rfl⟩ := h68
  refine r_iload (pc := 71) hC dL_law_71 rfl ?_
  refine r_bipush (pc := 73) (nI 9) hC dL_law_73 (by decide) ?_
  refine rn_idiv (pc := 75) hC dL_law_75 (by omega) (by omega) (by omega) ?_
  refine r_bipush (pc := 76) (nI 6) hC dL_law_76 (by decide) ?_
  first | refine rn_imul (pc := 78) hC dL_law_78 ?_ | refine r_imul (pc := 78) hC dL_law_78 ?_
  refine r_ishr (pc := 79) hC dL_law_79 ?_
  generalize (y >>> _) = y8
  refine r_istore (pc := 80) hC dL_law_80 (by decide) ?_
  refine r_iload (pc := 82) hC dL_law_82 rfl ?_
  first | refine r_aload_n (pc := 84) hC dL_law_84 rfl ?_ | refine r_aload_nN (pc := 84) hC dL_law_84 rfl ?_
  refine r_iconst (pc := 85) (nI 2) hC dL_law_85 (by decide) ?_
  refine r_iald (pc := 86) hC dL_law_86 hA.kc (by rw [hA.nc]; decide) (by rw [hA.nc]; decide) hA.c2 ?_
  refine q_callS (pc := 87) (k' := k) (n' := s) hC (ct_below hC.fl (m := nb σ) (by omega) (by omega)) ks_L_15 rfl rfl (Nat.le_of_ble_eq_true rfl) ⟨by decide, by decide⟩ (show k + 0 ≤ k by omega) (show k ≤ 600104 by omega) (show s + 0 ≤ s by omega) (show s ≤ 7301314 by omega) dL_law_87 (fun _ _ h => h) (fun v87 S2 h87 => ?_)
  obtain ⟨⟨e, he, rfl⟩, rfl⟩ := h87
  refine r_istore (pc := 90) hC dL_law_90 (by decide) ?_
  have he : e < nb σ := he
  have he31 : e < 2 ^ 31 := by omega
  refine r_iload (pc := 92) hC dL_law_92 rfl ?_
  refine r_iconst (pc := 94) (nI 2) hC dL_law_94 (by decide) ?_
  refine r_ishr (pc := 95) hC dL_law_95 ?_
  refine r_bipush (pc := 96) (nI 8) hC dL_law_96 (by decide) ?_
  refine q_callS (pc := 98) (k' := k) (n' := s) hC (ct_below hC.fl (m := 8) (by omega) (by omega)) ks_L_15 rfl rfl (Nat.le_of_ble_eq_true rfl) ⟨by decide, by decide⟩ (show k + 0 ≤ k by omega) (show k ≤ 600104 by omega) (show s + 0 ≤ s by omega) (show s ≤ 7301314 by omega) dL_law_98 (fun _ _ h => h) (fun v98 S3 h98 => ?_)
  obtain ⟨⟨q, hq, rfl⟩, rfl⟩ := h98
  refine r_istore (pc := 101) hC dL_law_101 (by decide) ?_
  refine r_iload (pc := 103) hC dL_law_103 rfl ?_
  first | refine rb_if_ne (pc := 105) (tgt := 127) hC dL_law_105 (by decide) (fun c105 => ?_) (fun c105 => ?_) | refine rn_if_ne (pc := 105) (tgt := 127) hC dL_law_105 (by decide) (by omega) (fun c105 => ?_) (fun c105 => ?_) | refine ri_if_ne (pc := 105) (tgt := 127) hC dL_law_105 (by decide) (fun c105 => ?_) (fun c105 => ?_)
  · -- taken
    refine r_iload (pc := 127) hC dL_law_127 rfl ?_
    refine r_iconst (pc := 129) (nI 1) hC dL_law_129 (by decide) ?_
    first | refine rn_icmp_ne (pc := 130) (tgt := 156) hC dL_law_130 (by decide) (by omega) (by omega) (fun c130 => ?_) (fun c130 => ?_) | refine ri_icmp_ne (pc := 130) (tgt := 156) hC dL_law_130 (by decide) (fun c130 => ?_) (fun c130 => ?_)
    · -- taken
      refine r_iload (pc := 156) hC dL_law_156 rfl ?_
      refine r_iconst (pc := 158) (nI 2) hC dL_law_158 (by decide) ?_
      first | refine rn_icmp_ne (pc := 159) (tgt := 179) hC dL_law_159 (by decide) (by omega) (by omega) (fun c159 => ?_) (fun c159 => ?_) | refine ri_icmp_ne (pc := 159) (tgt := 179) hC dL_law_159 (by decide) (fun c159 => ?_) (fun c159 => ?_)
      · -- taken
        first | refine r_aload_n (pc := 179) hC dL_law_179 rfl ?_ | refine r_aload_nN (pc := 179) hC dL_law_179 rfl ?_
        refine r_iconst (pc := 180) (nI 1) hC dL_law_180 (by decide) ?_
        refine r_iald (pc := 181) hC dL_law_181 hA.kc (by rw [hA.nc]; decide) (by rw [hA.nc]; decide) hA.c1 ?_
        first | refine rn_if_le (pc := 182) (tgt := 202) hC dL_law_182 (by decide) (by omega) (fun c182 => ?_) (fun c182 => ?_) | refine ri_if_le (pc := 182) (tgt := 202) hC dL_law_182 (by decide) (fun c182 => ?_) (fun c182 => ?_)
        · -- taken
          refine at_lv (lv' := [(0, .ref b), (1, .ref x), (2, .ref c), (3, .ref z), (4, .ref d), (6, .int (nI (bN w))), (7, .int (nI t)), (9, .int (nI e))]) ⟨rfl, rfl, rfl, rfl, rfl, rfl, rfl, rfl, trivial⟩ ?_
          refine at_widen (k' := k + 6) (n' := s + 840) (by omega) (by omega) ?_
          exact nx σ w _ _ hZ (hJ.le (Nat.le_succ t)) hB hP (by omega) he
        · -- not
          first | refine r_aload_n (pc := 185) hC dL_law_185 rfl ?_ | refine r_aload_nN (pc := 185) hC dL_law_185 rfl ?_
          refine r_iload (pc := 186) hC dL_law_186 rfl ?_
          refine r_iload (pc := 188) hC dL_law_188 rfl ?_
          refine r_iconst (pc := 190) (nI 3) hC dL_law_190 (by decide) ?_
          refine r_ishr (pc := 191) hC dL_law_191 ?_
          first | refine r_aload_n (pc := 192) hC dL_law_192 rfl ?_ | refine r_aload_nN (pc := 192) hC dL_law_192 rfl ?_
          refine r_iconst (pc := 193) (nI 1) hC dL_law_193 (by decide) ?_
          refine r_iald (pc := 194) hC dL_law_194 hA.kc (by rw [hA.nc]; decide) (by rw [hA.nc]; decide) hA.c1 ?_
          refine q_callS (pc := 195) (k' := k) (n' := s) hC (ct_below hC.fl (m := nd σ) (by omega) (by omega)) ks_L_15 rfl rfl (Nat.le_of_ble_eq_true rfl) ⟨by decide, by decide⟩ (show k + 0 ≤ k by omega) (show k ≤ 600104 by omega) (show s + 0 ≤ s by omega) (show s ≤ 7301314 by omega) dL_law_195 (fun _ _ h => h) (fun v195 S4 h195 => ?_)
          obtain ⟨⟨r, hr, rfl⟩, rfl⟩ := h195
          refine q_callV (pc := 198) (k' := k + 5) (n' := s + 824) hC (cn_request hC.fl hR hJ hn5 he hr) kv_L_65 cls5 hR.kx rfl rfl (Nat.le_of_ble_eq_true rfl) ⟨by decide, by decide⟩ (show k + 5 ≤ k + 5 by omega) (show k + 5 ≤ 600104 by omega) (show s + 824 ≤ s + 824 by omega) (show s + 824 ≤ 7301314 by omega) dL_law_198 (fun _ _ h => h) (fun v198 S5 h198 => ?_)
          obtain ⟨rfl, hCO⟩ := h198
          have hZ := hZ.co hCO (H28.rqS (by omega))
          refine r_pop (pc := 201) hC dL_law_201 rfl ?_
          refine at_lv (lv' := [(0, .ref b), (1, .ref x), (2, .ref c), (3, .ref z), (4, .ref d), (6, .int (nI (bN w))), (7, .int (nI t)), (9, .int (nI e))]) ⟨rfl, rfl, rfl, rfl, rfl, rfl, rfl, rfl, trivial⟩ ?_
          refine at_widen (k' := k + 6) (n' := s + 840) (by omega) (by omega) ?_
          exact nx _ w _ _ hZ (hJ.rqS he hr) ((H28.rqS (by omega)).bd hB) (fun q => (hP q).rqS hJ he hr) (by rw [rqS_mi]; omega) (by rw [(H28.rqS (σ := σ) (b := e) (d := r) (by omega)).2.2.1]; exact he)
      · -- not
        first | refine r_aload_n (pc := 162) hC dL_law_162 rfl ?_ | refine r_aload_nN (pc := 162) hC dL_law_162 rfl ?_
        refine r_iconst (pc := 163) (nI 0) hC dL_law_163 (by decide) ?_
        refine q_callV (pc := 164) (k' := k) (n' := s) hC (cn_alarm false hC.fl hR hJ hn5) kv_L_57 cls5 hR.kx rfl rfl (Nat.le_of_ble_eq_true rfl) ⟨by decide, by decide⟩ (show k + 0 ≤ k by omega) (show k ≤ 600104 by omega) (show s + 0 ≤ s by omega) (show s ≤ 7301314 by omega) dL_law_164 (fun _ _ h => h) (fun v164 S5 h164 => ?_)
        obtain ⟨⟨q9, rfl⟩, hCO⟩ := h164
        have hZ := hZ.co hCO H28.al'
        have hJ2 := hJ.al' (v := bN false) (by decide)
        obtain ⟨⟨Y2, hR2⟩, hA2⟩ := id hZ
        refine r_pop (pc := 167) hC dL_law_167 rfl ?_
        first | refine r_aload_n (pc := 168) hC dL_law_168 rfl ?_ | refine r_aload_nN (pc := 168) hC dL_law_168 rfl ?_
        refine r_iload (pc := 169) hC dL_law_169 rfl ?_
        refine r_iconst (pc := 171) (nI 0) hC dL_law_171 (by decide) ?_
        refine q_callV (pc := 172) (k' := k + 1) (n' := s + 6) hC (cn_block hC.fl hR2 hJ2 hn5 (b := e) he) kv_L_61 cls5 hR2.kx rfl rfl (Nat.le_of_ble_eq_true rfl) ⟨by decide, by decide⟩ (show k + 1 ≤ k + 1 by omega) (show k + 1 ≤ 600104 by omega) (show s + 6 ≤ s + 6 by omega) (show s + 6 ≤ 7301314 by omega) dL_law_172 (fun _ _ h => h) (fun v172 S6 h172 => ?_)
        obtain ⟨⟨q8, rfl⟩, hCO⟩ := h172
        have hZ := hZ.co hCO H28.bl
        refine r_pop (pc := 175) hC dL_law_175 rfl ?_
        refine r_goto (pc := 176) (tgt := 202) hC dL_law_176 (by decide) ?_
        refine at_lv (lv' := [(0, .ref b), (1, .ref x), (2, .ref c), (3, .ref z), (4, .ref d), (6, .int (nI (bN w))), (7, .int (nI t)), (9, .int (nI e))]) ⟨rfl, rfl, rfl, rfl, rfl, rfl, rfl, rfl, trivial⟩ ?_
        refine at_widen (k' := k + 6) (n' := s + 840) (by omega) (by omega) ?_
        exact nx _ w _ _ hZ ((hJ2.bl (b := e) (v := 0) (by decide)).le (Nat.le_succ t)) hB (fun q => (hP q).al'.bl) (by show mi σ ≤ _; omega) he
    · -- not
      refine r_iload (pc := 133) hC dL_law_133 rfl ?_
      refine r_iconst (pc := 135) (nI 4) hC dL_law_135 (by decide) ?_
      refine r_ishr (pc := 136) hC dL_law_136 ?_
      refine r_iconst (pc := 137) (nI 3) hC dL_law_137 (by decide) ?_
      refine q_callS (pc := 138) (k' := k) (n' := s) hC (ct_below hC.fl (m := 3) (by omega) (by omega)) ks_L_15 rfl rfl (Nat.le_of_ble_eq_true rfl) ⟨by decide, by decide⟩ (show k + 0 ≤ k by omega) (show k ≤ 600104 by omega) (show s + 0 ≤ s by omega) (show s ≤ 7301314 by omega) dL_law_138 (fun _ _ h => h) (fun v138 S4 h138 => ?_)
      obtain ⟨⟨r, hr, rfl⟩, rfl⟩ := h138
      first | refine rb_if_ne (pc := 141) (tgt := 156) hC dL_law_141 (by decide) (fun c141 => ?_) (fun c141 => ?_) | refine rn_if_ne (pc := 141) (tgt := 156) hC dL_law_141 (by decide) (by omega) (fun c141 => ?_) (fun c141 => ?_) | refine ri_if_ne (pc := 141) (tgt := 156) hC dL_law_141 (by decide) (fun c141 => ?_) (fun c141 => ?_)
      · -- taken
        refine r_iload (pc := 156) hC dL_law_156 rfl ?_
        refine r_iconst (pc := 158) (nI 2) hC dL_law_158 (by decide) ?_
        first | refine rn_icmp_ne (pc := 159) (tgt := 179) hC dL_law_159 (by decide) (by omega) (by omega) (fun c159 => ?_) (fun c159 => ?_) | refine ri_icmp_ne (pc := 159) (tgt := 179) hC dL_law_159 (by decide) (fun c159 => ?_) (fun c159 => ?_)
        · -- taken
          first | refine r_aload_n (pc := 179) hC dL_law_179 rfl ?_ | refine r_aload_nN (pc := 179) hC dL_law_179 rfl ?_
          refine r_iconst (pc := 180) (nI 1) hC dL_law_180 (by decide) ?_
          refine r_iald (pc := 181) hC dL_law_181 hA.kc (by rw [hA.nc]; decide) (by rw [hA.nc]; decide) hA.c1 ?_
          first | refine rn_if_le (pc := 182) (tgt := 202) hC dL_law_182 (by decide) (by omega) (fun c182 => ?_) (fun c182 => ?_) | refine ri_if_le (pc := 182) (tgt := 202) hC dL_law_182 (by decide) (fun c182 => ?_) (fun c182 => ?_)
          · -- taken
            refine at_lv (lv' := [(0, .ref b), (1, .ref x), (2, .ref c), (3, .ref z), (4, .ref d), (6, .int (nI (bN w))), (7, .int (nI t)), (9, .int (nI e))]) ⟨rfl, rfl, rfl, rfl, rfl, rfl, rfl, rfl, trivial⟩ ?_
            refine at_widen (k' := k + 6) (n' := s + 840) (by omega) (by omega) ?_
            exact nx σ w _ _ hZ (hJ.le (Nat.le_succ t)) hB hP (by omega) he
          · -- not
            first | refine r_aload_n (pc := 185) hC dL_law_185 rfl ?_ | refine r_aload_nN (pc := 185) hC dL_law_185 rfl ?_
            refine r_iload (pc := 186) hC dL_law_186 rfl ?_
            refine r_iload (pc := 188) hC dL_law_188 rfl ?_
            refine r_iconst (pc := 190) (nI 3) hC dL_law_190 (by decide) ?_
            refine r_ishr (pc := 191) hC dL_law_191 ?_
            first | refine r_aload_n (pc := 192) hC dL_law_192 rfl ?_ | refine r_aload_nN (pc := 192) hC dL_law_192 rfl ?_
            refine r_iconst (pc := 193) (nI 1) hC dL_law_193 (by decide) ?_
            refine r_iald (pc := 194) hC dL_law_194 hA.kc (by rw [hA.nc]; decide) (by rw [hA.nc]; decide) hA.c1 ?_
            refine q_callS (pc := 195) (k' := k) (n' := s) hC (ct_below hC.fl (m := nd σ) (by omega) (by omega)) ks_L_15 rfl rfl (Nat.le_of_ble_eq_true rfl) ⟨by decide, by decide⟩ (show k + 0 ≤ k by omega) (show k ≤ 600104 by omega) (show s + 0 ≤ s by omega) (show s ≤ 7301314 by omega) dL_law_195 (fun _ _ h => h) (fun v195 S4 h195 => ?_)
            obtain ⟨⟨r, hr, rfl⟩, rfl⟩ := h195
            refine q_callV (pc := 198) (k' := k + 5) (n' := s + 824) hC (cn_request hC.fl hR hJ hn5 he hr) kv_L_65 cls5 hR.kx rfl rfl (Nat.le_of_ble_eq_true rfl) ⟨by decide, by decide⟩ (show k + 5 ≤ k + 5 by omega) (show k + 5 ≤ 600104 by omega) (show s + 824 ≤ s + 824 by omega) (show s + 824 ≤ 7301314 by omega) dL_law_198 (fun _ _ h => h) (fun v198 S5 h198 => ?_)
            obtain ⟨rfl, hCO⟩ := h198
            have hZ := hZ.co hCO (H28.rqS (by omega))
            refine r_pop (pc := 201) hC dL_law_201 rfl ?_
            refine at_lv (lv' := [(0, .ref b), (1, .ref x), (2, .ref c), (3, .ref z), (4, .ref d), (6, .int (nI (bN w))), (7, .int (nI t)), (9, .int (nI e))]) ⟨rfl, rfl, rfl, rfl, rfl, rfl, rfl, rfl, trivial⟩ ?_
            refine at_widen (k' := k + 6) (n' := s + 840) (by omega) (by omega) ?_
            exact nx _ w _ _ hZ (hJ.rqS he hr) ((H28.rqS (by omega)).bd hB) (fun q => (hP q).rqS hJ he hr) (by rw [rqS_mi]; omega) (by rw [(H28.rqS (σ := σ) (b := e) (d := r) (by omega)).2.2.1]; exact he)
        · -- not
          first | refine r_aload_n (pc := 162) hC dL_law_162 rfl ?_ | refine r_aload_nN (pc := 162) hC dL_law_162 rfl ?_
          refine r_iconst (pc := 163) (nI 0) hC dL_law_163 (by decide) ?_
          refine q_callV (pc := 164) (k' := k) (n' := s) hC (cn_alarm false hC.fl hR hJ hn5) kv_L_57 cls5 hR.kx rfl rfl (Nat.le_of_ble_eq_true rfl) ⟨by decide, by decide⟩ (show k + 0 ≤ k by omega) (show k ≤ 600104 by omega) (show s + 0 ≤ s by omega) (show s ≤ 7301314 by omega) dL_law_164 (fun _ _ h => h) (fun v164 S5 h164 => ?_)
          obtain ⟨⟨q9, rfl⟩, hCO⟩ := h164
          have hZ := hZ.co hCO H28.al'
          have hJ2 := hJ.al' (v := bN false) (by decide)
          obtain ⟨⟨Y2, hR2⟩, hA2⟩ := id hZ
          refine r_pop (pc := 167) hC dL_law_167 rfl ?_
          first | refine r_aload_n (pc := 168) hC dL_law_168 rfl ?_ | refine r_aload_nN (pc := 168) hC dL_law_168 rfl ?_
          refine r_iload (pc := 169) hC dL_law_169 rfl ?_
          refine r_iconst (pc := 171) (nI 0) hC dL_law_171 (by decide) ?_
          refine q_callV (pc := 172) (k' := k + 1) (n' := s + 6) hC (cn_block hC.fl hR2 hJ2 hn5 (b := e) he) kv_L_61 cls5 hR2.kx rfl rfl (Nat.le_of_ble_eq_true rfl) ⟨by decide, by decide⟩ (show k + 1 ≤ k + 1 by omega) (show k + 1 ≤ 600104 by omega) (show s + 6 ≤ s + 6 by omega) (show s + 6 ≤ 7301314 by omega) dL_law_172 (fun _ _ h => h) (fun v172 S6 h172 => ?_)
          obtain ⟨⟨q8, rfl⟩, hCO⟩ := h172
          have hZ := hZ.co hCO H28.bl
          refine r_pop (pc := 175) hC dL_law_175 rfl ?_
          refine r_goto (pc := 176) (tgt := 202) hC dL_law_176 (by decide) ?_
          refine at_lv (lv' := [(0, .ref b), (1, .ref x), (2, .ref c), (3, .ref z), (4, .ref d), (6, .int (nI (bN w))), (7, .int (nI t)), (9, .int (nI e))]) ⟨rfl, rfl, rfl, rfl, rfl, rfl, rfl, rfl, trivial⟩ ?_
          refine at_widen (k' := k + 6) (n' := s + 840) (by omega) (by omega) ?_
          exact nx _ w _ _ hZ ((hJ2.bl (b := e) (v := 0) (by decide)).le (Nat.le_succ t)) hB (fun q => (hP q).al'.bl) (by show mi σ ≤ _; omega) he
      · -- not
        first | refine r_aload_n (pc := 144) hC dL_law_144 rfl ?_ | refine r_aload_nN (pc := 144) hC dL_law_144 rfl ?_
        refine r_iconst (pc := 145) (nI 1) hC dL_law_145 (by decide) ?_
        refine q_callV (pc := 146) (k' := k) (n' := s) hC (cn_alarm true hC.fl hR hJ hn5) kv_L_57 cls5 hR.kx rfl rfl (Nat.le_of_ble_eq_true rfl) ⟨by decide, by decide⟩ (show k + 0 ≤ k by omega) (show k ≤ 600104 by omega) (show s + 0 ≤ s by omega) (show s ≤ 7301314 by omega) dL_law_146 (fun _ _ h => h) (fun v146 S5 h146 => ?_)
        obtain ⟨⟨q9, rfl⟩, hCO⟩ := h146
        have hZ := hZ.co hCO H28.al'
        refine r_pop (pc := 149) hC dL_law_149 rfl ?_
        refine r_iconst (pc := 150) (nI 1) hC dL_law_150 (by decide) ?_
        refine r_istore (pc := 151) hC dL_law_151 (by decide) ?_
        refine r_goto (pc := 153) (tgt := 202) hC dL_law_153 (by decide) ?_
        refine at_lv (lv' := [(0, .ref b), (1, .ref x), (2, .ref c), (3, .ref z), (4, .ref d), (6, .int (nI (bN true))), (7, .int (nI t)), (9, .int (nI e))]) ⟨rfl, rfl, rfl, rfl, rfl, rfl, rfl, rfl, trivial⟩ ?_
        refine at_widen (k' := k + 6) (n' := s + 840) (by omega) (by omega) ?_
        exact nx _ true _ _ hZ ((hJ.al' (v := bN true) (by decide)).le (Nat.le_succ t)) hB (fun q => by cases q) (by show mi σ ≤ _; omega) he
  · -- not
    first | refine r_aload_n (pc := 108) hC dL_law_108 rfl ?_ | refine r_aload_nN (pc := 108) hC dL_law_108 rfl ?_
    refine r_iconst (pc := 109) (nI 1) hC dL_law_109 (by decide) ?_
    refine r_iload (pc := 110) hC dL_law_110 rfl ?_
    refine r_iconst (pc := 112) (nI 4) hC dL_law_112 (by decide) ?_
    refine r_ishr (pc := 113) hC dL_law_113 ?_
    refine r_bipush (pc := 114) (nI 40) hC dL_law_114 (by decide) ?_
    refine q_callS (pc := 116) (k' := k) (n' := s) hC (ct_below hC.fl (m := 40) (by omega) (by omega)) ks_L_15 rfl rfl (Nat.le_of_ble_eq_true rfl) ⟨by decide, by decide⟩ (show k + 0 ≤ k by omega) (show k ≤ 600104 by omega) (show s + 0 ≤ s by omega) (show s ≤ 7301314 by omega) dL_law_116 (fun _ _ h => h) (fun v116 S4 h116 => ?_)
    obtain ⟨⟨r, hr, rfl⟩, rfl⟩ := h116
    first | refine rn_iadd (pc := 119) hC dL_law_119 ?_ | refine r_iadd (pc := 119) hC dL_law_119 ?_
    refine q_callV (pc := 120) (k' := k + 2) (n' := s + 12) hC (cn_tick hC.fl hR hJ hn5 (m := 1 + r) (by omega) (by omega) (by omega)) kv_L_54 cls5 hR.kx rfl rfl (Nat.le_of_ble_eq_true rfl) ⟨by decide, by decide⟩ (show k + 2 ≤ k + 2 by omega) (show k + 2 ≤ 600104 by omega) (show s + 12 ≤ s + 12 by omega) (show s + 12 ≤ 7301314 by omega) dL_law_120 (fun _ _ h => h) (fun v120 S5 h120 => ?_)
    obtain ⟨rfl, hCO⟩ := h120
    have hZ := hZ.co hCO H28.mi'
    refine r_pop (pc := 123) hC dL_law_123 rfl ?_
    refine r_goto (pc := 124) (tgt := 202) hC dL_law_124 (by decide) ?_
    refine at_lv (lv' := [(0, .ref b), (1, .ref x), (2, .ref c), (3, .ref z), (4, .ref d), (6, .int (nI (bN w))), (7, .int (nI t)), (9, .int (nI e))]) ⟨rfl, rfl, rfl, rfl, rfl, rfl, rfl, rfl, trivial⟩ ?_
    refine at_widen (k' := k + 6) (n' := s + 840) (by omega) (by omega) ?_
    exact nx _ w _ _ hZ ((hJ.mi' (by omega) (by omega)).le (Nat.le_succ t)) hB (fun q => (hP q).mi') (by show mi (up σ 1 0 (mi σ + (1 + r))) ≤ _; rw [show mi (up σ 1 0 (mi σ + (1 + r))) = mi σ + (1 + r) from up_eq _ _ _ _]; omega) he
set_option maxHeartbeats 4000000 in
set_option maxRecDepth 100000 in
theorem law_loop28 {Γ : Cx} {G : Ids} {V : Vx} {b L x c z d : Nat} {xs : Nat → Int32} (hC : Ctx Γ G V code RL room_1 15) (hX : ScX Γ V b L xs) (hL : L ≤ 260) (hE : ∀ (k s : Nat) (S : Ps) (lv : List (Nat × Value)), k ≤ 600104 → s ≤ 7301314 → At Γ G V k s S lv 521 []) : ∀ (r t k s : Nat) (w : Bool) (σ : Sg) (S : Ps), t + r = 40 → k + 300 * r ≤ 600104 → s + 3000 * r ≤ 7301314 → ZW G S x c z d σ → Inv σ t → Bd28 σ → (w = false → P28 σ) → mi σ ≤ 40 * t → At Γ G V k s S [(0, .ref b), (1, .ref x), (2, .ref c), (3, .ref z), (4, .ref d), (6, .int (nI (bN w))), (7, .int (nI t))] 52 [] := by
  intro r
  induction r with
  | zero =>
    intro t k s w σ S ht hk hs hZ hJ hB hP hm
    refine r_iload (pc := 52) hC dL_law_52 rfl ?_
    refine r_bipush (pc := 54) (nI 40) hC dL_law_54 (by decide) ?_
    first | refine rn_icmp_ge (pc := 56) (tgt := 521) hC dL_law_56 (by decide) (by omega) (by omega) (fun c56 => ?_) (fun c56 => ?_) | refine ri_icmp_ge (pc := 56) (tgt := 521) hC dL_law_56 (by decide) (fun c56 => ?_) (fun c56 => ?_)
    · -- taken
      exact hE _ _ _ _ (by omega) (by omega)
    · -- not
      exfalso; omega
  | succ r ih =>
    intro t k s w σ S ht hk hs hZ hJ hB hP hm
    refine r_iload (pc := 52) hC dL_law_52 rfl ?_
    refine r_bipush (pc := 54) (nI 40) hC dL_law_54 (by decide) ?_
    first | refine rn_icmp_ge (pc := 56) (tgt := 521) hC dL_law_56 (by decide) (by omega) (by omega) (fun c56 => ?_) (fun c56 => ?_) | refine ri_icmp_ge (pc := 56) (tgt := 521) hC dL_law_56 (by decide) (fun c56 => ?_) (fun c56 => ?_)
    · -- taken
      exfalso; omega
    · -- not
      refine sg_act hC hX hL hJ hB (by omega) hm hP (by omega) (by omega) hZ (fun σ9 w9 e S1 hZ1 hJ1 hB1 hP1 hm1 he1 => ?_)
      refine sg_ins hC hJ1 (by omega) hB1 he1 (by omega) hP1 (by omega) (by omega) hZ1 (fun S2 hZ2 => ?_)
      refine sg_lock hC hJ1 (by omega) hB1 he1 (by omega) hP1 (by omega) (by omega) hZ2 (fun S3 hZ3 => ?_)
      refine sg_sum hC hJ1 (by omega) hB1 he1 (by omega) (by omega) (by omega) hZ3 (fun S4 hZ4 => ?_)
      exact ih (t + 1) _ _ w9 σ9 S4 (by omega) (by omega) (by omega) hZ4 hJ1 hB1 hP1 hm1
