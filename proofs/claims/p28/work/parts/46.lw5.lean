/-! HOW THE LAW BUILDS ITS HOUSE: one zone, one door, one badge. -/
abbrev rm_L_build : Room := { frames := 10, cells := 200, slots := 30000, locals := 240 }
set_option maxHeartbeats 4000000 in
set_option maxRecDepth 100000 in
theorem bz_step {Γ : Cx} {G : Ids} {V : Vx} {b L x c z d g i k s : Nat} {xs : Nat → Int32} {C0 C1 C2 : Int32} {σ : Sg} {S : Ps} (hC : Ctx Γ G V cL_build RL rm_L_build 11) (hX : ScX Γ V b L xs) (hL : L ≤ 260) (hD : DF c z d g) (hB : BB G S x c z d g C0 C1 C2 σ) (hi : nz σ = i) (h1 : 1 ≤ i) (h2 : i < 6) (hk : k + 6 ≤ 200) (hs : s + 834 ≤ 30000) (nx : ∀ (S9 : Ps) (σ9 : Sg), BB G S9 x c z d g C0 C1 C2 σ9 → nz σ9 = i + 1 → nd σ9 = nd σ → nb σ9 = nb σ → At Γ G V (k + 6) (s + 834) S9 [(0, .ref x), (1, .ref b), (2, .int (nI 0)), (3, .ref c), (4, .ref z), (5, .ref d), (6, .ref g), (7, .int (nI (i + 1)))] 18 []) : At Γ G V k s S [(0, .ref x), (1, .ref b), (2, .int (nI 0)), (3, .ref c), (4, .ref z), (5, .ref d), (6, .ref g), (7, .int (nI i))] 26 [] := by
  have hi2 : σ 0 0 = i := hi
  first | refine r_aload_n (pc := 26) hC dL_build_26 rfl ?_ | refine r_aload_nN (pc := 26) hC dL_build_26 rfl ?_
  refine r_iload_n (pc := 27) hC dL_build_27 rfl ?_
  refine r_iconst (pc := 28) (nI 1) hC dL_build_28 (by decide) ?_
  first | refine rn_iadd (pc := 29) hC dL_build_29 ?_ | refine r_iadd (pc := 29) hC dL_build_29 ?_
  refine r_iload (pc := 30) hC dL_build_30 rfl ?_
  refine r_iconst (pc := 32) (nI 3) hC dL_build_32 (by decide) ?_
  refine rn_irem (pc := 33) hC dL_build_33 (by omega) (by omega) (by omega) ?_
  first | refine rn_iadd (pc := 34) hC dL_build_34 ?_ | refine r_iadd (pc := 34) hC dL_build_34 ?_
  refine q_callSX (pc := 35) (k' := k) (n' := s) hC hX (ct_cell hC.fl hL (by omega)) ks_L_9 rfl rfl (Nat.le_of_ble_eq_true rfl) ⟨by decide, by decide⟩ (show k + 0 ≤ k by omega) (show k ≤ 200 by omega) (show s + 0 ≤ s by omega) (show s ≤ 30000 by omega) dL_build_35 (fun _ _ h => h) (fun v35 S9 h35 => ?_)
  obtain ⟨⟨y, rfl⟩, rfl⟩ := h35
  refine r_iload (pc := 38) hC dL_build_38 rfl ?_
  refine r_iconst (pc := 40) (nI 3) hC dL_build_40 (by decide) ?_
  refine rn_idiv (pc := 41) hC dL_build_41 (by omega) (by omega) (by omega) ?_
  refine r_bipush (pc := 42) (nI 11) hC dL_build_42 (by decide) ?_
  first | refine rn_imul (pc := 44) hC dL_build_44 ?_ | refine r_imul (pc := 44) hC dL_build_44 ?_
  refine r_ishr (pc := 45) hC dL_build_45 ?_
  generalize (y >>> _) = y8
  refine r_istore (pc := 46) hC dL_build_46 (by decide) ?_
  have j77 : ∀ v : Nat, 1 ≤ v → v ≤ 4 → At Γ G V k s S [(0, .ref x), (1, .ref b), (2, .int (nI 0)), (3, .ref c), (4, .ref z), (5, .ref d), (6, .ref g), (7, .int (nI i)), (8, .int y8)] 77 [.int (nI v), .int (nI (3 * i)), .ref z] := fun v hv1 hv2 => by
    refine r_iast (pc := 77) hC dL_build_77 hB.kz (by rw [hB.mz]; omega) (by rw [hB.mz]; decide) ?_
    obtain ⟨S1, hS1⟩ : ∃ S1, S1 = sI S z (3 * i) (nI v) := ⟨_, rfl⟩
    rw [← hS1]
    have hB1 : BB G S1 x c z d g C0 C1 C2 σ := by rw [hS1]; exact hB.sz hD (by omega)
    have f1 : pI S1 z (3 * i) = nI v := by rw [hS1]; exact pI_eq
    have j113 : ∀ u : Nat, u ≤ 1439 → At Γ G V k s S1 [(0, .ref x), (1, .ref b), (2, .int (nI 0)), (3, .ref c), (4, .ref z), (5, .ref d), (6, .ref g), (7, .int (nI i)), (8, .int y8)] 113 [.int (nI u), .int (nI (3 * i + 1)), .ref z] := fun u hu => by
      refine r_iast (pc := 113) hC dL_build_113 hB1.kz (by rw [hB1.mz]; omega) (by rw [hB1.mz]; decide) ?_
      obtain ⟨S2, hS2⟩ : ∃ S2, S2 = sI S1 z (3 * i + 1) (nI u) := ⟨_, rfl⟩
      rw [← hS2]
      have hB2 : BB G S2 x c z d g C0 C1 C2 σ := by rw [hS2]; exact hB1.sz hD (by omega)
      have f2 : pI S2 z (3 * i + 1) = nI u := by rw [hS2]; exact pI_eq
      have g2a : pI S2 z (3 * i) = nI v := by rw [hS2, pI_ne (Or.inr (by omega))]; exact f1
      have j168 : ∀ q : Nat, q ≤ 1440 → u ≠ q → At Γ G V k s S2 [(0, .ref x), (1, .ref b), (2, .int (nI 0)), (3, .ref c), (4, .ref z), (5, .ref d), (6, .ref g), (7, .int (nI i)), (8, .int y8)] 168 [.int (nI q), .int (nI (3 * i + 2)), .ref z] := fun q hq hne => by
        refine r_iast (pc := 168) hC dL_build_168 hB2.kz (by rw [hB2.mz]; omega) (by rw [hB2.mz]; decide) ?_
        obtain ⟨S3, hS3⟩ : ∃ S3, S3 = sI S2 z (3 * i + 2) (nI q) := ⟨_, rfl⟩
        rw [← hS3]
        have hB3 : BB G S3 x c z d g C0 C1 C2 σ := by rw [hS3]; exact hB2.sz hD (by omega)
        have f3 : pI S3 z (3 * i + 2) = nI q := by rw [hS3]; exact pI_eq
        have g3a : pI S3 z (3 * i) = nI v := by rw [hS3, pI_ne (Or.inr (by omega))]; exact g2a
        have g3b : pI S3 z (3 * i + 1) = nI u := by rw [hS3, pI_ne (Or.inr (by omega))]; exact f2
        obtain ⟨Y3, hR3⟩ := hB3.1
        first | refine r_aload_n (pc := 169) hC dL_build_169 rfl ?_ | refine r_aload_nN (pc := 169) hC dL_build_169 rfl ?_
        first | refine r_aload (pc := 170) hC dL_build_170 rfl ?_ | refine r_aloadN (pc := 170) hC dL_build_170 rfl ?_
        refine r_iconst (pc := 172) (nI 3) hC dL_build_172 (by decide) ?_
        refine r_iload (pc := 173) hC dL_build_173 rfl ?_
        first | refine rn_imul (pc := 175) hC dL_build_175 ?_ | refine r_imul (pc := 175) hC dL_build_175 ?_
        refine r_iald (pc := 176) hC dL_build_176 hB3.kz (by rw [hB3.mz]; omega) (by rw [hB3.mz]; decide) g3a ?_
        first | refine r_aload (pc := 177) hC dL_build_177 rfl ?_ | refine r_aloadN (pc := 177) hC dL_build_177 rfl ?_
        refine r_iconst (pc := 179) (nI 3) hC dL_build_179 (by decide) ?_
        refine r_iload (pc := 180) hC dL_build_180 rfl ?_
        first | refine rn_imul (pc := 182) hC dL_build_182 ?_ | refine r_imul (pc := 182) hC dL_build_182 ?_
        refine r_iconst (pc := 183) (nI 1) hC dL_build_183 (by decide) ?_
        first | refine rn_iadd (pc := 184) hC dL_build_184 ?_ | refine r_iadd (pc := 184) hC dL_build_184 ?_
        refine r_iald (pc := 185) hC dL_build_185 hB3.kz (by rw [hB3.mz]; omega) (by rw [hB3.mz]; decide) g3b ?_
        first | refine r_aload (pc := 186) hC dL_build_186 rfl ?_ | refine r_aloadN (pc := 186) hC dL_build_186 rfl ?_
        refine r_iconst (pc := 188) (nI 3) hC dL_build_188 (by decide) ?_
        refine r_iload (pc := 189) hC dL_build_189 rfl ?_
        first | refine rn_imul (pc := 191) hC dL_build_191 ?_ | refine r_imul (pc := 191) hC dL_build_191 ?_
        refine r_iconst (pc := 192) (nI 2) hC dL_build_192 (by decide) ?_
        first | refine rn_iadd (pc := 193) hC dL_build_193 ?_ | refine r_iadd (pc := 193) hC dL_build_193 ?_
        refine r_iald (pc := 194) hC dL_build_194 hB3.kz (by rw [hB3.mz]; omega) (by rw [hB3.mz]; decide) f3 ?_
        refine q_callV (pc := 195) (k' := k + 6) (n' := s + 834) hC (cn_addZone hC.fl hR3 hB3.J (by decide) (p := v) (q := u) (r := q) (by omega) ⟨hv1, by omega⟩ (by omega) (by omega) hne) kv_L_19 cls5 hR3.kx rfl rfl (Nat.le_of_ble_eq_true rfl) ⟨by decide, by decide⟩ (show k + 6 ≤ k + 6 by omega) (show k + 6 ≤ 200 by omega) (show s + 834 ≤ s + 834 by omega) (show s + 834 ≤ 30000 by omega) dL_build_195 (fun _ _ h => h) (fun v195 S4 h195 => ?_)
        obtain ⟨rfl, hCO⟩ := h195
        have hB4 := hB3.oZ (p := v) (q := u) (r := q) (by rw [hi2]; exact g3a) (hB3.J.iadZ (by omega) ⟨hv1, by omega⟩ (by omega) (by omega) hne) hCO
        rw [hi]
        refine r_iload (pc := 198) hC dL_build_198 rfl ?_
        refine r_icmp_eq (pc := 200) (tgt := 205) hC dL_build_200 (by decide) (fun _ => ?_) (fun q => absurd rfl q)
        first | refine rn_iinc (pc := 205) (q := 1) hC dL_build_205 rfl (by decide) ?_ | refine r_iinc (pc := 205) _ hC dL_build_205 rfl rfl (by decide) ?_
        refine r_goto (pc := 208) (tgt := 18) hC dL_build_208 (by decide) ?_
        refine at_lv (lv' := [(0, .ref x), (1, .ref b), (2, .int (nI 0)), (3, .ref c), (4, .ref z), (5, .ref d), (6, .ref g), (7, .int (nI (i + 1)))]) ⟨rfl, rfl, rfl, rfl, rfl, rfl, rfl, rfl, trivial⟩ ?_
        exact nx _ _ hB4 (by rw [adZ_f.1, hi]) adZ_f.2.1 adZ_f.2.2.1
      first | refine r_aload (pc := 114) hC dL_build_114 rfl ?_ | refine r_aloadN (pc := 114) hC dL_build_114 rfl ?_
      refine r_iconst (pc := 116) (nI 3) hC dL_build_116 (by decide) ?_
      refine r_iload (pc := 117) hC dL_build_117 rfl ?_
      first | refine rn_imul (pc := 119) hC dL_build_119 ?_ | refine r_imul (pc := 119) hC dL_build_119 ?_
      refine r_iconst (pc := 120) (nI 2) hC dL_build_120 (by decide) ?_
      first | refine rn_iadd (pc := 121) hC dL_build_121 ?_ | refine r_iadd (pc := 121) hC dL_build_121 ?_
      refine r_iload (pc := 122) hC dL_build_122 rfl ?_
      refine r_iconst (pc := 124) (nI 3) hC dL_build_124 (by decide) ?_
      refine r_ishr (pc := 125) hC dL_build_125 ?_
      refine r_iconst (pc := 126) (nI 2) hC dL_build_126 (by decide) ?_
      refine q_callS (pc := 127) (k' := k) (n' := s) hC (ct_below hC.fl (m := 2) (by omega) (by omega)) ks_L_15 rfl rfl (Nat.le_of_ble_eq_true rfl) ⟨by decide, by decide⟩ (show k + 0 ≤ k by omega) (show k ≤ 200 by omega) (show s + 0 ≤ s by omega) (show s ≤ 30000 by omega) dL_build_127 (fun _ _ h => h) (fun v127 S9 h127 => ?_)
      obtain ⟨⟨r, hr, rfl⟩, rfl⟩ := h127
      first | refine rb_if_ne (pc := 130) (tgt := 139) hC dL_build_130 (by decide) (fun c130 => ?_) (fun c130 => ?_) | refine rn_if_ne (pc := 130) (tgt := 139) hC dL_build_130 (by decide) (by omega) (fun c130 => ?_) (fun c130 => ?_) | refine ri_if_ne (pc := 130) (tgt := 139) hC dL_build_130 (by decide) (fun c130 => ?_) (fun c130 => ?_)
      · -- taken
        first | refine r_aload (pc := 139) hC dL_build_139 rfl ?_ | refine r_aloadN (pc := 139) hC dL_build_139 rfl ?_
        refine r_iconst (pc := 141) (nI 3) hC dL_build_141 (by decide) ?_
        refine r_iload (pc := 142) hC dL_build_142 rfl ?_
        first | refine rn_imul (pc := 144) hC dL_build_144 ?_ | refine r_imul (pc := 144) hC dL_build_144 ?_
        refine r_iconst (pc := 145) (nI 1) hC dL_build_145 (by decide) ?_
        first | refine rn_iadd (pc := 146) hC dL_build_146 ?_ | refine r_iadd (pc := 146) hC dL_build_146 ?_
        refine r_iald (pc := 147) hC dL_build_147 hB2.kz (by rw [hB2.mz]; omega) (by rw [hB2.mz]; decide) f2 ?_
        refine r_bipush (pc := 148) (nI 60) hC dL_build_148 (by decide) ?_
        refine r_iconst (pc := 150) (nI 1) hC dL_build_150 (by decide) ?_
        refine r_iload (pc := 151) hC dL_build_151 rfl ?_
        refine r_bipush (pc := 153) (nI 6) hC dL_build_153 (by decide) ?_
        refine r_ishr (pc := 155) hC dL_build_155 ?_
        refine r_bipush (pc := 156) (nI 20) hC dL_build_156 (by decide) ?_
        refine q_callS (pc := 158) (k' := k) (n' := s) hC (ct_below hC.fl (m := 20) (by omega) (by omega)) ks_L_15 rfl rfl (Nat.le_of_ble_eq_true rfl) ⟨by decide, by decide⟩ (show k + 0 ≤ k by omega) (show k ≤ 200 by omega) (show s + 0 ≤ s by omega) (show s ≤ 30000 by omega) dL_build_158 (fun _ _ h => h) (fun v158 S9 h158 => ?_)
        obtain ⟨⟨r2, hr2, rfl⟩, rfl⟩ := h158
        first | refine rn_iadd (pc := 161) hC dL_build_161 ?_ | refine r_iadd (pc := 161) hC dL_build_161 ?_
        first | refine rn_imul (pc := 162) hC dL_build_162 ?_ | refine r_imul (pc := 162) hC dL_build_162 ?_
        first | refine rn_iadd (pc := 163) hC dL_build_163 ?_ | refine r_iadd (pc := 163) hC dL_build_163 ?_
        refine r_sipush (pc := 164) (nI 1440) hC dL_build_164 (by decide) ?_
        refine rn_irem (pc := 167) hC dL_build_167 (by omega) (by omega) (by omega) ?_
        refine at_lv (lv' := [(0, .ref x), (1, .ref b), (2, .int (nI 0)), (3, .ref c), (4, .ref z), (5, .ref d), (6, .ref g), (7, .int (nI i)), (8, .int y8)]) ⟨rfl, rfl, rfl, rfl, rfl, rfl, rfl, rfl, rfl, trivial⟩ ?_
        exact j168 _ (by omega) (by omega)
      · -- not
        refine r_sipush (pc := 133) (nI 1440) hC dL_build_133 (by decide) ?_
        refine r_goto (pc := 136) (tgt := 168) hC dL_build_136 (by decide) ?_
        refine at_lv (lv' := [(0, .ref x), (1, .ref b), (2, .int (nI 0)), (3, .ref c), (4, .ref z), (5, .ref d), (6, .ref g), (7, .int (nI i)), (8, .int y8)]) ⟨rfl, rfl, rfl, rfl, rfl, rfl, rfl, rfl, rfl, trivial⟩ ?_
        exact j168 1440 (by omega) (by omega)
    first | refine r_aload (pc := 78) hC dL_build_78 rfl ?_ | refine r_aloadN (pc := 78) hC dL_build_78 rfl ?_
    refine r_iconst (pc := 80) (nI 3) hC dL_build_80 (by decide) ?_
    refine r_iload (pc := 81) hC dL_build_81 rfl ?_
    first | refine rn_imul (pc := 83) hC dL_build_83 ?_ | refine r_imul (pc := 83) hC dL_build_83 ?_
    refine r_iconst (pc := 84) (nI 1) hC dL_build_84 (by decide) ?_
    first | refine rn_iadd (pc := 85) hC dL_build_85 ?_ | refine r_iadd (pc := 85) hC dL_build_85 ?_
    refine r_iload (pc := 86) hC dL_build_86 rfl ?_
    refine r_iconst (pc := 88) (nI 3) hC dL_build_88 (by decide) ?_
    refine r_ishr (pc := 89) hC dL_build_89 ?_
    refine r_iconst (pc := 90) (nI 2) hC dL_build_90 (by decide) ?_
    refine q_callS (pc := 91) (k' := k) (n' := s) hC (ct_below hC.fl (m := 2) (by omega) (by omega)) ks_L_15 rfl rfl (Nat.le_of_ble_eq_true rfl) ⟨by decide, by decide⟩ (show k + 0 ≤ k by omega) (show k ≤ 200 by omega) (show s + 0 ≤ s by omega) (show s ≤ 30000 by omega) dL_build_91 (fun _ _ h => h) (fun v91 S9 h91 => ?_)
    obtain ⟨⟨r, hr, rfl⟩, rfl⟩ := h91
    first | refine rb_if_ne (pc := 94) (tgt := 101) hC dL_build_94 (by decide) (fun c94 => ?_) (fun c94 => ?_) | refine rn_if_ne (pc := 94) (tgt := 101) hC dL_build_94 (by decide) (by omega) (fun c94 => ?_) (fun c94 => ?_) | refine ri_if_ne (pc := 94) (tgt := 101) hC dL_build_94 (by decide) (fun c94 => ?_) (fun c94 => ?_)
    · -- taken
      refine r_iload (pc := 101) hC dL_build_101 rfl ?_
      refine r_iconst (pc := 103) (nI 4) hC dL_build_103 (by decide) ?_
      refine r_ishr (pc := 104) hC dL_build_104 ?_
      refine r_bipush (pc := 105) (nI 24) hC dL_build_105 (by decide) ?_
      refine q_callS (pc := 107) (k' := k) (n' := s) hC (ct_below hC.fl (m := 24) (by omega) (by omega)) ks_L_15 rfl rfl (Nat.le_of_ble_eq_true rfl) ⟨by decide, by decide⟩ (show k + 0 ≤ k by omega) (show k ≤ 200 by omega) (show s + 0 ≤ s by omega) (show s ≤ 30000 by omega) dL_build_107 (fun _ _ h => h) (fun v107 S9 h107 => ?_)
      obtain ⟨⟨r2, hr2, rfl⟩, rfl⟩ := h107
      refine r_bipush (pc := 110) (nI 60) hC dL_build_110 (by decide) ?_
      first | refine rn_imul (pc := 112) hC dL_build_112 ?_ | refine r_imul (pc := 112) hC dL_build_112 ?_
      refine at_lv (lv' := [(0, .ref x), (1, .ref b), (2, .int (nI 0)), (3, .ref c), (4, .ref z), (5, .ref d), (6, .ref g), (7, .int (nI i)), (8, .int y8)]) ⟨rfl, rfl, rfl, rfl, rfl, rfl, rfl, rfl, rfl, trivial⟩ ?_
      exact j113 (r2 * 60) (by omega)
    · -- not
      refine r_iconst (pc := 97) (nI 0) hC dL_build_97 (by decide) ?_
      refine r_goto (pc := 98) (tgt := 113) hC dL_build_98 (by decide) ?_
      refine at_lv (lv' := [(0, .ref x), (1, .ref b), (2, .int (nI 0)), (3, .ref c), (4, .ref z), (5, .ref d), (6, .ref g), (7, .int (nI i)), (8, .int y8)]) ⟨rfl, rfl, rfl, rfl, rfl, rfl, rfl, rfl, rfl, trivial⟩ ?_
      exact j113 0 (by omega)
  first | refine r_aload (pc := 48) hC dL_build_48 rfl ?_ | refine r_aloadN (pc := 48) hC dL_build_48 rfl ?_
  refine r_iconst (pc := 50) (nI 3) hC dL_build_50 (by decide) ?_
  refine r_iload (pc := 51) hC dL_build_51 rfl ?_
  first | refine rn_imul (pc := 53) hC dL_build_53 ?_ | refine r_imul (pc := 53) hC dL_build_53 ?_
  refine r_iload (pc := 54) hC dL_build_54 rfl ?_
  refine r_iconst (pc := 56) (nI 3) hC dL_build_56 (by decide) ?_
  refine q_callS (pc := 57) (k' := k) (n' := s) hC (ct_below hC.fl (m := 3) (by omega) (by omega)) ks_L_15 rfl rfl (Nat.le_of_ble_eq_true rfl) ⟨by decide, by decide⟩ (show k + 0 ≤ k by omega) (show k ≤ 200 by omega) (show s + 0 ≤ s by omega) (show s ≤ 30000 by omega) dL_build_57 (fun _ _ h => h) (fun v57 S9 h57 => ?_)
  obtain ⟨⟨r, hr, rfl⟩, rfl⟩ := h57
  first | refine rb_if_ne (pc := 60) (tgt := 67) hC dL_build_60 (by decide) (fun c60 => ?_) (fun c60 => ?_) | refine rn_if_ne (pc := 60) (tgt := 67) hC dL_build_60 (by decide) (by omega) (fun c60 => ?_) (fun c60 => ?_) | refine ri_if_ne (pc := 60) (tgt := 67) hC dL_build_60 (by decide) (fun c60 => ?_) (fun c60 => ?_)
  · -- taken
    refine r_iconst (pc := 67) (nI 1) hC dL_build_67 (by decide) ?_
    refine r_iload (pc := 68) hC dL_build_68 rfl ?_
    refine r_iconst (pc := 70) (nI 1) hC dL_build_70 (by decide) ?_
    refine r_ishr (pc := 71) hC dL_build_71 ?_
    refine r_iconst (pc := 72) (nI 4) hC dL_build_72 (by decide) ?_
    refine q_callS (pc := 73) (k' := k) (n' := s) hC (ct_below hC.fl (m := 4) (by omega) (by omega)) ks_L_15 rfl rfl (Nat.le_of_ble_eq_true rfl) ⟨by decide, by decide⟩ (show k + 0 ≤ k by omega) (show k ≤ 200 by omega) (show s + 0 ≤ s by omega) (show s ≤ 30000 by omega) dL_build_73 (fun _ _ h => h) (fun v73 S9 h73 => ?_)
    obtain ⟨⟨r2, hr2, rfl⟩, rfl⟩ := h73
    first | refine rn_iadd (pc := 76) hC dL_build_76 ?_ | refine r_iadd (pc := 76) hC dL_build_76 ?_
    refine at_lv (lv' := [(0, .ref x), (1, .ref b), (2, .int (nI 0)), (3, .ref c), (4, .ref z), (5, .ref d), (6, .ref g), (7, .int (nI i)), (8, .int y8)]) ⟨rfl, rfl, rfl, rfl, rfl, rfl, rfl, rfl, rfl, trivial⟩ ?_
    exact j77 (1 + r2) (by omega) (by omega)
  · -- not
    refine r_iconst (pc := 63) (nI 1) hC dL_build_63 (by decide) ?_
    refine r_goto (pc := 64) (tgt := 77) hC dL_build_64 (by decide) ?_
    refine at_lv (lv' := [(0, .ref x), (1, .ref b), (2, .int (nI 0)), (3, .ref c), (4, .ref z), (5, .ref d), (6, .ref g), (7, .int (nI i)), (8, .int y8)]) ⟨rfl, rfl, rfl, rfl, rfl, rfl, rfl, rfl, rfl, trivial⟩ ?_
    exact j77 1 (by omega) (by omega)
set_option maxHeartbeats 4000000 in
set_option maxRecDepth 100000 in
theorem bd_step {Γ : Cx} {G : Ids} {V : Vx} {b L x c z d g i k s N0 : Nat} {xs : Nat → Int32} {C0 C1 C2 : Int32} {σ : Sg} {S : Ps} (hC : Ctx Γ G V cL_build RL rm_L_build 11) (hX : ScX Γ V b L xs) (hL : L ≤ 260) (hD : DF c z d g) (hB : BB G S x c z d g C0 C1 C2 σ) (hN0 : C0 = nI N0) (hz0 : nz σ = N0) (h0 : 2 ≤ N0) (h6 : N0 ≤ 6) (hi : nd σ = i) (h2 : i < 8) (hk : k + 7 ≤ 200) (hs : s + 839 ≤ 30000) (nx : ∀ (S9 : Ps) (σ9 : Sg), BB G S9 x c z d g C0 C1 C2 σ9 → nz σ9 = N0 → nd σ9 = i + 1 → nb σ9 = nb σ → At Γ G V (k + 7) (s + 839) S9 [(0, .ref x), (1, .ref b), (2, .int (nI 0)), (3, .ref c), (4, .ref z), (5, .ref d), (6, .ref g), (7, .int (nI (i + 1)))] 242 []) : At Γ G V k s S [(0, .ref x), (1, .ref b), (2, .int (nI 0)), (3, .ref c), (4, .ref z), (5, .ref d), (6, .ref g), (7, .int (nI i))] 250 [] := by
  have hi2 : σ 0 1 = i := hi
  first | refine r_aload_n (pc := 250) hC dL_build_250 rfl ?_ | refine r_aload_nN (pc := 250) hC dL_build_250 rfl ?_
  refine r_iload_n (pc := 251) hC dL_build_251 rfl ?_
  refine r_iconst (pc := 252) (nI 4) hC dL_build_252 (by decide) ?_
  first | refine rn_iadd (pc := 253) hC dL_build_253 ?_ | refine r_iadd (pc := 253) hC dL_build_253 ?_
  refine r_iload (pc := 254) hC dL_build_254 rfl ?_
  refine r_iconst (pc := 256) (nI 4) hC dL_build_256 (by decide) ?_
  refine rn_irem (pc := 257) hC dL_build_257 (by omega) (by omega) (by omega) ?_
  first | refine rn_iadd (pc := 258) hC dL_build_258 ?_ | refine r_iadd (pc := 258) hC dL_build_258 ?_
  refine q_callSX (pc := 259) (k' := k) (n' := s) hC hX (ct_cell hC.fl hL (by omega)) ks_L_9 rfl rfl (Nat.le_of_ble_eq_true rfl) ⟨by decide, by decide⟩ (show k + 0 ≤ k by omega) (show k ≤ 200 by omega) (show s + 0 ≤ s by omega) (show s ≤ 30000 by omega) dL_build_259 (fun _ _ h => h) (fun v259 S9 h259 => ?_)
  obtain ⟨⟨y, rfl⟩, rfl⟩ := h259
  refine r_iload (pc := 262) hC dL_build_262 rfl ?_
  refine r_iconst (pc := 264) (nI 4) hC dL_build_264 (by decide) ?_
  refine rn_idiv (pc := 265) hC dL_build_265 (by omega) (by omega) (by omega) ?_
  refine r_bipush (pc := 266) (nI 9) hC dL_build_266 (by decide) ?_
  first | refine rn_imul (pc := 268) hC dL_build_268 ?_ | refine r_imul (pc := 268) hC dL_build_268 ?_
  refine r_ishr (pc := 269) hC dL_build_269 ?_
  generalize (y >>> _) = y8
  refine r_istore (pc := 270) hC dL_build_270 (by decide) ?_
  have j301 : ∀ p : Nat, p < N0 → (i + 1 < N0 → p = i) → At Γ G V k s S [(0, .ref x), (1, .ref b), (2, .int (nI 0)), (3, .ref c), (4, .ref z), (5, .ref d), (6, .ref g), (7, .int (nI i)), (8, .int y8)] 301 [.int (nI p), .int (nI (4 * i)), .ref d] := fun p hp hp2 => by
    refine r_iast (pc := 301) hC dL_build_301 hB.kd (by rw [hB.md]; omega) (by rw [hB.md]; decide) ?_
    obtain ⟨S1, hS1⟩ : ∃ S1, S1 = sI S d (4 * i) (nI p) := ⟨_, rfl⟩
    rw [← hS1]
    have hB1 : BB G S1 x c z d g C0 C1 C2 σ := by rw [hS1]; exact hB.sd hD (by omega)
    have f1 : pI S1 d (4 * i) = nI p := by rw [hS1]; exact pI_eq
    have j353 : ∀ q : Nat, q < N0 → p ≠ q → At Γ G V k s S1 [(0, .ref x), (1, .ref b), (2, .int (nI 0)), (3, .ref c), (4, .ref z), (5, .ref d), (6, .ref g), (7, .int (nI i)), (8, .int y8)] 353 [.int (nI q), .int (nI (4 * i + 1)), .ref d] := fun q hq hne => by
      refine r_iast (pc := 353) hC dL_build_353 hB1.kd (by rw [hB1.md]; omega) (by rw [hB1.md]; decide) ?_
      obtain ⟨S2, hS2⟩ : ∃ S2, S2 = sI S1 d (4 * i + 1) (nI q) := ⟨_, rfl⟩
      rw [← hS2]
      have hB2 : BB G S2 x c z d g C0 C1 C2 σ := by rw [hS2]; exact hB1.sd hD (by omega)
      have f2 : pI S2 d (4 * i + 1) = nI q := by rw [hS2]; exact pI_eq
      have g2a : pI S2 d (4 * i) = nI p := by rw [hS2, pI_ne (Or.inr (by omega))]; exact f1
      first | refine r_aload (pc := 354) hC dL_build_354 rfl ?_ | refine r_aloadN (pc := 354) hC dL_build_354 rfl ?_
      refine r_iconst (pc := 356) (nI 4) hC dL_build_356 (by decide) ?_
      refine r_iload (pc := 357) hC dL_build_357 rfl ?_
      first | refine rn_imul (pc := 359) hC dL_build_359 ?_ | refine r_imul (pc := 359) hC dL_build_359 ?_
      refine r_iconst (pc := 360) (nI 2) hC dL_build_360 (by decide) ?_
      first | refine rn_iadd (pc := 361) hC dL_build_361 ?_ | refine r_iadd (pc := 361) hC dL_build_361 ?_
      refine r_iload (pc := 362) hC dL_build_362 rfl ?_
      refine r_iconst (pc := 364) (nI 5) hC dL_build_364 (by decide) ?_
      refine r_ishr (pc := 365) hC dL_build_365 ?_
      refine r_iconst (pc := 366) (nI 5) hC dL_build_366 (by decide) ?_
      refine q_callS (pc := 367) (k' := k) (n' := s) hC (ct_below hC.fl (m := 5) (by omega) (by omega)) ks_L_15 rfl rfl (Nat.le_of_ble_eq_true rfl) ⟨by decide, by decide⟩ (show k + 0 ≤ k by omega) (show k ≤ 200 by omega) (show s + 0 ≤ s by omega) (show s ≤ 30000 by omega) dL_build_367 (fun _ _ h => h) (fun v367 S9 h367 => ?_)
      obtain ⟨⟨o, ho, rfl⟩, rfl⟩ := h367
      refine r_iast (pc := 370) hC dL_build_370 hB2.kd (by rw [hB2.md]; omega) (by rw [hB2.md]; decide) ?_
      obtain ⟨S3, hS3⟩ : ∃ S3, S3 = sI S2 d (4 * i + 2) (nI o) := ⟨_, rfl⟩
      rw [← hS3]
      have hB3 : BB G S3 x c z d g C0 C1 C2 σ := by rw [hS3]; exact hB2.sd hD (by omega)
      have f3 : pI S3 d (4 * i + 2) = nI o := by rw [hS3]; exact pI_eq
      have g3a : pI S3 d (4 * i) = nI p := by rw [hS3, pI_ne (Or.inr (by omega))]; exact g2a
      have g3b : pI S3 d (4 * i + 1) = nI q := by rw [hS3, pI_ne (Or.inr (by omega))]; exact f2
      have j406 : ∀ l : Nat, l ≤ 3 → At Γ G V k s S3 [(0, .ref x), (1, .ref b), (2, .int (nI 0)), (3, .ref c), (4, .ref z), (5, .ref d), (6, .ref g), (7, .int (nI i)), (8, .int y8)] 406 [.int (nI l), .int (nI (4 * i + 3)), .ref d] := fun l hl => by
        refine r_iast (pc := 406) hC dL_build_406 hB3.kd (by rw [hB3.md]; omega) (by rw [hB3.md]; decide) ?_
        obtain ⟨S4, hS4⟩ : ∃ S4, S4 = sI S3 d (4 * i + 3) (nI l) := ⟨_, rfl⟩
        rw [← hS4]
        have hB4 : BB G S4 x c z d g C0 C1 C2 σ := by rw [hS4]; exact hB3.sd hD (by omega)
        have f4 : pI S4 d (4 * i + 3) = nI l := by rw [hS4]; exact pI_eq
        have g4a : pI S4 d (4 * i) = nI p := by rw [hS4, pI_ne (Or.inr (by omega))]; exact g3a
        have g4b : pI S4 d (4 * i + 1) = nI q := by rw [hS4, pI_ne (Or.inr (by omega))]; exact g3b
        have g4c : pI S4 d (4 * i + 2) = nI o := by rw [hS4, pI_ne (Or.inr (by omega))]; exact f3
        obtain ⟨Y4, hR4⟩ := hB4.1
        first | refine r_aload_n (pc := 407) hC dL_build_407 rfl ?_ | refine r_aload_nN (pc := 407) hC dL_build_407 rfl ?_
        first | refine r_aload (pc := 408) hC dL_build_408 rfl ?_ | refine r_aloadN (pc := 408) hC dL_build_408 rfl ?_
        refine r_iconst (pc := 410) (nI 4) hC dL_build_410 (by decide) ?_
        refine r_iload (pc := 411) hC dL_build_411 rfl ?_
        first | refine rn_imul (pc := 413) hC dL_build_413 ?_ | refine r_imul (pc := 413) hC dL_build_413 ?_
        refine r_iald (pc := 414) hC dL_build_414 hB4.kd (by rw [hB4.md]; omega) (by rw [hB4.md]; decide) g4a ?_
        first | refine r_aload (pc := 415) hC dL_build_415 rfl ?_ | refine r_aloadN (pc := 415) hC dL_build_415 rfl ?_
        refine r_iconst (pc := 417) (nI 4) hC dL_build_417 (by decide) ?_
        refine r_iload (pc := 418) hC dL_build_418 rfl ?_
        first | refine rn_imul (pc := 420) hC dL_build_420 ?_ | refine r_imul (pc := 420) hC dL_build_420 ?_
        refine r_iconst (pc := 421) (nI 1) hC dL_build_421 (by decide) ?_
        first | refine rn_iadd (pc := 422) hC dL_build_422 ?_ | refine r_iadd (pc := 422) hC dL_build_422 ?_
        refine r_iald (pc := 423) hC dL_build_423 hB4.kd (by rw [hB4.md]; omega) (by rw [hB4.md]; decide) g4b ?_
        first | refine r_aload (pc := 424) hC dL_build_424 rfl ?_ | refine r_aloadN (pc := 424) hC dL_build_424 rfl ?_
        refine r_iconst (pc := 426) (nI 4) hC dL_build_426 (by decide) ?_
        refine r_iload (pc := 427) hC dL_build_427 rfl ?_
        first | refine rn_imul (pc := 429) hC dL_build_429 ?_ | refine r_imul (pc := 429) hC dL_build_429 ?_
        refine r_iconst (pc := 430) (nI 2) hC dL_build_430 (by decide) ?_
        first | refine rn_iadd (pc := 431) hC dL_build_431 ?_ | refine r_iadd (pc := 431) hC dL_build_431 ?_
        refine r_iald (pc := 432) hC dL_build_432 hB4.kd (by rw [hB4.md]; omega) (by rw [hB4.md]; decide) g4c ?_
        first | refine r_aload (pc := 433) hC dL_build_433 rfl ?_ | refine r_aloadN (pc := 433) hC dL_build_433 rfl ?_
        refine r_iconst (pc := 435) (nI 4) hC dL_build_435 (by decide) ?_
        refine r_iload (pc := 436) hC dL_build_436 rfl ?_
        first | refine rn_imul (pc := 438) hC dL_build_438 ?_ | refine r_imul (pc := 438) hC dL_build_438 ?_
        refine r_iconst (pc := 439) (nI 3) hC dL_build_439 (by decide) ?_
        first | refine rn_iadd (pc := 440) hC dL_build_440 ?_ | refine r_iadd (pc := 440) hC dL_build_440 ?_
        refine r_iald (pc := 441) hC dL_build_441 hB4.kd (by rw [hB4.md]; omega) (by rw [hB4.md]; decide) f4 ?_
        refine q_callV (pc := 442) (k' := k + 7) (n' := s + 839) hC (cn_addDoor hC.fl hR4 hB4.J (by decide) (p := p) (q := q) (r := o) (t := l) (by omega) (by omega) (by omega) hne (by omega) (by omega)) kv_L_25 cls5 hR4.kx rfl rfl (Nat.le_of_ble_eq_true rfl) ⟨by decide, by decide⟩ (show k + 7 ≤ k + 7 by omega) (show k + 7 ≤ 200 by omega) (show s + 839 ≤ s + 839 by omega) (show s + 839 ≤ 30000 by omega) dL_build_442 (fun _ _ h => h) (fun v442 S5 h442 => ?_)
        obtain ⟨rfl, hCO⟩ := h442
        have hB5 := hB4.oD (p := p) (q := q) (r := o) (t := l) (by rw [hi2]; exact f4) (hB4.J.iadD (by omega) (by omega) (by omega) hne (by omega) (by omega)) hCO
        rw [hi]
        refine r_iload (pc := 445) hC dL_build_445 rfl ?_
        refine r_icmp_eq (pc := 447) (tgt := 452) hC dL_build_447 (by decide) (fun _ => ?_) (fun q => absurd rfl q)
        first | refine rn_iinc (pc := 452) (q := 1) hC dL_build_452 rfl (by decide) ?_ | refine r_iinc (pc := 452) _ hC dL_build_452 rfl rfl (by decide) ?_
        refine r_goto (pc := 455) (tgt := 242) hC dL_build_455 (by decide) ?_
        refine at_lv (lv' := [(0, .ref x), (1, .ref b), (2, .int (nI 0)), (3, .ref c), (4, .ref z), (5, .ref d), (6, .ref g), (7, .int (nI (i + 1)))]) ⟨rfl, rfl, rfl, rfl, rfl, rfl, rfl, rfl, trivial⟩ ?_
        exact nx _ _ hB5 (adD_f.1.trans hz0) (by rw [adD_f.2.1, hi]) adD_f.2.2.1
      first | refine r_aload (pc := 371) hC dL_build_371 rfl ?_ | refine r_aloadN (pc := 371) hC dL_build_371 rfl ?_
      refine r_iconst (pc := 373) (nI 4) hC dL_build_373 (by decide) ?_
      refine r_iload (pc := 374) hC dL_build_374 rfl ?_
      first | refine rn_imul (pc := 376) hC dL_build_376 ?_ | refine r_imul (pc := 376) hC dL_build_376 ?_
      refine r_iconst (pc := 377) (nI 3) hC dL_build_377 (by decide) ?_
      first | refine rn_iadd (pc := 378) hC dL_build_378 ?_ | refine r_iadd (pc := 378) hC dL_build_378 ?_
      refine r_iload (pc := 379) hC dL_build_379 rfl ?_
      refine r_bipush (pc := 381) (nI 7) hC dL_build_381 (by decide) ?_
      refine r_ishr (pc := 383) hC dL_build_383 ?_
      refine r_iconst (pc := 384) (nI 3) hC dL_build_384 (by decide) ?_
      refine q_callS (pc := 385) (k' := k) (n' := s) hC (ct_below hC.fl (m := 3) (by omega) (by omega)) ks_L_15 rfl rfl (Nat.le_of_ble_eq_true rfl) ⟨by decide, by decide⟩ (show k + 0 ≤ k by omega) (show k ≤ 200 by omega) (show s + 0 ≤ s by omega) (show s ≤ 30000 by omega) dL_build_385 (fun _ _ h => h) (fun v385 S9 h385 => ?_)
      obtain ⟨⟨r, hr, rfl⟩, rfl⟩ := h385
      first | refine rb_if_ne (pc := 388) (tgt := 405) hC dL_build_388 (by decide) (fun c388 => ?_) (fun c388 => ?_) | refine rn_if_ne (pc := 388) (tgt := 405) hC dL_build_388 (by decide) (by omega) (fun c388 => ?_) (fun c388 => ?_) | refine ri_if_ne (pc := 388) (tgt := 405) hC dL_build_388 (by decide) (fun c388 => ?_) (fun c388 => ?_)
      · -- taken
        refine r_iconst (pc := 405) (nI 0) hC dL_build_405 (by decide) ?_
        refine at_lv (lv' := [(0, .ref x), (1, .ref b), (2, .int (nI 0)), (3, .ref c), (4, .ref z), (5, .ref d), (6, .ref g), (7, .int (nI i)), (8, .int y8)]) ⟨rfl, rfl, rfl, rfl, rfl, rfl, rfl, rfl, rfl, trivial⟩ ?_
        exact j406 0 (by omega)
      · -- not
        refine r_iconst (pc := 391) (nI 1) hC dL_build_391 (by decide) ?_
        refine r_iload (pc := 392) hC dL_build_392 rfl ?_
        refine r_bipush (pc := 394) (nI 8) hC dL_build_394 (by decide) ?_
        refine r_ishr (pc := 396) hC dL_build_396 ?_
        refine r_iconst (pc := 397) (nI 3) hC dL_build_397 (by decide) ?_
        refine q_callS (pc := 398) (k' := k) (n' := s) hC (ct_below hC.fl (m := 3) (by omega) (by omega)) ks_L_15 rfl rfl (Nat.le_of_ble_eq_true rfl) ⟨by decide, by decide⟩ (show k + 0 ≤ k by omega) (show k ≤ 200 by omega) (show s + 0 ≤ s by omega) (show s ≤ 30000 by omega) dL_build_398 (fun _ _ h => h) (fun v398 S9 h398 => ?_)
        obtain ⟨⟨r2, hr2, rfl⟩, rfl⟩ := h398
        first | refine rn_iadd (pc := 401) hC dL_build_401 ?_ | refine r_iadd (pc := 401) hC dL_build_401 ?_
        refine r_goto (pc := 402) (tgt := 406) hC dL_build_402 (by decide) ?_
        refine at_lv (lv' := [(0, .ref x), (1, .ref b), (2, .int (nI 0)), (3, .ref c), (4, .ref z), (5, .ref d), (6, .ref g), (7, .int (nI i)), (8, .int y8)]) ⟨rfl, rfl, rfl, rfl, rfl, rfl, rfl, rfl, rfl, trivial⟩ ?_
        exact j406 (1 + r2) (by omega)
    first | refine r_aload (pc := 302) hC dL_build_302 rfl ?_ | refine r_aloadN (pc := 302) hC dL_build_302 rfl ?_
    refine r_iconst (pc := 304) (nI 4) hC dL_build_304 (by decide) ?_
    refine r_iload (pc := 305) hC dL_build_305 rfl ?_
    first | refine rn_imul (pc := 307) hC dL_build_307 ?_ | refine r_imul (pc := 307) hC dL_build_307 ?_
    refine r_iconst (pc := 308) (nI 1) hC dL_build_308 (by decide) ?_
    first | refine rn_iadd (pc := 309) hC dL_build_309 ?_ | refine r_iadd (pc := 309) hC dL_build_309 ?_
    refine r_iload (pc := 310) hC dL_build_310 rfl ?_
    refine r_iconst (pc := 312) (nI 1) hC dL_build_312 (by decide) ?_
    first | refine rn_iadd (pc := 313) hC dL_build_313 ?_ | refine r_iadd (pc := 313) hC dL_build_313 ?_
    first | refine r_aload_n (pc := 314) hC dL_build_314 rfl ?_ | refine r_aload_nN (pc := 314) hC dL_build_314 rfl ?_
    refine r_iconst (pc := 315) (nI 0) hC dL_build_315 (by decide) ?_
    refine r_iald (pc := 316) hC dL_build_316 hB1.kc (by rw [hB1.mc]; decide) (by rw [hB1.mc]; decide) (hB1.c0.trans hN0) ?_
    first | refine rn_icmp_ge (pc := 317) (tgt := 327) hC dL_build_317 (by decide) (by omega) (by omega) (fun c317 => ?_) (fun c317 => ?_) | refine ri_icmp_ge (pc := 317) (tgt := 327) hC dL_build_317 (by decide) (fun c317 => ?_) (fun c317 => ?_)
    · -- taken
      first | refine r_aload (pc := 327) hC dL_build_327 rfl ?_ | refine r_aloadN (pc := 327) hC dL_build_327 rfl ?_
      refine r_iconst (pc := 329) (nI 4) hC dL_build_329 (by decide) ?_
      refine r_iload (pc := 330) hC dL_build_330 rfl ?_
      first | refine rn_imul (pc := 332) hC dL_build_332 ?_ | refine r_imul (pc := 332) hC dL_build_332 ?_
      refine r_iald (pc := 333) hC dL_build_333 hB1.kd (by rw [hB1.md]; omega) (by rw [hB1.md]; decide) f1 ?_
      refine r_iconst (pc := 334) (nI 1) hC dL_build_334 (by decide) ?_
      first | refine rn_iadd (pc := 335) hC dL_build_335 ?_ | refine r_iadd (pc := 335) hC dL_build_335 ?_
      refine r_iload (pc := 336) hC dL_build_336 rfl ?_
      refine r_iconst (pc := 338) (nI 3) hC dL_build_338 (by decide) ?_
      refine r_ishr (pc := 339) hC dL_build_339 ?_
      first | refine r_aload_n (pc := 340) hC dL_build_340 rfl ?_ | refine r_aload_nN (pc := 340) hC dL_build_340 rfl ?_
      refine r_iconst (pc := 341) (nI 0) hC dL_build_341 (by decide) ?_
      refine r_iald (pc := 342) hC dL_build_342 hB1.kc (by rw [hB1.mc]; decide) (by rw [hB1.mc]; decide) (hB1.c0.trans hN0) ?_
      refine r_iconst (pc := 343) (nI 1) hC dL_build_343 (by decide) ?_
      first | refine rn_isub (pc := 344) hC dL_build_344 (by omega) ?_ | refine r_isub (pc := 344) hC dL_build_344 ?_
      refine q_callS (pc := 345) (k' := k) (n' := s) hC (ct_below hC.fl (m := (N0 - 1)) (by omega) (by omega)) ks_L_15 rfl rfl (Nat.le_of_ble_eq_true rfl) ⟨by decide, by decide⟩ (show k + 0 ≤ k by omega) (show k ≤ 200 by omega) (show s + 0 ≤ s by omega) (show s ≤ 30000 by omega) dL_build_345 (fun _ _ h => h) (fun v345 S9 h345 => ?_)
      obtain ⟨⟨r, hr, rfl⟩, rfl⟩ := h345
      first | refine rn_iadd (pc := 348) hC dL_build_348 ?_ | refine r_iadd (pc := 348) hC dL_build_348 ?_
      first | refine r_aload_n (pc := 349) hC dL_build_349 rfl ?_ | refine r_aload_nN (pc := 349) hC dL_build_349 rfl ?_
      refine r_iconst (pc := 350) (nI 0) hC dL_build_350 (by decide) ?_
      refine r_iald (pc := 351) hC dL_build_351 hB1.kc (by rw [hB1.mc]; decide) (by rw [hB1.mc]; decide) (hB1.c0.trans hN0) ?_
      refine rn_irem (pc := 352) hC dL_build_352 (by omega) (by omega) (by omega) ?_
      refine at_lv (lv' := [(0, .ref x), (1, .ref b), (2, .int (nI 0)), (3, .ref c), (4, .ref z), (5, .ref d), (6, .ref g), (7, .int (nI i)), (8, .int y8)]) ⟨rfl, rfl, rfl, rfl, rfl, rfl, rfl, rfl, rfl, trivial⟩ ?_
      exact j353 _ (mod_ne hp hr).1 (mod_ne hp hr).2
    · -- not
      refine r_iload (pc := 320) hC dL_build_320 rfl ?_
      refine r_iconst (pc := 322) (nI 1) hC dL_build_322 (by decide) ?_
      first | refine rn_iadd (pc := 323) hC dL_build_323 ?_ | refine r_iadd (pc := 323) hC dL_build_323 ?_
      refine r_goto (pc := 324) (tgt := 353) hC dL_build_324 (by decide) ?_
      refine at_lv (lv' := [(0, .ref x), (1, .ref b), (2, .int (nI 0)), (3, .ref c), (4, .ref z), (5, .ref d), (6, .ref g), (7, .int (nI i)), (8, .int y8)]) ⟨rfl, rfl, rfl, rfl, rfl, rfl, rfl, rfl, rfl, trivial⟩ ?_
      exact j353 (i + 1) (by omega) (by have := hp2 (by omega); omega)
  first | refine r_aload (pc := 272) hC dL_build_272 rfl ?_ | refine r_aloadN (pc := 272) hC dL_build_272 rfl ?_
  refine r_iconst (pc := 274) (nI 4) hC dL_build_274 (by decide) ?_
  refine r_iload (pc := 275) hC dL_build_275 rfl ?_
  first | refine rn_imul (pc := 277) hC dL_build_277 ?_ | refine r_imul (pc := 277) hC dL_build_277 ?_
  refine r_iload (pc := 278) hC dL_build_278 rfl ?_
  refine r_iconst (pc := 280) (nI 1) hC dL_build_280 (by decide) ?_
  first | refine rn_iadd (pc := 281) hC dL_build_281 ?_ | refine r_iadd (pc := 281) hC dL_build_281 ?_
  first | refine r_aload_n (pc := 282) hC dL_build_282 rfl ?_ | refine r_aload_nN (pc := 282) hC dL_build_282 rfl ?_
  refine r_iconst (pc := 283) (nI 0) hC dL_build_283 (by decide) ?_
  refine r_iald (pc := 284) hC dL_build_284 hB.kc (by rw [hB.mc]; decide) (by rw [hB.mc]; decide) (hB.c0.trans hN0) ?_
  first | refine rn_icmp_ge (pc := 285) (tgt := 293) hC dL_build_285 (by decide) (by omega) (by omega) (fun c285 => ?_) (fun c285 => ?_) | refine ri_icmp_ge (pc := 285) (tgt := 293) hC dL_build_285 (by decide) (fun c285 => ?_) (fun c285 => ?_)
  · -- taken
    refine r_iload (pc := 293) hC dL_build_293 rfl ?_
    first | refine r_aload_n (pc := 295) hC dL_build_295 rfl ?_ | refine r_aload_nN (pc := 295) hC dL_build_295 rfl ?_
    refine r_iconst (pc := 296) (nI 0) hC dL_build_296 (by decide) ?_
    refine r_iald (pc := 297) hC dL_build_297 hB.kc (by rw [hB.mc]; decide) (by rw [hB.mc]; decide) (hB.c0.trans hN0) ?_
    refine q_callS (pc := 298) (k' := k) (n' := s) hC (ct_below hC.fl (m := N0) (by omega) (by omega)) ks_L_15 rfl rfl (Nat.le_of_ble_eq_true rfl) ⟨by decide, by decide⟩ (show k + 0 ≤ k by omega) (show k ≤ 200 by omega) (show s + 0 ≤ s by omega) (show s ≤ 30000 by omega) dL_build_298 (fun _ _ h => h) (fun v298 S9 h298 => ?_)
    obtain ⟨⟨r, hr, rfl⟩, rfl⟩ := h298
    refine at_lv (lv' := [(0, .ref x), (1, .ref b), (2, .int (nI 0)), (3, .ref c), (4, .ref z), (5, .ref d), (6, .ref g), (7, .int (nI i)), (8, .int y8)]) ⟨rfl, rfl, rfl, rfl, rfl, rfl, rfl, rfl, rfl, trivial⟩ ?_
    exact j301 r (by omega) (fun q9 => by omega)
  · -- not
    refine r_iload (pc := 288) hC dL_build_288 rfl ?_
    refine r_goto (pc := 290) (tgt := 301) hC dL_build_290 (by decide) ?_
    refine at_lv (lv' := [(0, .ref x), (1, .ref b), (2, .int (nI 0)), (3, .ref c), (4, .ref z), (5, .ref d), (6, .ref g), (7, .int (nI i)), (8, .int y8)]) ⟨rfl, rfl, rfl, rfl, rfl, rfl, rfl, rfl, rfl, trivial⟩ ?_
    exact j301 i (by omega) (fun _ => rfl)
set_option maxHeartbeats 4000000 in
set_option maxRecDepth 100000 in
theorem bb_step {Γ : Cx} {G : Ids} {V : Vx} {b L x c z d g i k s : Nat} {xs : Nat → Int32} {C0 C1 C2 : Int32} {σ : Sg} {S : Ps} (hC : Ctx Γ G V cL_build RL rm_L_build 11) (hX : ScX Γ V b L xs) (hL : L ≤ 260) (hD : DF c z d g) (hB : BB G S x c z d g C0 C1 C2 σ) (hi : nb σ = i) (h2 : i < 6) (hk : k + 10 ≤ 200) (hs : s + 1650 ≤ 30000) (nx : ∀ (S9 : Ps) (σ9 : Sg), BB G S9 x c z d g C0 C1 C2 σ9 → nz σ9 = nz σ → nd σ9 = nd σ → nb σ9 = i + 1 → At Γ G V (k + 10) (s + 1650) S9 [(0, .ref x), (1, .ref b), (2, .int (nI 0)), (3, .ref c), (4, .ref z), (5, .ref d), (6, .ref g), (7, .int (nI (i + 1)))] 479 []) : At Γ G V k s S [(0, .ref x), (1, .ref b), (2, .int (nI 0)), (3, .ref c), (4, .ref z), (5, .ref d), (6, .ref g), (7, .int (nI i))] 487 [] := by
  have hi2 : σ 0 2 = i := hi
  first | refine r_aload_n (pc := 487) hC dL_build_487 rfl ?_ | refine r_aload_nN (pc := 487) hC dL_build_487 rfl ?_
  refine r_iload_n (pc := 488) hC dL_build_488 rfl ?_
  refine r_bipush (pc := 489) (nI 8) hC dL_build_489 (by decide) ?_
  first | refine rn_iadd (pc := 491) hC dL_build_491 ?_ | refine r_iadd (pc := 491) hC dL_build_491 ?_
  refine r_iload (pc := 492) hC dL_build_492 rfl ?_
  refine r_iconst (pc := 494) (nI 3) hC dL_build_494 (by decide) ?_
  refine rn_irem (pc := 495) hC dL_build_495 (by omega) (by omega) (by omega) ?_
  first | refine rn_iadd (pc := 496) hC dL_build_496 ?_ | refine r_iadd (pc := 496) hC dL_build_496 ?_
  refine q_callSX (pc := 497) (k' := k) (n' := s) hC hX (ct_cell hC.fl hL (by omega)) ks_L_9 rfl rfl (Nat.le_of_ble_eq_true rfl) ⟨by decide, by decide⟩ (show k + 0 ≤ k by omega) (show k ≤ 200 by omega) (show s + 0 ≤ s by omega) (show s ≤ 30000 by omega) dL_build_497 (fun _ _ h => h) (fun v497 S9 h497 => ?_)
  obtain ⟨⟨y, rfl⟩, rfl⟩ := h497
  refine r_iload (pc := 500) hC dL_build_500 rfl ?_
  refine r_iconst (pc := 502) (nI 3) hC dL_build_502 (by decide) ?_
  refine rn_idiv (pc := 503) hC dL_build_503 (by omega) (by omega) (by omega) ?_
  refine r_bipush (pc := 504) (nI 9) hC dL_build_504 (by decide) ?_
  first | refine rn_imul (pc := 506) hC dL_build_506 ?_ | refine r_imul (pc := 506) hC dL_build_506 ?_
  refine r_ishr (pc := 507) hC dL_build_507 ?_
  generalize (y >>> _) = y8
  refine r_istore (pc := 508) hC dL_build_508 (by decide) ?_
  have j536 : ∀ v : Bool, (v = true → 0 < i ∧ 0 ≤ (pI S g 0).toInt) → At Γ G V k s S [(0, .ref x), (1, .ref b), (2, .int (nI 0)), (3, .ref c), (4, .ref z), (5, .ref d), (6, .ref g), (7, .int (nI i)), (8, .int y8)] 536 [.int (nI (bN v))] := fun v hv => by
    have hv1 := bN_le v
    refine r_istore (pc := 536) hC dL_build_536 (by decide) ?_
    have j580 : ∀ u : Int32, (v = true → u = -1) → (v = false → ∃ p, p ≤ 255 ∧ u = nI p) → At Γ G V k s S [(0, .ref x), (1, .ref b), (2, .int (nI 0)), (3, .ref c), (4, .ref z), (5, .ref d), (6, .ref g), (7, .int (nI i)), (8, .int y8), (9, .int (nI (bN v)))] 580 [.int u, .int (nI (2 * i)), .ref g] := fun u hu1 hu2 => by
      refine r_iast (pc := 580) hC dL_build_580 hB.kg (by rw [hB.mg]; omega) (by rw [hB.mg]; decide) ?_
      obtain ⟨S1, hS1⟩ : ∃ S1, S1 = sI S g (2 * i) (u) := ⟨_, rfl⟩
      rw [← hS1]
      have hB1 : BB G S1 x c z d g C0 C1 C2 σ := by rw [hS1]; exact hB.sg hD (by omega)
      have f1 : pI S1 g (2 * i) = u := by rw [hS1]; exact pI_eq
      first | refine r_aload (pc := 581) hC dL_build_581 rfl ?_ | refine r_aloadN (pc := 581) hC dL_build_581 rfl ?_
      refine r_iconst (pc := 583) (nI 2) hC dL_build_583 (by decide) ?_
      refine r_iload (pc := 584) hC dL_build_584 rfl ?_
      first | refine rn_imul (pc := 586) hC dL_build_586 ?_ | refine r_imul (pc := 586) hC dL_build_586 ?_
      refine r_iconst (pc := 587) (nI 1) hC dL_build_587 (by decide) ?_
      first | refine rn_iadd (pc := 588) hC dL_build_588 ?_ | refine r_iadd (pc := 588) hC dL_build_588 ?_
      refine r_iconst (pc := 589) (-1) hC dL_build_589 (by decide) ?_
      refine r_iast (pc := 590) hC dL_build_590 hB1.kg (by rw [hB1.mg]; omega) (by rw [hB1.mg]; decide) ?_
      obtain ⟨S2, hS2⟩ : ∃ S2, S2 = sI S1 g (2 * i + 1) (-1) := ⟨_, rfl⟩
      rw [← hS2]
      have hB2 : BB G S2 x c z d g C0 C1 C2 σ := by rw [hS2]; exact hB1.sg hD (by omega)
      have f2 : pI S2 g (2 * i + 1) = -1 := by rw [hS2]; exact pI_eq
      have g2a : pI S2 g (2 * i) = u := by rw [hS2, pI_ne (Or.inr (by omega))]; exact f1
      obtain ⟨Y2, hR2⟩ := hB2.1
      refine r_iload (pc := 591) hC dL_build_591 rfl ?_
      first | refine rb_if_eq (pc := 593) (tgt := 650) hC dL_build_593 (by decide) (fun c593 => ?_) (fun c593 => ?_) | refine rn_if_eq (pc := 593) (tgt := 650) hC dL_build_593 (by decide) (by omega) (fun c593 => ?_) (fun c593 => ?_) | refine ri_if_eq (pc := 593) (tgt := 650) hC dL_build_593 (by decide) (fun c593 => ?_) (fun c593 => ?_)
      · -- taken
        have hvf : v = false := bw0 c593
        obtain ⟨p, hp, hup⟩ := hu2 hvf
        have g2p : pI S2 g (2 * i) = nI p := g2a.trans hup
        first | refine r_aload_n (pc := 650) hC dL_build_650 rfl ?_ | refine r_aload_nN (pc := 650) hC dL_build_650 rfl ?_
        first | refine r_aload (pc := 651) hC dL_build_651 rfl ?_ | refine r_aloadN (pc := 651) hC dL_build_651 rfl ?_
        refine r_iconst (pc := 653) (nI 2) hC dL_build_653 (by decide) ?_
        refine r_iload (pc := 654) hC dL_build_654 rfl ?_
        first | refine rn_imul (pc := 656) hC dL_build_656 ?_ | refine r_imul (pc := 656) hC dL_build_656 ?_
        refine r_iald (pc := 657) hC dL_build_657 hB2.kg (by rw [hB2.mg]; omega) (by rw [hB2.mg]; decide) g2p ?_
        refine q_callV (pc := 658) (k' := k + 9) (n' := s + 1644) hC (cn_addBadge hC.fl hR2 hB2.J (by decide) (p := p) (by omega) hp) kv_L_33 cls5 hR2.kx rfl rfl (Nat.le_of_ble_eq_true rfl) ⟨by decide, by decide⟩ (show k + 9 ≤ k + 9 by omega) (show k + 9 ≤ 200 by omega) (show s + 1644 ≤ s + 1644 by omega) (show s + 1644 ≤ 30000 by omega) dL_build_658 (fun _ _ h => h) (fun v658 S4 h658 => ?_)
        obtain ⟨rfl, hCO⟩ := h658
        obtain ⟨hB4, n1, n2, n3⟩ := hB2.oB (hh := 0) (rr := p) (by omega) (fun _ => rfl) (hB2.J.iadB (by omega) (by omega) (fun q9 => absurd rfl q9) hp) hCO
        rw [hi]
        refine r_iload (pc := 661) hC dL_build_661 rfl ?_
        refine r_icmp_eq (pc := 663) (tgt := 668) hC dL_build_663 (by decide) (fun _ => ?_) (fun q => absurd rfl q)
        first | refine rn_iinc (pc := 668) (q := 1) hC dL_build_668 rfl (by decide) ?_ | refine r_iinc (pc := 668) _ hC dL_build_668 rfl rfl (by decide) ?_
        refine r_goto (pc := 671) (tgt := 479) hC dL_build_671 (by decide) ?_
        refine at_lv (lv' := [(0, .ref x), (1, .ref b), (2, .int (nI 0)), (3, .ref c), (4, .ref z), (5, .ref d), (6, .ref g), (7, .int (nI (i + 1)))]) ⟨rfl, rfl, rfl, rfl, rfl, rfl, rfl, rfl, trivial⟩ ?_
        refine at_widen (k' := k + 10) (n' := s + 1650) (by omega) (by omega) ?_
        exact nx _ _ hB4 n1 n2 (by rw [n3, hi])
      · -- not
        have hvt : v = true := by cases v with | true => rfl | false => exact absurd rfl c593
        have hv9 := hv hvt
        have e0 : pI S2 g (2 * 0) = pI S g 0 := by rw [hS2, pI_ne (Or.inr (by omega)), hS1, pI_ne (Or.inr (by omega))]
        have host : ∀ j : Nat, j < i → 0 ≤ (pI S2 g (2 * j)).toInt → At Γ G V k s S2 [(0, .ref x), (1, .ref b), (2, .int (nI 0)), (3, .ref c), (4, .ref z), (5, .ref d), (6, .ref g), (7, .int (nI i)), (8, .int y8), (9, .int (nI (bN v))), (10, .int (nI j))] 623 [] := fun j hj c614 => by
          first | refine r_aload (pc := 623) hC dL_build_623 rfl ?_ | refine r_aloadN (pc := 623) hC dL_build_623 rfl ?_
          refine r_iconst (pc := 625) (nI 2) hC dL_build_625 (by decide) ?_
          refine r_iload (pc := 626) hC dL_build_626 rfl ?_
          first | refine rn_imul (pc := 628) hC dL_build_628 ?_ | refine r_imul (pc := 628) hC dL_build_628 ?_
          refine r_iconst (pc := 629) (nI 1) hC dL_build_629 (by decide) ?_
          first | refine rn_iadd (pc := 630) hC dL_build_630 ?_ | refine r_iadd (pc := 630) hC dL_build_630 ?_
          refine r_iload (pc := 631) hC dL_build_631 rfl ?_
          refine r_iast (pc := 633) hC dL_build_633 hB2.kg (by rw [hB2.mg]; omega) (by rw [hB2.mg]; decide) ?_
          obtain ⟨S3, hS3⟩ : ∃ S3, S3 = sI S2 g (2 * i + 1) (nI j) := ⟨_, rfl⟩
          rw [← hS3]
          have hB3 : BB G S3 x c z d g C0 C1 C2 σ := by rw [hS3]; exact hB2.sg hD (by omega)
          have f3 : pI S3 g (2 * i + 1) = nI j := by rw [hS3]; exact pI_eq
          have g3a : pI S3 g (2 * i) = u := by rw [hS3, pI_ne (Or.inr (by omega))]; exact g2a
          obtain ⟨Y3, hR3⟩ := hB3.1
          have g3j : 0 ≤ (pI S3 g (2 * j)).toInt := by rw [hS3, pI_ne (Or.inr (by omega))]; exact c614
          have ho : hst σ j = 0 := (hB3.2.2.2.2.2.2.2 j (by omega)).2 g3j
          first | refine r_aload_n (pc := 634) hC dL_build_634 rfl ?_ | refine r_aload_nN (pc := 634) hC dL_build_634 rfl ?_
          refine r_iload (pc := 635) hC dL_build_635 rfl ?_
          refine q_callV (pc := 637) (k' := k + 10) (n' := s + 1650) hC (cn_addVisitor hC.fl hR3 hB3.J (by decide) (p := j) (by omega) (by omega) ho) kv_L_29 cls5 hR3.kx rfl rfl (Nat.le_of_ble_eq_true rfl) ⟨by decide, by decide⟩ (show k + 10 ≤ k + 10 by omega) (show k + 10 ≤ 200 by omega) (show s + 1650 ≤ s + 1650 by omega) (show s + 1650 ≤ 30000 by omega) dL_build_637 (fun _ _ h => h) (fun v637 S4 h637 => ?_)
          obtain ⟨rfl, hCO⟩ := h637
          obtain ⟨hB4, n1, n2, n3⟩ := hB3.oB (hh := j + 1) (rr := 0) (by omega) (fun q9 => by rw [hi2, g3a, hu1 hvt] at q9; exact absurd q9 (by decide)) (hB3.J.iadB (by omega) (by omega) (fun _ => ho) (by omega)) hCO
          rw [hi]
          refine r_iload (pc := 640) hC dL_build_640 rfl ?_
          refine r_icmp_eq (pc := 642) (tgt := 647) hC dL_build_642 (by decide) (fun _ => ?_) (fun q => absurd rfl q)
          refine r_goto (pc := 647) (tgt := 668) hC dL_build_647 (by decide) ?_
          first | refine rn_iinc (pc := 668) (q := 1) hC dL_build_668 rfl (by decide) ?_ | refine r_iinc (pc := 668) _ hC dL_build_668 rfl rfl (by decide) ?_
          refine r_goto (pc := 671) (tgt := 479) hC dL_build_671 (by decide) ?_
          refine at_lv (lv' := [(0, .ref x), (1, .ref b), (2, .int (nI 0)), (3, .ref c), (4, .ref z), (5, .ref d), (6, .ref g), (7, .int (nI (i + 1)))]) ⟨rfl, rfl, rfl, rfl, rfl, rfl, rfl, rfl, trivial⟩ ?_
          refine at_widen (k' := k + 10) (n' := s + 1650) (by omega) (by omega) ?_
          exact nx _ _ hB4 n1 n2 (by rw [n3, hi])
        have lp : ∀ j : Nat, j < i → At Γ G V k s S2 [(0, .ref x), (1, .ref b), (2, .int (nI 0)), (3, .ref c), (4, .ref z), (5, .ref d), (6, .ref g), (7, .int (nI i)), (8, .int y8), (9, .int (nI (bN v))), (10, .int (nI j))] 607 [] := by
          intro j
          induction j with
          | zero =>
            intro hj
            first | refine r_aload (pc := 607) hC dL_build_607 rfl ?_ | refine r_aloadN (pc := 607) hC dL_build_607 rfl ?_
            refine r_iconst (pc := 609) (nI 2) hC dL_build_609 (by decide) ?_
            refine r_iload (pc := 610) hC dL_build_610 rfl ?_
            first | refine rn_imul (pc := 612) hC dL_build_612 ?_ | refine r_imul (pc := 612) hC dL_build_612 ?_
            refine r_iald (pc := 613) hC dL_build_613 hB2.kg (by rw [hB2.mg]; omega) (by rw [hB2.mg]; decide) rfl ?_
            refine ri_if_ge (pc := 614) (tgt := 623) hC dL_build_614 (by decide) (fun c614 => ?_) (fun c614 => ?_)
            · -- taken
              refine at_lv (lv' := [(0, .ref x), (1, .ref b), (2, .int (nI 0)), (3, .ref c), (4, .ref z), (5, .ref d), (6, .ref g), (7, .int (nI i)), (8, .int y8), (9, .int (nI (bN v))), (10, .int (nI 0))]) ⟨rfl, rfl, rfl, rfl, rfl, rfl, rfl, rfl, rfl, rfl, rfl, trivial⟩ ?_
              exact host _ hj c614
            · -- not
              exfalso
              rw [e0] at c614
              exact c614 hv9.2
          | succ j9 ih =>
            intro hj
            first | refine r_aload (pc := 607) hC dL_build_607 rfl ?_ | refine r_aloadN (pc := 607) hC dL_build_607 rfl ?_
            refine r_iconst (pc := 609) (nI 2) hC dL_build_609 (by decide) ?_
            refine r_iload (pc := 610) hC dL_build_610 rfl ?_
            first | refine rn_imul (pc := 612) hC dL_build_612 ?_ | refine r_imul (pc := 612) hC dL_build_612 ?_
            refine r_iald (pc := 613) hC dL_build_613 hB2.kg (by rw [hB2.mg]; omega) (by rw [hB2.mg]; decide) rfl ?_
            refine ri_if_ge (pc := 614) (tgt := 623) hC dL_build_614 (by decide) (fun c614 => ?_) (fun c614 => ?_)
            · -- taken
              refine at_lv (lv' := [(0, .ref x), (1, .ref b), (2, .int (nI 0)), (3, .ref c), (4, .ref z), (5, .ref d), (6, .ref g), (7, .int (nI i)), (8, .int y8), (9, .int (nI (bN v))), (10, .int (nI (j9 + 1)))]) ⟨rfl, rfl, rfl, rfl, rfl, rfl, rfl, rfl, rfl, rfl, rfl, trivial⟩ ?_
              exact host _ hj c614
            · -- not
              refine r_iinc (pc := 617) (nI j9) hC dL_build_617 rfl (nI_dec j9) (by decide) ?_
              refine r_goto (pc := 620) (tgt := 607) hC dL_build_620 (by decide) ?_
              refine at_lv (lv' := [(0, .ref x), (1, .ref b), (2, .int (nI 0)), (3, .ref c), (4, .ref z), (5, .ref d), (6, .ref g), (7, .int (nI i)), (8, .int y8), (9, .int (nI (bN v))), (10, .int (nI j9))]) ⟨rfl, rfl, rfl, rfl, rfl, rfl, rfl, rfl, rfl, rfl, rfl, trivial⟩ ?_
              exact ih (by omega)
        refine r_iload (pc := 596) hC dL_build_596 rfl ?_
        refine r_iconst (pc := 598) (nI 2) hC dL_build_598 (by decide) ?_
        refine r_ishr (pc := 599) hC dL_build_599 ?_
        refine r_iload (pc := 600) hC dL_build_600 rfl ?_
        refine q_callS (pc := 602) (k' := k) (n' := s) hC (ct_below hC.fl (m := i) (by omega) (by omega)) ks_L_15 rfl rfl (Nat.le_of_ble_eq_true rfl) ⟨by decide, by decide⟩ (show k + 0 ≤ k by omega) (show k ≤ 200 by omega) (show s + 0 ≤ s by omega) (show s ≤ 30000 by omega) dL_build_602 (fun _ _ h => h) (fun v602 S9 h602 => ?_)
        obtain ⟨⟨r, hr, rfl⟩, rfl⟩ := h602
        refine r_istore (pc := 605) hC dL_build_605 (by decide) ?_
        refine at_lv (lv' := [(0, .ref x), (1, .ref b), (2, .int (nI 0)), (3, .ref c), (4, .ref z), (5, .ref d), (6, .ref g), (7, .int (nI i)), (8, .int y8), (9, .int (nI (bN v))), (10, .int (nI r))]) ⟨rfl, rfl, rfl, rfl, rfl, rfl, rfl, rfl, rfl, rfl, rfl, trivial⟩ ?_
        exact lp r hr
    first | refine r_aload (pc := 538) hC dL_build_538 rfl ?_ | refine r_aloadN (pc := 538) hC dL_build_538 rfl ?_
    refine r_iconst (pc := 540) (nI 2) hC dL_build_540 (by decide) ?_
    refine r_iload (pc := 541) hC dL_build_541 rfl ?_
    first | refine rn_imul (pc := 543) hC dL_build_543 ?_ | refine r_imul (pc := 543) hC dL_build_543 ?_
    refine r_iload (pc := 544) hC dL_build_544 rfl ?_
    first | refine rb_if_eq (pc := 546) (tgt := 553) hC dL_build_546 (by decide) (fun c546 => ?_) (fun c546 => ?_) | refine rn_if_eq (pc := 546) (tgt := 553) hC dL_build_546 (by decide) (by omega) (fun c546 => ?_) (fun c546 => ?_) | refine ri_if_eq (pc := 546) (tgt := 553) hC dL_build_546 (by decide) (fun c546 => ?_) (fun c546 => ?_)
    · -- taken
      refine r_iload (pc := 553) hC dL_build_553 rfl ?_
      refine r_iconst (pc := 555) (nI 1) hC dL_build_555 (by decide) ?_
      refine r_ishr (pc := 556) hC dL_build_556 ?_
      refine r_iconst (pc := 557) (nI 3) hC dL_build_557 (by decide) ?_
      refine q_callS (pc := 558) (k' := k) (n' := s) hC (ct_below hC.fl (m := 3) (by omega) (by omega)) ks_L_15 rfl rfl (Nat.le_of_ble_eq_true rfl) ⟨by decide, by decide⟩ (show k + 0 ≤ k by omega) (show k ≤ 200 by omega) (show s + 0 ≤ s by omega) (show s ≤ 30000 by omega) dL_build_558 (fun _ _ h => h) (fun v558 S9 h558 => ?_)
      obtain ⟨⟨r, hr, rfl⟩, rfl⟩ := h558
      first | refine rb_if_ne (pc := 561) (tgt := 577) hC dL_build_561 (by decide) (fun c561 => ?_) (fun c561 => ?_) | refine rn_if_ne (pc := 561) (tgt := 577) hC dL_build_561 (by decide) (by omega) (fun c561 => ?_) (fun c561 => ?_) | refine ri_if_ne (pc := 561) (tgt := 577) hC dL_build_561 (by decide) (fun c561 => ?_) (fun c561 => ?_)
      · -- taken
        refine r_sipush (pc := 577) (nI 255) hC dL_build_577 (by decide) ?_
        refine at_lv (lv' := [(0, .ref x), (1, .ref b), (2, .int (nI 0)), (3, .ref c), (4, .ref z), (5, .ref d), (6, .ref g), (7, .int (nI i)), (8, .int y8), (9, .int (nI (bN v)))]) ⟨rfl, rfl, rfl, rfl, rfl, rfl, rfl, rfl, rfl, rfl, trivial⟩ ?_
        exact j580 _ (fun q9 => by rw [q9] at c546; exact absurd c546 (by decide)) (fun _ => ⟨255, by omega, rfl⟩)
      · -- not
        refine r_iload (pc := 564) hC dL_build_564 rfl ?_
        refine r_iconst (pc := 566) (nI 2) hC dL_build_566 (by decide) ?_
        refine r_ishr (pc := 567) hC dL_build_567 ?_
        refine r_sipush (pc := 568) (nI 256) hC dL_build_568 (by decide) ?_
        refine q_callS (pc := 571) (k' := k) (n' := s) hC (ct_below hC.fl (m := 256) (by omega) (by omega)) ks_L_15 rfl rfl (Nat.le_of_ble_eq_true rfl) ⟨by decide, by decide⟩ (show k + 0 ≤ k by omega) (show k ≤ 200 by omega) (show s + 0 ≤ s by omega) (show s ≤ 30000 by omega) dL_build_571 (fun _ _ h => h) (fun v571 S9 h571 => ?_)
        obtain ⟨⟨r2, hr2, rfl⟩, rfl⟩ := h571
        refine r_goto (pc := 574) (tgt := 580) hC dL_build_574 (by decide) ?_
        refine at_lv (lv' := [(0, .ref x), (1, .ref b), (2, .int (nI 0)), (3, .ref c), (4, .ref z), (5, .ref d), (6, .ref g), (7, .int (nI i)), (8, .int y8), (9, .int (nI (bN v)))]) ⟨rfl, rfl, rfl, rfl, rfl, rfl, rfl, rfl, rfl, rfl, trivial⟩ ?_
        exact j580 _ (fun q9 => by rw [q9] at c546; exact absurd c546 (by decide)) (fun _ => ⟨r2, by omega, rfl⟩)
    · -- not
      refine r_iconst (pc := 549) (-1) hC dL_build_549 (by decide) ?_
      refine r_goto (pc := 550) (tgt := 580) hC dL_build_550 (by decide) ?_
      refine at_lv (lv' := [(0, .ref x), (1, .ref b), (2, .int (nI 0)), (3, .ref c), (4, .ref z), (5, .ref d), (6, .ref g), (7, .int (nI i)), (8, .int y8), (9, .int (nI (bN v)))]) ⟨rfl, rfl, rfl, rfl, rfl, rfl, rfl, rfl, rfl, rfl, trivial⟩ ?_
      exact j580 _ (fun _ => rfl) (fun q9 => by rw [q9] at c546; exact absurd rfl c546)
  refine r_iload (pc := 510) hC dL_build_510 rfl ?_
  first | refine rn_if_le (pc := 512) (tgt := 535) hC dL_build_512 (by decide) (by omega) (fun c512 => ?_) (fun c512 => ?_) | refine ri_if_le (pc := 512) (tgt := 535) hC dL_build_512 (by decide) (fun c512 => ?_) (fun c512 => ?_)
  · -- taken
    refine r_iconst (pc := 535) (nI 0) hC dL_build_535 (by decide) ?_
    refine at_lv (lv' := [(0, .ref x), (1, .ref b), (2, .int (nI 0)), (3, .ref c), (4, .ref z), (5, .ref d), (6, .ref g), (7, .int (nI i)), (8, .int y8)]) ⟨rfl, rfl, rfl, rfl, rfl, rfl, rfl, rfl, rfl, trivial⟩ ?_
    exact j536 false (fun q9 => by cases q9)
  · -- not
    refine r_iload (pc := 515) hC dL_build_515 rfl ?_
    refine r_iconst (pc := 517) (nI 3) hC dL_build_517 (by decide) ?_
    refine q_callS (pc := 518) (k' := k) (n' := s) hC (ct_below hC.fl (m := 3) (by omega) (by omega)) ks_L_15 rfl rfl (Nat.le_of_ble_eq_true rfl) ⟨by decide, by decide⟩ (show k + 0 ≤ k by omega) (show k ≤ 200 by omega) (show s + 0 ≤ s by omega) (show s ≤ 30000 by omega) dL_build_518 (fun _ _ h => h) (fun v518 S9 h518 => ?_)
    obtain ⟨⟨r, hr, rfl⟩, rfl⟩ := h518
    first | refine rb_if_ne (pc := 521) (tgt := 535) hC dL_build_521 (by decide) (fun c521 => ?_) (fun c521 => ?_) | refine rn_if_ne (pc := 521) (tgt := 535) hC dL_build_521 (by decide) (by omega) (fun c521 => ?_) (fun c521 => ?_) | refine ri_if_ne (pc := 521) (tgt := 535) hC dL_build_521 (by decide) (fun c521 => ?_) (fun c521 => ?_)
    · -- taken
      refine r_iconst (pc := 535) (nI 0) hC dL_build_535 (by decide) ?_
      refine at_lv (lv' := [(0, .ref x), (1, .ref b), (2, .int (nI 0)), (3, .ref c), (4, .ref z), (5, .ref d), (6, .ref g), (7, .int (nI i)), (8, .int y8)]) ⟨rfl, rfl, rfl, rfl, rfl, rfl, rfl, rfl, rfl, trivial⟩ ?_
      exact j536 false (fun q9 => by cases q9)
    · -- not
      first | refine r_aload (pc := 524) hC dL_build_524 rfl ?_ | refine r_aloadN (pc := 524) hC dL_build_524 rfl ?_
      refine r_iconst (pc := 526) (nI 0) hC dL_build_526 (by decide) ?_
      refine r_iald (pc := 527) hC dL_build_527 hB.kg (by rw [hB.mg]; decide) (by rw [hB.mg]; decide) rfl ?_
      refine ri_if_lt (pc := 528) (tgt := 535) hC dL_build_528 (by decide) (fun c528 => ?_) (fun c528 => ?_)
      · -- taken
        refine r_iconst (pc := 535) (nI 0) hC dL_build_535 (by decide) ?_
        refine at_lv (lv' := [(0, .ref x), (1, .ref b), (2, .int (nI 0)), (3, .ref c), (4, .ref z), (5, .ref d), (6, .ref g), (7, .int (nI i)), (8, .int y8)]) ⟨rfl, rfl, rfl, rfl, rfl, rfl, rfl, rfl, rfl, trivial⟩ ?_
        exact j536 false (fun q9 => by cases q9)
      · -- not
        refine r_iconst (pc := 531) (nI 1) hC dL_build_531 (by decide) ?_
        refine r_goto (pc := 532) (tgt := 536) hC dL_build_532 (by decide) ?_
        refine at_lv (lv' := [(0, .ref x), (1, .ref b), (2, .int (nI 0)), (3, .ref c), (4, .ref z), (5, .ref d), (6, .ref g), (7, .int (nI i)), (8, .int y8)]) ⟨rfl, rfl, rfl, rfl, rfl, rfl, rfl, rfl, rfl, trivial⟩ ?_
        exact j536 true (fun _ => ⟨by omega, by omega⟩)
