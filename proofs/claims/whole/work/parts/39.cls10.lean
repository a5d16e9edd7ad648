abbrev rm_X4_digest : Room := { frames := 4, cells := 0, slots := 0, locals := 87 }
set_option maxHeartbeats 4000000 in
set_option maxRecDepth 100000 in
theorem cp_digest {l : Launch} {G : Ids} {S : Ps} {Y : Lay} {σ : Sg} {x n : Nat} (hfl : l.stackTraces = false) (hZ : RC G S Y σ x) (hJ : Inv σ n) (hn5 : n ≤ 511) : Ct l (Cond.code yX4_digest cX4_digest 6 (some .long)) yX4_digest rm_X4_digest G [.ref x] S (fun v S9 => v = some (.long (dig σ)) ∧ CO G S S9 (σ) x) (fun _ _ => False) := by
  refine Ct.of hfl (by decide) (Nat.le_of_ble_eq_true rfl) (fun Γ V hC hR hT hI => ?_)
  have hV := hJ.1
  have hS := hJ.2.1
  have hn := hV.n
  have hb : ∀ m i, i + m = nb σ → At Γ G V 0 0 S [(0, .ref x), (1, .long (dgB σ (dgA (dgD σ (dgA (dgZ σ (dgA (dgA (dgA 179 (nI (mi σ))) (nI (al σ))) (nI (nz σ))) (nz σ)) (nI (nd σ))) (nd σ)) (nI (nb σ))) (i))), (3, .int (nI (i)))] 173 [] := by
    intro m
    induction m with
    | zero =>
      intro i hi
      refine r_iload_n (pc := 173) hC dX4_digest_173 rfl ?_
      first | refine r_aload_n (pc := 174) hC dX4_digest_174 rfl ?_ | refine r_aload_nN (pc := 174) hC dX4_digest_174 rfl ?_
      refine r_gf (pc := 175) (κ := 5) (j := 3) hC cls5 (by decide) kf_X4_28 hZ.kx hZ.x3 dX4_digest_175 ?_
      refine r_callV (pc := 178) hC (ct_size hC.fl hZ.lb) kv_X4_47 cls0 hZ.lb.1 rfl rfl (Nat.le_of_ble_eq_true rfl) ⟨by decide, by decide, by decide, by decide⟩ dX4_digest_178 (fun _ _ h => h.elim) (fun v178 S178 h178 => ?_)
      obtain ⟨rfl, rfl⟩ := h178
      first | refine rn_icmp_ge (pc := 181) (tgt := 230) hC dX4_digest_181 (by decide) (by omega) (by omega) (fun c181 => ?_) (fun c181 => ?_) | refine ri_icmp_ge (pc := 181) (tgt := 230) hC dX4_digest_181 (by decide) (fun c181 => ?_) (fun c181 => ?_)
      · -- taken
        refine r_lload_n (pc := 230) hC dX4_digest_230 rfl ?_
        refine r_lret (pc := 231) hC hR dX4_digest_231 ?_ (by decide) (by decide)
        have e : i = nb σ := by omega
        subst e
        exact ⟨rfl, CO.rfl hZ⟩
      · -- not
        exfalso; omega
    | succ m ih =>
      intro i hi
      have hi2 : i < nb σ := by omega
      refine r_iload_n (pc := 173) hC dX4_digest_173 rfl ?_
      first | refine r_aload_n (pc := 174) hC dX4_digest_174 rfl ?_ | refine r_aload_nN (pc := 174) hC dX4_digest_174 rfl ?_
      refine r_gf (pc := 175) (κ := 5) (j := 3) hC cls5 (by decide) kf_X4_28 hZ.kx hZ.x3 dX4_digest_175 ?_
      refine r_callV (pc := 178) hC (ct_size hC.fl hZ.lb) kv_X4_47 cls0 hZ.lb.1 rfl rfl (Nat.le_of_ble_eq_true rfl) ⟨by decide, by decide, by decide, by decide⟩ dX4_digest_178 (fun _ _ h => h.elim) (fun v178 S178 h178 => ?_)
      obtain ⟨rfl, rfl⟩ := h178
      first | refine rn_icmp_ge (pc := 181) (tgt := 230) hC dX4_digest_181 (by decide) (by omega) (by omega) (fun c181 => ?_) (fun c181 => ?_) | refine ri_icmp_ge (pc := 181) (tgt := 230) hC dX4_digest_181 (by decide) (fun c181 => ?_) (fun c181 => ?_)
      · -- taken
        exfalso; omega
      · -- not
        first | refine r_aload_n (pc := 184) hC dX4_digest_184 rfl ?_ | refine r_aload_nN (pc := 184) hC dX4_digest_184 rfl ?_
        refine r_gf (pc := 185) (κ := 5) (j := 3) hC cls5 (by decide) kf_X4_28 hZ.kx hZ.x3 dX4_digest_185 ?_
        refine r_iload_n (pc := 188) hC dX4_digest_188 rfl ?_
        refine r_callV (pc := 189) hC (ct_get hC.fl hZ.lb hi2) kv_X4_169 cls0 hZ.lb.1 rfl rfl (Nat.le_of_ble_eq_true rfl) ⟨by decide, by decide, by decide, by decide⟩ dX4_digest_189 (fun _ _ h => h.elim) (fun v189 S189 h189 => ?_)
        obtain ⟨rfl, rfl⟩ := h189
        refine r_cast (pc := 192) (κ := 1) hC cls1 kc_X4_127 (hZ.kb hi2) dX4_digest_192 ?_
        first | refine r_astore (pc := 195) hC dX4_digest_195 (by decide) ?_ | refine r_astoreN (pc := 195) hC dX4_digest_195 (by decide) ?_
        refine r_iconst (pc := 197) (nI 0) hC dX4_digest_197 (by decide) ?_
        refine r_istore (pc := 198) hC dX4_digest_198 (by decide) ?_
        have ht : ∀ m j, j + m = 5 → At Γ G V 0 0 S [(0, .ref x), (1, .long (dgT σ (i) (dgB σ (dgA (dgD σ (dgA (dgZ σ (dgA (dgA (dgA 179 (nI (mi σ))) (nI (al σ))) (nI (nz σ))) (nz σ)) (nI (nd σ))) (nd σ)) (nI (nb σ))) (i)) (j))), (3, .int (nI (i))), (4, .ref (Y 2 (i))), (5, .int (nI (j)))] 200 [] := by
          intro m
          induction m with
          | zero =>
            intro j hj
            refine r_iload (pc := 200) hC dX4_digest_200 rfl ?_
            refine r_iconst (pc := 202) (nI 4) hC dX4_digest_202 (by decide) ?_
            first | refine rn_icmp_gt (pc := 203) (tgt := 224) hC dX4_digest_203 (by decide) (by omega) (by omega) (fun c203 => ?_) (fun c203 => ?_) | refine ri_icmp_gt (pc := 203) (tgt := 224) hC dX4_digest_203 (by decide) (fun c203 => ?_) (fun c203 => ?_)
            · -- taken
              first | refine rn_iinc (pc := 224) (q := 1) hC dX4_digest_224 rfl (by decide) ?_ | refine r_iinc (pc := 224) _ hC dX4_digest_224 rfl rfl (by decide) ?_
              refine r_goto (pc := 227) (tgt := 173) hC dX4_digest_227 (by decide) ?_
              have e : j = 5 := by omega
              subst e
              refine at_lv (lv' := [(0, .ref x), (1, .long (dgB σ (dgA (dgD σ (dgA (dgZ σ (dgA (dgA (dgA 179 (nI (mi σ))) (nI (al σ))) (nI (nz σ))) (nz σ)) (nI (nd σ))) (nd σ)) (nI (nb σ))) (i + 1))), (3, .int (nI (i + 1)))]) ⟨rfl, rfl, rfl, trivial⟩ ?_
              exact ih (i + 1) (by omega)
            · -- not
              exfalso; omega
          | succ m iht =>
            intro j hj
            refine r_iload (pc := 200) hC dX4_digest_200 rfl ?_
            refine r_iconst (pc := 202) (nI 4) hC dX4_digest_202 (by decide) ?_
            first | refine rn_icmp_gt (pc := 203) (tgt := 224) hC dX4_digest_203 (by decide) (by omega) (by omega) (fun c203 => ?_) (fun c203 => ?_) | refine ri_icmp_gt (pc := 203) (tgt := 224) hC dX4_digest_203 (by decide) (fun c203 => ?_) (fun c203 => ?_)
            · -- taken
              exfalso; omega
            · -- not
              refine r_lload_n (pc := 206) hC dX4_digest_206 rfl ?_
              first | refine r_aload (pc := 207) hC dX4_digest_207 rfl ?_ | refine r_aloadN (pc := 207) hC dX4_digest_207 rfl ?_
              refine r_iload (pc := 209) hC dX4_digest_209 rfl ?_
              refine r_callV (pc := 211) hC (ct_tell hC.fl hZ hV hi2 (w := j) (by omega)) kv_X4_147 cls1 (hZ.kb hi2) rfl rfl (Nat.le_of_ble_eq_true rfl) ⟨by decide, by decide, by decide, by decide⟩ dX4_digest_211 (fun _ _ h => h.elim) (fun v211 S211 h211 => ?_)
              obtain ⟨rfl, rfl⟩ := h211
              refine r_callS (pc := 214) hC (ct_addTo hC.fl) ks_X4_207 rfl rfl (Nat.le_of_ble_eq_true rfl) ⟨by decide, by decide, by decide, by decide⟩ dX4_digest_214 (fun _ _ h => h.elim) (fun v214 S214 h214 => ?_)
              obtain ⟨rfl, rfl⟩ := h214
              refine r_lstore_n (pc := 217) hC dX4_digest_217 (by decide) ?_
              first | refine rn_iinc (pc := 218) (q := 1) hC dX4_digest_218 rfl (by decide) ?_ | refine r_iinc (pc := 218) _ hC dX4_digest_218 rfl rfl (by decide) ?_
              refine r_goto (pc := 221) (tgt := 200) hC dX4_digest_221 (by decide) ?_
              refine at_lv (lv' := [(0, .ref x), (1, .long (dgT σ (i) (dgB σ (dgA (dgD σ (dgA (dgZ σ (dgA (dgA (dgA 179 (nI (mi σ))) (nI (al σ))) (nI (nz σ))) (nz σ)) (nI (nd σ))) (nd σ)) (nI (nb σ))) (i)) (j + 1))), (3, .int (nI (i))), (4, .ref (Y 2 (i))), (5, .int (nI (j + 1)))]) ⟨rfl, rfl, rfl, rfl, rfl, trivial⟩ ?_
              exact iht (j + 1) (by omega)
        refine at_lv (lv' := [(0, .ref x), (1, .long (dgT σ (i) (dgB σ (dgA (dgD σ (dgA (dgZ σ (dgA (dgA (dgA 179 (nI (mi σ))) (nI (al σ))) (nI (nz σ))) (nz σ)) (nI (nd σ))) (nd σ)) (nI (nb σ))) (i)) (0))), (3, .int (nI (i))), (4, .ref (Y 2 (i))), (5, .int (nI (0)))]) ⟨rfl, rfl, rfl, rfl, rfl, trivial⟩ ?_
        exact ht 5 0 (by omega)
  have hd : ∀ m i, i + m = nd σ → At Γ G V 0 0 S [(0, .ref x), (1, .long (dgD σ (dgA (dgZ σ (dgA (dgA (dgA 179 (nI (mi σ))) (nI (al σ))) (nI (nz σ))) (nz σ)) (nI (nd σ))) (i))), (3, .int (nI (i)))] 119 [] := by
    intro m
    induction m with
    | zero =>
      intro i hi
      refine r_iload_n (pc := 119) hC dX4_digest_119 rfl ?_
      first | refine r_aload_n (pc := 120) hC dX4_digest_120 rfl ?_ | refine r_aload_nN (pc := 120) hC dX4_digest_120 rfl ?_
      refine r_gf (pc := 121) (κ := 5) (j := 2) hC cls5 (by decide) kf_X4_25 hZ.kx hZ.x2 dX4_digest_121 ?_
      refine r_callV (pc := 124) hC (ct_size hC.fl hZ.ld) kv_X4_47 cls0 hZ.ld.1 rfl rfl (Nat.le_of_ble_eq_true rfl) ⟨by decide, by decide, by decide, by decide⟩ dX4_digest_124 (fun _ _ h => h.elim) (fun v124 S124 h124 => ?_)
      obtain ⟨rfl, rfl⟩ := h124
      first | refine rn_icmp_ge (pc := 127) (tgt := 159) hC dX4_digest_127 (by decide) (by omega) (by omega) (fun c127 => ?_) (fun c127 => ?_) | refine ri_icmp_ge (pc := 127) (tgt := 159) hC dX4_digest_127 (by decide) (fun c127 => ?_) (fun c127 => ?_)
      · -- taken
        refine r_lload_n (pc := 159) hC dX4_digest_159 rfl ?_
        first | refine r_aload_n (pc := 160) hC dX4_digest_160 rfl ?_ | refine r_aload_nN (pc := 160) hC dX4_digest_160 rfl ?_
        refine r_gf (pc := 161) (κ := 5) (j := 3) hC cls5 (by decide) kf_X4_28 hZ.kx hZ.x3 dX4_digest_161 ?_
        refine r_callV (pc := 164) hC (ct_size hC.fl hZ.lb) kv_X4_47 cls0 hZ.lb.1 rfl rfl (Nat.le_of_ble_eq_true rfl) ⟨by decide, by decide, by decide, by decide⟩ dX4_digest_164 (fun _ _ h => h.elim) (fun v164 S164 h164 => ?_)
        obtain ⟨rfl, rfl⟩ := h164
        refine r_callS (pc := 167) hC (ct_addTo hC.fl) ks_X4_207 rfl rfl (Nat.le_of_ble_eq_true rfl) ⟨by decide, by decide, by decide, by decide⟩ dX4_digest_167 (fun _ _ h => h.elim) (fun v167 S167 h167 => ?_)
        obtain ⟨rfl, rfl⟩ := h167
        refine r_lstore_n (pc := 170) hC dX4_digest_170 (by decide) ?_
        refine r_iconst (pc := 171) (nI 0) hC dX4_digest_171 (by decide) ?_
        refine r_istore_n (pc := 172) hC dX4_digest_172 (by decide) ?_
        have e : i = nd σ := by omega
        subst e
        refine at_lv (lv' := [(0, .ref x), (1, .long (dgB σ (dgA (dgD σ (dgA (dgZ σ (dgA (dgA (dgA 179 (nI (mi σ))) (nI (al σ))) (nI (nz σ))) (nz σ)) (nI (nd σ))) (nd σ)) (nI (nb σ))) (0))), (3, .int (nI (0)))]) ⟨rfl, rfl, rfl, trivial⟩ ?_
        exact hb (nb σ) 0 (by omega)
      · -- not
        exfalso; omega
    | succ m ih =>
      intro i hi
      have hi2 : i < nd σ := by omega
      refine r_iload_n (pc := 119) hC dX4_digest_119 rfl ?_
      first | refine r_aload_n (pc := 120) hC dX4_digest_120 rfl ?_ | refine r_aload_nN (pc := 120) hC dX4_digest_120 rfl ?_
      refine r_gf (pc := 121) (κ := 5) (j := 2) hC cls5 (by decide) kf_X4_25 hZ.kx hZ.x2 dX4_digest_121 ?_
      refine r_callV (pc := 124) hC (ct_size hC.fl hZ.ld) kv_X4_47 cls0 hZ.ld.1 rfl rfl (Nat.le_of_ble_eq_true rfl) ⟨by decide, by decide, by decide, by decide⟩ dX4_digest_124 (fun _ _ h => h.elim) (fun v124 S124 h124 => ?_)
      obtain ⟨rfl, rfl⟩ := h124
      first | refine rn_icmp_ge (pc := 127) (tgt := 159) hC dX4_digest_127 (by decide) (by omega) (by omega) (fun c127 => ?_) (fun c127 => ?_) | refine ri_icmp_ge (pc := 127) (tgt := 159) hC dX4_digest_127 (by decide) (fun c127 => ?_) (fun c127 => ?_)
      · -- taken
        exfalso; omega
      · -- not
        refine r_lload_n (pc := 130) hC dX4_digest_130 rfl ?_
        first | refine r_aload_n (pc := 131) hC dX4_digest_131 rfl ?_ | refine r_aload_nN (pc := 131) hC dX4_digest_131 rfl ?_
        refine r_gf (pc := 132) (κ := 5) (j := 2) hC cls5 (by decide) kf_X4_25 hZ.kx hZ.x2 dX4_digest_132 ?_
        refine r_iload_n (pc := 135) hC dX4_digest_135 rfl ?_
        refine r_callV (pc := 136) hC (ct_get hC.fl hZ.ld hi2) kv_X4_169 cls0 hZ.ld.1 rfl rfl (Nat.le_of_ble_eq_true rfl) ⟨by decide, by decide, by decide, by decide⟩ dX4_digest_136 (fun _ _ h => h.elim) (fun v136 S136 h136 => ?_)
        obtain ⟨rfl, rfl⟩ := h136
        refine r_cast (pc := 139) (κ := 2) hC cls2 kc_X4_91 (hZ.kd hi2) dX4_digest_139 ?_
        first | refine r_aload_n (pc := 142) hC dX4_digest_142 rfl ?_ | refine r_aload_nN (pc := 142) hC dX4_digest_142 rfl ?_
        refine r_gf (pc := 143) (κ := 5) (j := 4) hC cls5 (by decide) kf_X4_31 hZ.kx hZ.x4 dX4_digest_143 ?_
        refine r_callV (pc := 146) hC (ct_left hC.fl hZ hV hi2) kv_X4_110 cls2 (hZ.kd hi2) rfl rfl (Nat.le_of_ble_eq_true rfl) ⟨by decide, by decide, by decide, by decide⟩ dX4_digest_146 (fun _ _ h => h.elim) (fun v146 S146 h146 => ?_)
        obtain ⟨rfl, rfl⟩ := h146
        refine r_callS (pc := 149) hC (ct_addTo hC.fl) ks_X4_207 rfl rfl (Nat.le_of_ble_eq_true rfl) ⟨by decide, by decide, by decide, by decide⟩ dX4_digest_149 (fun _ _ h => h.elim) (fun v149 S149 h149 => ?_)
        obtain ⟨rfl, rfl⟩ := h149
        refine r_lstore_n (pc := 152) hC dX4_digest_152 (by decide) ?_
        first | refine rn_iinc (pc := 153) (q := 1) hC dX4_digest_153 rfl (by decide) ?_ | refine r_iinc (pc := 153) _ hC dX4_digest_153 rfl rfl (by decide) ?_
        refine r_goto (pc := 156) (tgt := 119) hC dX4_digest_156 (by decide) ?_
        refine at_lv (lv' := [(0, .ref x), (1, .long (dgD σ (dgA (dgZ σ (dgA (dgA (dgA 179 (nI (mi σ))) (nI (al σ))) (nI (nz σ))) (nz σ)) (nI (nd σ))) (i + 1))), (3, .int (nI (i + 1)))]) ⟨rfl, rfl, rfl, trivial⟩ ?_
        exact ih (i + 1) (by omega)
  have hz : ∀ m i, i + m = nz σ → At Γ G V 0 0 S [(0, .ref x), (1, .long (dgZ σ (dgA (dgA (dgA 179 (nI (mi σ))) (nI (al σ))) (nI (nz σ))) (i))), (3, .int (nI (i)))] 42 [] := by
    intro m
    induction m with
    | zero =>
      intro i hi
      refine r_iload_n (pc := 42) hC dX4_digest_42 rfl ?_
      first | refine r_aload_n (pc := 43) hC dX4_digest_43 rfl ?_ | refine r_aload_nN (pc := 43) hC dX4_digest_43 rfl ?_
      refine r_gf (pc := 44) (κ := 5) (j := 1) hC cls5 (by decide) kf_X4_21 hZ.kx hZ.x1 dX4_digest_44 ?_
      refine r_callV (pc := 47) hC (ct_size hC.fl hZ.lz) kv_X4_47 cls0 hZ.lz.1 rfl rfl (Nat.le_of_ble_eq_true rfl) ⟨by decide, by decide, by decide, by decide⟩ dX4_digest_47 (fun _ _ h => h.elim) (fun v47 S47 h47 => ?_)
      obtain ⟨rfl, rfl⟩ := h47
      first | refine rn_icmp_ge (pc := 50) (tgt := 105) hC dX4_digest_50 (by decide) (by omega) (by omega) (fun c50 => ?_) (fun c50 => ?_) | refine ri_icmp_ge (pc := 50) (tgt := 105) hC dX4_digest_50 (by decide) (fun c50 => ?_) (fun c50 => ?_)
      · -- taken
        refine r_lload_n (pc := 105) hC dX4_digest_105 rfl ?_
        first | refine r_aload_n (pc := 106) hC dX4_digest_106 rfl ?_ | refine r_aload_nN (pc := 106) hC dX4_digest_106 rfl ?_
        refine r_gf (pc := 107) (κ := 5) (j := 2) hC cls5 (by decide) kf_X4_25 hZ.kx hZ.x2 dX4_digest_107 ?_
        refine r_callV (pc := 110) hC (ct_size hC.fl hZ.ld) kv_X4_47 cls0 hZ.ld.1 rfl rfl (Nat.le_of_ble_eq_true rfl) ⟨by decide, by decide, by decide, by decide⟩ dX4_digest_110 (fun _ _ h => h.elim) (fun v110 S110 h110 => ?_)
        obtain ⟨rfl, rfl⟩ := h110
        refine r_callS (pc := 113) hC (ct_addTo hC.fl) ks_X4_207 rfl rfl (Nat.le_of_ble_eq_true rfl) ⟨by decide, by decide, by decide, by decide⟩ dX4_digest_113 (fun _ _ h => h.elim) (fun v113 S113 h113 => ?_)
        obtain ⟨rfl, rfl⟩ := h113
        refine r_lstore_n (pc := 116) hC dX4_digest_116 (by decide) ?_
        refine r_iconst (pc := 117) (nI 0) hC dX4_digest_117 (by decide) ?_
        refine r_istore_n (pc := 118) hC dX4_digest_118 (by decide) ?_
        have e : i = nz σ := by omega
        subst e
        refine at_lv (lv' := [(0, .ref x), (1, .long (dgD σ (dgA (dgZ σ (dgA (dgA (dgA 179 (nI (mi σ))) (nI (al σ))) (nI (nz σ))) (nz σ)) (nI (nd σ))) (0))), (3, .int (nI (0)))]) ⟨rfl, rfl, rfl, trivial⟩ ?_
        exact hd (nd σ) 0 (by omega)
      · -- not
        exfalso; omega
    | succ m ih =>
      intro i hi
      have hi2 : i < nz σ := by omega
      refine r_iload_n (pc := 42) hC dX4_digest_42 rfl ?_
      first | refine r_aload_n (pc := 43) hC dX4_digest_43 rfl ?_ | refine r_aload_nN (pc := 43) hC dX4_digest_43 rfl ?_
      refine r_gf (pc := 44) (κ := 5) (j := 1) hC cls5 (by decide) kf_X4_21 hZ.kx hZ.x1 dX4_digest_44 ?_
      refine r_callV (pc := 47) hC (ct_size hC.fl hZ.lz) kv_X4_47 cls0 hZ.lz.1 rfl rfl (Nat.le_of_ble_eq_true rfl) ⟨by decide, by decide, by decide, by decide⟩ dX4_digest_47 (fun _ _ h => h.elim) (fun v47 S47 h47 => ?_)
      obtain ⟨rfl, rfl⟩ := h47
      first | refine rn_icmp_ge (pc := 50) (tgt := 105) hC dX4_digest_50 (by decide) (by omega) (by omega) (fun c50 => ?_) (fun c50 => ?_) | refine ri_icmp_ge (pc := 50) (tgt := 105) hC dX4_digest_50 (by decide) (fun c50 => ?_) (fun c50 => ?_)
      · -- taken
        exfalso; omega
      · -- not
        first | refine r_aload_n (pc := 53) hC dX4_digest_53 rfl ?_ | refine r_aload_nN (pc := 53) hC dX4_digest_53 rfl ?_
        refine r_gf (pc := 54) (κ := 5) (j := 1) hC cls5 (by decide) kf_X4_21 hZ.kx hZ.x1 dX4_digest_54 ?_
        refine r_iload_n (pc := 57) hC dX4_digest_57 rfl ?_
        refine r_callV (pc := 58) hC (ct_get hC.fl hZ.lz hi2) kv_X4_169 cls0 hZ.lz.1 rfl rfl (Nat.le_of_ble_eq_true rfl) ⟨by decide, by decide, by decide, by decide⟩ dX4_digest_58 (fun _ _ h => h.elim) (fun v58 S58 h58 => ?_)
        obtain ⟨rfl, rfl⟩ := h58
        refine r_cast (pc := 61) (κ := 4) hC cls4 kc_X4_9 (hZ.kz hi2) dX4_digest_61 ?_
        first | refine r_astore (pc := 64) hC dX4_digest_64 (by decide) ?_ | refine r_astoreN (pc := 64) hC dX4_digest_64 (by decide) ?_
        refine r_lload_n (pc := 66) hC dX4_digest_66 rfl ?_
        first | refine r_aload (pc := 67) hC dX4_digest_67 rfl ?_ | refine r_aloadN (pc := 67) hC dX4_digest_67 rfl ?_
        first | refine r_aload_n (pc := 69) hC dX4_digest_69 rfl ?_ | refine r_aload_nN (pc := 69) hC dX4_digest_69 rfl ?_
        refine r_gf (pc := 70) (κ := 5) (j := 4) hC cls5 (by decide) kf_X4_31 hZ.kx hZ.x4 dX4_digest_70 ?_
        refine r_callV (pc := 73) hC (ct_hours hC.fl hZ hV hi2) kv_X4_102 cls4 (hZ.kz hi2) rfl rfl (Nat.le_of_ble_eq_true rfl) ⟨by decide, by decide, by decide, by decide⟩ dX4_digest_73 (fun _ _ h => h.elim) (fun v73 S73 h73 => ?_)
        obtain ⟨rfl, rfl⟩ := h73
        first | refine rb_if_eq (pc := 76) (tgt := 83) hC dX4_digest_76 (by decide) (fun c76 => ?_) (fun c76 => ?_) | refine rn_if_eq (pc := 76) (tgt := 83) hC dX4_digest_76 (by decide) (by omega) (fun c76 => ?_) (fun c76 => ?_) | refine ri_if_eq (pc := 76) (tgt := 83) hC dX4_digest_76 (by decide) (fun c76 => ?_) (fun c76 => ?_)
        · -- taken
          refine r_iconst (pc := 83) (nI 0) hC dX4_digest_83 (by decide) ?_
          refine r_callS (pc := 84) hC (ct_addTo hC.fl) ks_X4_207 rfl rfl (Nat.le_of_ble_eq_true rfl) ⟨by decide, by decide, by decide, by decide⟩ dX4_digest_84 (fun _ _ h => h.elim) (fun v84 S84 h84 => ?_)
          obtain ⟨rfl, rfl⟩ := h84
          refine r_lstore_n (pc := 87) hC dX4_digest_87 (by decide) ?_
          refine r_lload_n (pc := 88) hC dX4_digest_88 rfl ?_
          first | refine r_aload_n (pc := 89) hC dX4_digest_89 rfl ?_ | refine r_aload_nN (pc := 89) hC dX4_digest_89 rfl ?_
          first | refine r_aload (pc := 90) hC dX4_digest_90 rfl ?_ | refine r_aloadN (pc := 90) hC dX4_digest_90 rfl ?_
          refine r_callV (pc := 92) hC (ct_badgesIn hC.fl hZ hV hi2) kv_X4_166 cls5 hZ.kx rfl rfl (Nat.le_of_ble_eq_true rfl) ⟨by decide, by decide, by decide, by decide⟩ dX4_digest_92 (fun _ _ h => h.elim) (fun v92 S92 h92 => ?_)
          obtain ⟨rfl, rfl⟩ := h92
          refine r_callS (pc := 95) hC (ct_addTo hC.fl) ks_X4_207 rfl rfl (Nat.le_of_ble_eq_true rfl) ⟨by decide, by decide, by decide, by decide⟩ dX4_digest_95 (fun _ _ h => h.elim) (fun v95 S95 h95 => ?_)
          obtain ⟨rfl, rfl⟩ := h95
          refine r_lstore_n (pc := 98) hC dX4_digest_98 (by decide) ?_
          first | refine rn_iinc (pc := 99) (q := 1) hC dX4_digest_99 rfl (by decide) ?_ | refine r_iinc (pc := 99) _ hC dX4_digest_99 rfl rfl (by decide) ?_
          refine r_goto (pc := 102) (tgt := 42) hC dX4_digest_102 (by decide) ?_
          refine at_lv (lv' := [(0, .ref x), (1, .long (dgZ σ (dgA (dgA (dgA 179 (nI (mi σ))) (nI (al σ))) (nI (nz σ))) (i + 1))), (3, .int (nI (i + 1)))]) ⟨rfl, by show some (Value.long (dgA (dgA _ _) _)) = some (Value.long (dgA (dgA _ (b2i (opn σ i))) _)); rw [c76]; rfl, rfl, trivial⟩ ?_
          exact ih (i + 1) (by omega)
        · -- not
          refine r_iconst (pc := 79) (nI 1) hC dX4_digest_79 (by decide) ?_
          refine r_goto (pc := 80) (tgt := 84) hC dX4_digest_80 (by decide) ?_
          refine r_callS (pc := 84) hC (ct_addTo hC.fl) ks_X4_207 rfl rfl (Nat.le_of_ble_eq_true rfl) ⟨by decide, by decide, by decide, by decide⟩ dX4_digest_84 (fun _ _ h => h.elim) (fun v84 S84 h84 => ?_)
          obtain ⟨rfl, rfl⟩ := h84
          refine r_lstore_n (pc := 87) hC dX4_digest_87 (by decide) ?_
          refine r_lload_n (pc := 88) hC dX4_digest_88 rfl ?_
          first | refine r_aload_n (pc := 89) hC dX4_digest_89 rfl ?_ | refine r_aload_nN (pc := 89) hC dX4_digest_89 rfl ?_
          first | refine r_aload (pc := 90) hC dX4_digest_90 rfl ?_ | refine r_aloadN (pc := 90) hC dX4_digest_90 rfl ?_
          refine r_callV (pc := 92) hC (ct_badgesIn hC.fl hZ hV hi2) kv_X4_166 cls5 hZ.kx rfl rfl (Nat.le_of_ble_eq_true rfl) ⟨by decide, by decide, by decide, by decide⟩ dX4_digest_92 (fun _ _ h => h.elim) (fun v92 S92 h92 => ?_)
          obtain ⟨rfl, rfl⟩ := h92
          refine r_callS (pc := 95) hC (ct_addTo hC.fl) ks_X4_207 rfl rfl (Nat.le_of_ble_eq_true rfl) ⟨by decide, by decide, by decide, by decide⟩ dX4_digest_95 (fun _ _ h => h.elim) (fun v95 S95 h95 => ?_)
          obtain ⟨rfl, rfl⟩ := h95
          refine r_lstore_n (pc := 98) hC dX4_digest_98 (by decide) ?_
          first | refine rn_iinc (pc := 99) (q := 1) hC dX4_digest_99 rfl (by decide) ?_ | refine r_iinc (pc := 99) _ hC dX4_digest_99 rfl rfl (by decide) ?_
          refine r_goto (pc := 102) (tgt := 42) hC dX4_digest_102 (by decide) ?_
          refine at_lv (lv' := [(0, .ref x), (1, .long (dgZ σ (dgA (dgA (dgA 179 (nI (mi σ))) (nI (al σ))) (nI (nz σ))) (i + 1))), (3, .int (nI (i + 1)))]) ⟨rfl, by show some (Value.long (dgA (dgA _ _) _)) = some (Value.long (dgA (dgA _ (b2i (opn σ i))) _)); rw [c76]; rfl, rfl, trivial⟩ ?_
          exact ih (i + 1) (by omega)
  refine r_ldc2 (pc := 0) hC dX4_digest_0 kk_X4_205 ?_
  first | refine r_aload_n (pc := 3) hC dX4_digest_3 rfl ?_ | refine r_aload_nN (pc := 3) hC dX4_digest_3 rfl ?_
  refine r_gf (pc := 4) (κ := 5) (j := 4) hC cls5 (by decide) kf_X4_31 hZ.kx hZ.x4 dX4_digest_4 ?_
  refine r_callS (pc := 7) hC (ct_addTo hC.fl) ks_X4_207 rfl rfl (Nat.le_of_ble_eq_true rfl) ⟨by decide, by decide, by decide, by decide⟩ dX4_digest_7 (fun _ _ h => h.elim) (fun v7 S7 h7 => ?_)
  obtain ⟨rfl, rfl⟩ := h7
  refine r_lstore_n (pc := 10) hC dX4_digest_10 (by decide) ?_
  refine r_lload_n (pc := 11) hC dX4_digest_11 rfl ?_
  first | refine r_aload_n (pc := 12) hC dX4_digest_12 rfl ?_ | refine r_aload_nN (pc := 12) hC dX4_digest_12 rfl ?_
  refine r_gf (pc := 13) (κ := 5) (j := 5) hC cls5 (by decide) kf_X4_35 hZ.kx hZ.x5 dX4_digest_13 ?_
  first | refine rb_if_eq (pc := 16) (tgt := 23) hC dX4_digest_16 (by decide) (fun c16 => ?_) (fun c16 => ?_) | refine rn_if_eq (pc := 16) (tgt := 23) hC dX4_digest_16 (by decide) (by omega) (fun c16 => ?_) (fun c16 => ?_) | refine ri_if_eq (pc := 16) (tgt := 23) hC dX4_digest_16 (by decide) (fun c16 => ?_) (fun c16 => ?_)
  · -- taken
    refine r_iconst (pc := 23) (nI 0) hC dX4_digest_23 (by decide) ?_
    refine r_callS (pc := 24) hC (ct_addTo hC.fl) ks_X4_207 rfl rfl (Nat.le_of_ble_eq_true rfl) ⟨by decide, by decide, by decide, by decide⟩ dX4_digest_24 (fun _ _ h => h.elim) (fun v24 S24 h24 => ?_)
    obtain ⟨rfl, rfl⟩ := h24
    refine r_lstore_n (pc := 27) hC dX4_digest_27 (by decide) ?_
    refine r_lload_n (pc := 28) hC dX4_digest_28 rfl ?_
    first | refine r_aload_n (pc := 29) hC dX4_digest_29 rfl ?_ | refine r_aload_nN (pc := 29) hC dX4_digest_29 rfl ?_
    refine r_gf (pc := 30) (κ := 5) (j := 1) hC cls5 (by decide) kf_X4_21 hZ.kx hZ.x1 dX4_digest_30 ?_
    refine r_callV (pc := 33) hC (ct_size hC.fl hZ.lz) kv_X4_47 cls0 hZ.lz.1 rfl rfl (Nat.le_of_ble_eq_true rfl) ⟨by decide, by decide, by decide, by decide⟩ dX4_digest_33 (fun _ _ h => h.elim) (fun v33 S33 h33 => ?_)
    obtain ⟨rfl, rfl⟩ := h33
    refine r_callS (pc := 36) hC (ct_addTo hC.fl) ks_X4_207 rfl rfl (Nat.le_of_ble_eq_true rfl) ⟨by decide, by decide, by decide, by decide⟩ dX4_digest_36 (fun _ _ h => h.elim) (fun v36 S36 h36 => ?_)
    obtain ⟨rfl, rfl⟩ := h36
    refine r_lstore_n (pc := 39) hC dX4_digest_39 (by decide) ?_
    refine r_iconst (pc := 40) (nI 0) hC dX4_digest_40 (by decide) ?_
    refine r_istore_n (pc := 41) hC dX4_digest_41 (by decide) ?_
    have ea : al σ = 0 := by omega
    refine at_lv (lv' := [(0, .ref x), (1, .long (dgZ σ (dgA (dgA (dgA 179 (nI (mi σ))) (nI (al σ))) (nI (nz σ))) (0))), (3, .int (nI (0)))]) ⟨rfl, by show some (Value.long (dgA (dgA _ _) _)) = some (Value.long (dgA (dgA _ (nI (al σ))) _)); rw [ea], rfl, trivial⟩ ?_
    exact hz (nz σ) 0 (by omega)
  · -- not
    refine r_iconst (pc := 19) (nI 1) hC dX4_digest_19 (by decide) ?_
    refine r_goto (pc := 20) (tgt := 24) hC dX4_digest_20 (by decide) ?_
    refine r_callS (pc := 24) hC (ct_addTo hC.fl) ks_X4_207 rfl rfl (Nat.le_of_ble_eq_true rfl) ⟨by decide, by decide, by decide, by decide⟩ dX4_digest_24 (fun _ _ h => h.elim) (fun v24 S24 h24 => ?_)
    obtain ⟨rfl, rfl⟩ := h24
    refine r_lstore_n (pc := 27) hC dX4_digest_27 (by decide) ?_
    refine r_lload_n (pc := 28) hC dX4_digest_28 rfl ?_
    first | refine r_aload_n (pc := 29) hC dX4_digest_29 rfl ?_ | refine r_aload_nN (pc := 29) hC dX4_digest_29 rfl ?_
    refine r_gf (pc := 30) (κ := 5) (j := 1) hC cls5 (by decide) kf_X4_21 hZ.kx hZ.x1 dX4_digest_30 ?_
    refine r_callV (pc := 33) hC (ct_size hC.fl hZ.lz) kv_X4_47 cls0 hZ.lz.1 rfl rfl (Nat.le_of_ble_eq_true rfl) ⟨by decide, by decide, by decide, by decide⟩ dX4_digest_33 (fun _ _ h => h.elim) (fun v33 S33 h33 => ?_)
    obtain ⟨rfl, rfl⟩ := h33
    refine r_callS (pc := 36) hC (ct_addTo hC.fl) ks_X4_207 rfl rfl (Nat.le_of_ble_eq_true rfl) ⟨by decide, by decide, by decide, by decide⟩ dX4_digest_36 (fun _ _ h => h.elim) (fun v36 S36 h36 => ?_)
    obtain ⟨rfl, rfl⟩ := h36
    refine r_lstore_n (pc := 39) hC dX4_digest_39 (by decide) ?_
    refine r_iconst (pc := 40) (nI 0) hC dX4_digest_40 (by decide) ?_
    refine r_istore_n (pc := 41) hC dX4_digest_41 (by decide) ?_
    have ea : al σ = 1 := by omega
    refine at_lv (lv' := [(0, .ref x), (1, .long (dgZ σ (dgA (dgA (dgA 179 (nI (mi σ))) (nI (al σ))) (nI (nz σ))) (0))), (3, .int (nI (0)))]) ⟨rfl, by show some (Value.long (dgA (dgA _ _) _)) = some (Value.long (dgA (dgA _ (nI (al σ))) _)); rw [ea], rfl, trivial⟩ ?_
    exact hz (nz σ) 0 (by omega)
